def nxF (f : Nat → Int32) : Nat → Int32 := upd (upd f 0 (((f 0) * 1103515245) + 12345)) 0 (((upd f 0 (((f 0) * 1103515245) + 12345)) 0) ^^^ ((((upd f 0 (((f 0) * 1103515245) + 12345)) 0).toUInt32 >>> ((15 : Int32).toUInt32 &&& Int32.toUInt32 31)).toInt32))
def nxN (f : Nat → Int32) : Nat := (nxF f 0).toBitVec.toNat / 2 ^ 9
theorem nxN_lt (f : Nat → Int32) : nxN f < 8388608 := nxt_lt _
set_option maxHeartbeats 4000000 in
theorem c_L_nextN (l : Launch) (D : va_G) (tb : Nat → ClassId) (X : State → Prop) (z0 n : Nat) (ra : Nat) (f : Nat → Int32) (M : me_M)  (hrr : M ra = some (.inl (tb 0, 1, .inl f))) : Met l yL_next (.code yL_next cL_next 1 (some .int) :: ws_all) ({ frames := 0, cells := 0, slots := 0, locals := 0 } : Room) (me_Pc [.ref ra] D tb X z0 (M) n) (me_Qi D z0 (nI (nxN f)) (me_up M ra (.inl (tb 0, 1, .inl (nxF f)))) n) 0 0 (me_A z0) := by
  refine me_open (by decide) (Nat.le_of_ble_eq_true rfl) ?_
  intro p e s m args below meth c ls hC hr hlk hnm hM hl
  have hl : lv_has ls 1 [(0, .ref ra)] := hl
  have hx := hC.1
  have hb := hC.2.1
  have hw := hC.2.2.2.2.1
  refine lv_aload_n hx hb dL_next_0 rfl (lv_at hl 0 rfl) ?_
  refine lv_iconst (v := 0) hx hb dL_next_1 (by decide) ?_
  refine lv_aload_n hx hb dL_next_2 rfl (lv_at hl 0 rfl) ?_
  refine lv_iconst (v := 0) hx hb dL_next_3 (by decide) ?_
  refine me_iald (k := 0) hC hM hrr (show (0 : Int32) = nI 0 from rfl) (by omega) (by decide) dL_next_4 ?_
  refine lv_ldc (v := 1103515245) hx hb hC.2.2.2.1 (hw _ w_693) dL_next_5 ?_
  refine lv_imul hx hb dL_next_7 ?_
  refine lv_sipush (v := 12345) hx hb dL_next_8 (by decide) ?_
  refine lv_iadd hx hb dL_next_11 ?_
  refine me_iast (k := 0) (M2 := me_up M ra (.inl (tb 0, 1, .inl (upd f 0 (((f 0) * 1103515245) + 12345))))) hC hM hrr (show (0 : Int32) = nI 0 from rfl) (by omega) (by decide) rfl dL_next_12 (fun H locs hM => ?_)
  refine lv_aload_n hx hb dL_next_13 rfl (lv_at hl 0 rfl) ?_
  refine lv_iconst (v := 0) hx hb dL_next_14 (by decide) ?_
  refine lv_dup2_11 hx hb dL_next_15 rfl rfl ?_
  refine me_iald (k := 0) hC hM (me_up_s _ _ _) (show (0 : Int32) = nI 0 from rfl) (by omega) (by decide) dL_next_16 ?_
  refine lv_aload_n hx hb dL_next_17 rfl (lv_at hl 0 rfl) ?_
  refine lv_iconst (v := 0) hx hb dL_next_18 (by decide) ?_
  refine me_iald (k := 0) hC hM (me_up_s _ _ _) (show (0 : Int32) = nI 0 from rfl) (by omega) (by decide) dL_next_19 ?_
  refine lv_bipush (v := 15) hx hb dL_next_20 (by decide) ?_
  refine lv_iushr (v := (((upd f 0 (((f 0) * 1103515245) + 12345)) 0).toUInt32 >>> ((15 : Int32).toUInt32 &&& Int32.toUInt32 31)).toInt32) hx hb dL_next_22 rfl ?_
  refine lv_ixor hx hb dL_next_23 ?_
  refine me_iast (k := 0) (M2 := me_up M ra (.inl (tb 0, 1, .inl (upd (upd f 0 (((f 0) * 1103515245) + 12345)) 0 (((upd f 0 (((f 0) * 1103515245) + 12345)) 0) ^^^ ((((upd f 0 (((f 0) * 1103515245) + 12345)) 0).toUInt32 >>> ((15 : Int32).toUInt32 &&& Int32.toUInt32 31)).toInt32)))))) hC hM (me_up_s _ _ _) (show (0 : Int32) = nI 0 from rfl) (by omega) (by decide) (me_up_up _ _ _ _) dL_next_24 (fun H locs hM => ?_)
  refine lv_aload_n hx hb dL_next_25 rfl (lv_at hl 0 rfl) ?_
  refine lv_iconst (v := 0) hx hb dL_next_26 (by decide) ?_
  refine me_iald (k := 0) hC hM (me_up_s _ _ _) (show (0 : Int32) = nI 0 from rfl) (by omega) (by decide) dL_next_27 ?_
  refine lv_bipush (v := 9) hx hb dL_next_28 (by decide) ?_
  refine lv_iushr (v := (((upd (upd f 0 (((f 0) * 1103515245) + 12345)) 0 (((upd f 0 (((f 0) * 1103515245) + 12345)) 0) ^^^ ((((upd f 0 (((f 0) * 1103515245) + 12345)) 0).toUInt32 >>> ((15 : Int32).toUInt32 &&& Int32.toUInt32 31)).toInt32))) 0).toUInt32 >>> ((9 : Int32).toUInt32 &&& Int32.toUInt32 31)).toInt32) hx hb dL_next_30 rfl ?_
  exact me_iret hC hr hlk hM (nxt_v _) (rfl) (rfl) dL_next_31
set_option maxHeartbeats 4000000 in
theorem c_L_bureau (l : Launch) (D : va_G) (tb : Nat → ClassId) (X : State → Prop) (z0 n : Nat) (kK kV : Nat → Nat) (kO kT : Nat) (S B ra : Nat) (f : Nat → Int32) (M : me_M)  (hKS : ∀ U, X U → me_ks kK kV z0 U) (hKD : ∀ U, X U → me_kd kO kT z0 U) (hS1 : 1 ≤ S) (hS3 : S ≤ 3) (hB5 : B ≤ 5) (hrr : M ra = some (.inl (tb 0, 1, .inl f))) (hran : ra < n) (hfr0 : ∀ q, n ≤ q → M q = none) : Met l yL_bureau (.code yL_bureau cL_bureau 5 (Option.some (Jvm.ClassFile.FieldType.object "java/lang/String")) :: ws_all) ({ frames := 9, cells := 68, slots := 12901, locals := 200 } : Room) (me_Pc [.int (nI S), .int (nI B), .ref ra] D tb X z0 (M) n) (me_Qt D z0 (fun q M1 => ∃ (a b h k : Nat) (t : Nat → Int32) (l : List Nat) (f1 : Nat → Int32) (n1 : Nat), a < 5 ∧ b < 20 ∧ h < 30 ∧ boQ (1 + a) b S B l ∧ hasT k t (l ++ ksN 11 ++ dig (1 + h)) ∧ k ≤ 170 ∧ q = n1 ∧ n ≤ n1 ∧ M1 = me_up (me_up (me_up M ra (.inl (tb 0, 1, .inl f1))) n1 (.inr (8, [.ref (n1 + 1), .int 0, .int 0, .int 0]))) (n1 + 1) (.inl (tb 1, k, .inl (tx k t))))) 68 12901 (me_A z0) := by
  refine me_open (by decide) (Nat.le_of_ble_eq_true rfl) ?_
  intro p e s m args below meth c ls hC hr hlk hnm hM hl
  have hl : lv_has ls 5 [(0, .int (nI S)), (1, .int (nI B)), (2, .ref ra)] := hl
  have hx := hC.1
  have hb := hC.2.1
  have hw := hC.2.2.2.2.1
  refine me_new (C := RJ4) (T := TJ4) (N := 4) (ci := 9) (fs := [.null, .int 0, .int 0, .int 0]) (M2 := me_up M n (.inr (9, [.null, .int 0, .int 0, .int 0]))) hC hM in_J4 tyJ4 tyJ4_ok w_855 w_856 w_15 rfl (fun j hj => by rcases (show j = 0 ∨ j = 1 ∨ j = 2 ∨ j = 3 by omega) with rfl | rfl | rfl | rfl <;> rfl) (Nat.le_of_ble_eq_true rfl) (Nat.le_of_ble_eq_true rfl) rfl dL_bureau_0 (fun H hM => ?_)
  refine lv_dup hx hb dL_bureau_3 rfl ?_
  refine va_ldcS hx hb hC.2.2.2.1 (hKS s hC.2.2.2.2.2.1.2).2.2.2.2.2.2.2.2.2.2.2.1 dL_bureau_4 ?_
  refine me_callIv (As := [.ref (kK 8)]) (rest := [.ref n]) hC hl.1 hM (c_J4_init_a7421 l D tb X z0 (n + 1) kK kV kO kT n (me_up M n (.inr (9, [.null, .int 0, .int 0, .int 0]))) hKS hKD (me_up_s _ _ _) (by omega)) (ki_L_76 hw rfl rfl ⟨Nat.le_of_ble_eq_true rfl, Nat.le_of_ble_eq_true rfl⟩) rfl rfl (Nat.le_of_ble_eq_true rfl) dL_bureau_6 ⟨Nat.le_of_ble_eq_true rfl, Nat.le_of_ble_eq_true rfl⟩ (fun H locs hM => ?_)
  have hM := hM.eq sb_first
  have hT := hT_8
  have hM := me_atn hM (show n + 1 + 1 = sn n 7 from rfl)
  refine lv_iconst (v := 1) hx hb dL_bureau_9 (by decide) ?_
  refine lv_aload_n hx hb dL_bureau_10 rfl (lv_at hl 2 rfl) ?_
  refine me_callSi (As := [.ref ra]) (rest := [.int 1, .ref n]) hC hl.1 hM (c_L_nextN l D tb X z0 (sn n 7) ra f (sbT tb M n 7 t8) ((sbT_out (by omega)).trans hrr)) (ks_L_79 hw rfl rfl ⟨Nat.le_of_ble_eq_true rfl, Nat.le_of_ble_eq_true rfl⟩) rfl rfl (Nat.le_of_ble_eq_true rfl) dL_bureau_11 ⟨Nat.le_of_ble_eq_true rfl, Nat.le_of_ble_eq_true rfl⟩ (fun H locs hM => ?_)
  have hM := hM.eq (sbT_up (by omega))
  have hv_1 := nxN_lt f
  generalize nxN f = v_1 at hv_1 ⊢
  generalize nxF f = f_1 at hM
  refine lv_iconst (v := 5) hx hb dL_bureau_14 (by decide) ?_
  refine lv_irem hx hb dL_bureau_15 (by decide) ?_
  refine me_evi (y := nI (v_1 % 5)) (nx_rem 5 rfl (by omega) (by omega) (by omega)) ?_
  refine lv_iadd hx hb dL_bureau_16 ?_
  refine me_stk (st2 := [.int (nI (1 + (v_1 % 5))), .ref n]) (by rw [(nx_add (show (1 : Int32) = nI 1 from rfl) rfl)]) ?_
  have hd_1 := dg_lt10 (w := 1 + (v_1 % 5)) (by omega)
  refine me_callVr (As := [.int (nI (1 + (v_1 % 5)))]) (rest := []) hC hl.1 hM (c_J4_append_bf812 l D tb X z0 kK kV kO kT n 7 (1 + (v_1 % 5)) t8 (me_up M ra (.inl (tb 0, 1, .inl f_1))) hKS hKD (fun q hq => (me_up_n (by omega)).trans (hfr0 q hq)) (by omega) (by omega) hT.2.2) (kv_L_83 hw rfl rfl ⟨Nat.le_of_ble_eq_true rfl, Nat.le_of_ble_eq_true rfl⟩) rfl rfl sbT_o rfl (Nat.le_of_ble_eq_true rfl) dL_bureau_17 ⟨Nat.le_of_ble_eq_true rfl, Nat.le_of_ble_eq_true rfl⟩ (fun H locs hM => ?_)
  have hT := hT_int (w := 1 + (v_1 % 5)) hT
  have hk_1 : 7 + (sb_dg (1 + (v_1 % 5)) + 0) = 7 + (sb_dg (1 + (v_1 % 5)) + 0) := rfl
  generalize hz_1 : 7 + (sb_dg (1 + (v_1 % 5)) + 0) = k_1 at hM hT hk_1
  generalize gsF (1 + (v_1 % 5)) 0 (k_1) t8 = t_1 at hM hT
  refine lv_bipush (v := 32) hx hb dL_bureau_20 (by decide) ?_
  refine me_callVr (As := [.int 32]) (rest := []) hC hl.1 hM (c_J4_append_cf468 l D tb X z0 kK kV kO kT n k_1 32 t_1 (me_up M ra (.inl (tb 0, 1, .inl f_1))) hKS hKD (fun q hq => (me_up_n (by omega)).trans (hfr0 q hq)) (by omega) (by omega) hT.2.2) (kv_L_86 hw rfl rfl ⟨Nat.le_of_ble_eq_true rfl, Nat.le_of_ble_eq_true rfl⟩) rfl rfl sbT_o rfl (Nat.le_of_ble_eq_true rfl) dL_bureau_22 ⟨Nat.le_of_ble_eq_true rfl, Nat.le_of_ble_eq_true rfl⟩ (fun H locs hM => ?_)
  have hT := hT_chr hT (show 32 < 128 by omega)
  have hk_2 : k_1 + 1 = k_1 + 1 := rfl
  generalize hz_2 : k_1 + 1 = k_2 at hM hT hk_2
  generalize upd t_1 k_1 (sb_b 32) = t_2 at hM hT
  refine lv_aload_n hx hb dL_bureau_25 rfl (lv_at hl 2 rfl) ?_
  refine me_callSi (As := [.ref ra]) (rest := [.ref n]) hC hl.1 hM (c_L_nextN l D tb X z0 (sn n k_2) ra f_1 (sbT tb (me_up M ra (.inl (tb 0, 1, .inl f_1))) n k_2 t_2) ((sbT_out (by omega)).trans (me_up_s _ _ _))) (ks_L_79 hw rfl rfl ⟨Nat.le_of_ble_eq_true rfl, Nat.le_of_ble_eq_true rfl⟩) rfl rfl (Nat.le_of_ble_eq_true rfl) dL_bureau_26 ⟨Nat.le_of_ble_eq_true rfl, Nat.le_of_ble_eq_true rfl⟩ (fun H locs hM => ?_)
  have hM := hM.eq (sbT_up2 (by omega))
  have hv_2 := nxN_lt f_1
  generalize nxN f_1 = v_2 at hv_2 ⊢
  generalize nxF f_1 = f_2 at hM
  refine lv_bipush (v := 20) hx hb dL_bureau_29 (by decide) ?_
  refine lv_irem hx hb dL_bureau_31 (by decide) ?_
  refine me_evi (y := nI (v_2 % 20)) (nx_rem 20 rfl (by omega) (by omega) (by omega)) ?_
  have hd_3 := dg_lt100 (w := v_2 % 20) (by omega)
  refine me_callVr (As := [.int (nI (v_2 % 20))]) (rest := []) hC hl.1 hM (c_J4_append_bf812 l D tb X z0 kK kV kO kT n k_2 (v_2 % 20) t_2 (me_up M ra (.inl (tb 0, 1, .inl f_2))) hKS hKD (fun q hq => (me_up_n (by omega)).trans (hfr0 q hq)) (by omega) (by omega) hT.2.2) (kv_L_83 hw rfl rfl ⟨Nat.le_of_ble_eq_true rfl, Nat.le_of_ble_eq_true rfl⟩) rfl rfl sbT_o rfl (Nat.le_of_ble_eq_true rfl) dL_bureau_32 ⟨Nat.le_of_ble_eq_true rfl, Nat.le_of_ble_eq_true rfl⟩ (fun H locs hM => ?_)
  have hT := hT_int (w := v_2 % 20) hT
  have hk_3 : k_2 + (sb_dg (v_2 % 20) + 0) = k_2 + (sb_dg (v_2 % 20) + 0) := rfl
  generalize hz_3 : k_2 + (sb_dg (v_2 % 20) + 0) = k_3 at hM hT hk_3
  generalize gsF (v_2 % 20) 0 (k_3) t_2 = t_3 at hM hT
  refine lv_astore_n (lv' := [(3, .ref n), (0, .int (nI S)), (1, .int (nI B)), (2, .ref ra)]) hx hb dL_bureau_35 rfl hl (by decide) rfl (fun ls hl => ?_)
  refine lv_iconst (v := 0) hx hb dL_bureau_36 (by decide) ?_
  refine lv_istore (lv' := [(4, .int 0), (3, .ref n), (0, .int (nI S)), (1, .int (nI B)), (2, .ref ra)]) hx hb dL_bureau_37 hl (by decide) rfl (fun ls hl => ?_)
  have lp_39 : ∀ (r1 : Nat) (i1 : Nat) (kk1 : Nat) (tt1 : Nat → Int32) (ll1 : List Nat) (ff1 : Nat → Int32) (H : Heap) (locs : List Loc) (ls : Array Slot), (i1 + r1 = S) → (hasT kk1 tt1 ll1) → (stQ (1 + v_1 % 5) (v_2 % 20) i1 ll1) → (kk1 ≤ 11 + 15 * i1) → me_at D z0 (sbT tb (me_up M ra (.inl (tb 0, 1, .inl ff1))) n kk1 tt1) (sn n kk1) s H locs → lv_has ls 5 [(0, .int (nI S)), (1, .int (nI B)), (2, .ref ra), (3, .ref n), (4, .int (nI i1))] → W p l e (({ frames := 9, cells := 68, slots := 12901, locals := 200 } : Room)) s m args below meth c H locs (6 + 6 * i1) (819 + 1188 * i1) (MQ below (me_Qt D z0 (fun q M1 => ∃ (a b h k : Nat) (t : Nat → Int32) (l : List Nat) (f1 : Nat → Int32) (n1 : Nat), a < 5 ∧ b < 20 ∧ h < 30 ∧ boQ (1 + a) b S B l ∧ hasT k t (l ++ ksN 11 ++ dig (1 + h)) ∧ k ≤ 170 ∧ q = n1 ∧ n ≤ n1 ∧ M1 = me_up (me_up (me_up M ra (.inl (tb 0, 1, .inl f1))) n1 (.inr (8, [.ref (n1 + 1), .int 0, .int 0, .int 0]))) (n1 + 1) (.inl (tb 1, k, .inl (tx k t))))) args s 68 12901 (me_A z0)) (F0 m 39 ls []) := by
    intro r1
    refine Nat.strongRecOn r1 ?_
    intro r1 ih_39 i1 kk1 tt1 ll1 ff1 H locs ls hk1 hT hL1 hb1 hM hl
    refine lv_iload hx hb dL_bureau_39 (lv_at hl 4 rfl) ?_
    refine lv_iload_n hx hb dL_bureau_41 rfl (lv_at hl 0 rfl) ?_
    refine lv_icmp_ge (tgt := 97) hx hb dL_bureau_42 (by decide) (fun c_1 => ?_) (fun c_1 => ?_)
    · have c_1 := (br_le rfl rfl (by omega) (by omega)).mp c_1
      have hL1S : stQ (1 + v_1 % 5) (v_2 % 20) S ll1 := by rw [show S = i1 by omega]; exact hL1
      refine W.widen (k := 24) (n := 4383) (by omega) (by omega) ?_
      refine lv_iconst (v := 0) hx hb dL_bureau_97 (by decide) ?_
      refine lv_istore (lv' := [(4, .int 0), (0, .int (nI S)), (1, .int (nI B)), (2, .ref ra), (3, .ref n)]) hx hb dL_bureau_98 hl (by decide) rfl (fun ls hl => ?_)
      have lp_100 : ∀ (r2 : Nat) (i2 : Nat) (kk2 : Nat) (tt2 : Nat → Int32) (ll2 : List Nat) (ff2 : Nat → Int32) (H : Heap) (locs : List Loc) (ls : Array Slot), (i2 + r2 = B) → (hasT kk2 tt2 ll2) → (boQ (1 + v_1 % 5) (v_2 % 20) S i2 ll2) → (kk2 ≤ 56 + 19 * i2) → me_at D z0 (sbT tb (me_up M ra (.inl (tb 0, 1, .inl ff2))) n kk2 tt2) (sn n kk2) s H locs → lv_has ls 5 [(0, .int (nI S)), (1, .int (nI B)), (2, .ref ra), (3, .ref n), (4, .int (nI i2))] → W p l e (({ frames := 9, cells := 68, slots := 12901, locals := 200 } : Room)) s m args below meth c H locs (24 + 8 * i2) (4383 + 1584 * i2) (MQ below (me_Qt D z0 (fun q M1 => ∃ (a b h k : Nat) (t : Nat → Int32) (l : List Nat) (f1 : Nat → Int32) (n1 : Nat), a < 5 ∧ b < 20 ∧ h < 30 ∧ boQ (1 + a) b S B l ∧ hasT k t (l ++ ksN 11 ++ dig (1 + h)) ∧ k ≤ 170 ∧ q = n1 ∧ n ≤ n1 ∧ M1 = me_up (me_up (me_up M ra (.inl (tb 0, 1, .inl f1))) n1 (.inr (8, [.ref (n1 + 1), .int 0, .int 0, .int 0]))) (n1 + 1) (.inl (tb 1, k, .inl (tx k t))))) args s 68 12901 (me_A z0)) (F0 m 100 ls []) := by
        intro r2
        refine Nat.strongRecOn r2 ?_
        intro r2 ih_100 i2 kk2 tt2 ll2 ff2 H locs ls hk2 hT hL2 hb2 hM hl
        refine lv_iload hx hb dL_bureau_100 (lv_at hl 4 rfl) ?_
        refine lv_iload_n hx hb dL_bureau_102 rfl (lv_at hl 1 rfl) ?_
        refine lv_icmp_ge (tgt := 177) hx hb dL_bureau_103 (by decide) (fun c_2 => ?_) (fun c_2 => ?_)
        · have c_2 := (br_le rfl rfl (by omega) (by omega)).mp c_2
          have hL2B : boQ (1 + v_1 % 5) (v_2 % 20) S B ll2 := by rw [show B = i2 by omega]; exact hL2
          refine lv_aload_n hx hb dL_bureau_177 rfl (lv_at hl 3 rfl) ?_
          refine va_ldcS hx hb hC.2.2.2.1 (hKS s hC.2.2.2.2.2.1.2).2.2.2.2.2.2.2.2.2.2.2.2.2.2 dL_bureau_178 ?_
          refine me_callVr (As := [.ref (kK 11)]) (rest := []) hC hl.1 hM (c_J4_append_15ec4 l D tb X z0 kK kV kO kT n kk2 11 tt2 (me_up M ra (.inl (tb 0, 1, .inl ff2))) hKS hKD (fun q hq => (me_up_n (by omega)).trans (hfr0 q hq)) (by show kk2 + 7 ≤ 198; omega) (by decide) (by decide) hT.2.2) (kv_L_91 hw rfl rfl ⟨Nat.le_of_ble_eq_true rfl, Nat.le_of_ble_eq_true rfl⟩) rfl rfl sbT_o rfl (Nat.le_of_ble_eq_true rfl) dL_bureau_180 ⟨by show (24 + 8 * i2) + 1 ≤ 68; omega, by show (4383 + 1584 * i2) + 198 ≤ 12901; omega⟩ (fun H locs hM => ?_)
          have hT := hT_txt (i := 11) hT (by decide) (by decide)
          have hk_4 : kk2 + ks_len.getD 11 0 = kk2 + 7 := rfl
          generalize hz_4 : kk2 + ks_len.getD 11 0 = k_4 at hM hT hk_4
          generalize va_cpy (ks_c 11) tt2 0 kk2 (ks_len.getD 11 0) = t_4 at hM hT
          refine lv_iconst (v := 1) hx hb dL_bureau_183 (by decide) ?_
          refine lv_aload_n hx hb dL_bureau_184 rfl (lv_at hl 2 rfl) ?_
          refine me_callSi (As := [.ref ra]) (rest := [.int 1, .ref n]) hC hl.1 hM (c_L_nextN l D tb X z0 (sn n k_4) ra ff2 (sbT tb (me_up M ra (.inl (tb 0, 1, .inl ff2))) n k_4 t_4) ((sbT_out (by omega)).trans (me_up_s _ _ _))) (ks_L_79 hw rfl rfl ⟨Nat.le_of_ble_eq_true rfl, Nat.le_of_ble_eq_true rfl⟩) rfl rfl (Nat.le_of_ble_eq_true rfl) dL_bureau_185 ⟨by show ((24 + 8 * i2) + 1) + 0 ≤ 68; omega, by show ((4383 + 1584 * i2) + 198) + 0 ≤ 12901; omega⟩ (fun H locs hM => ?_)
          have hM := hM.eq (sbT_up2 (by omega))
          have hv_3 := nxN_lt ff2
          generalize nxN ff2 = v_3 at hv_3 ⊢
          generalize nxF ff2 = f_3 at hM
          refine lv_bipush (v := 30) hx hb dL_bureau_188 (by decide) ?_
          refine lv_irem hx hb dL_bureau_190 (by decide) ?_
          refine me_evi (y := nI (v_3 % 30)) (nx_rem 30 rfl (by omega) (by omega) (by omega)) ?_
          refine lv_iadd hx hb dL_bureau_191 ?_
          refine me_stk (st2 := [.int (nI (1 + (v_3 % 30))), .ref n]) (by rw [(nx_add (show (1 : Int32) = nI 1 from rfl) rfl)]) ?_
          have hd_5 := dg_lt100 (w := 1 + (v_3 % 30)) (by omega)
          refine me_callVr (As := [.int (nI (1 + (v_3 % 30)))]) (rest := []) hC hl.1 hM (c_J4_append_bf812 l D tb X z0 kK kV kO kT n k_4 (1 + (v_3 % 30)) t_4 (me_up M ra (.inl (tb 0, 1, .inl f_3))) hKS hKD (fun q hq => (me_up_n (by omega)).trans (hfr0 q hq)) (by omega) (by omega) hT.2.2) (kv_L_83 hw rfl rfl ⟨Nat.le_of_ble_eq_true rfl, Nat.le_of_ble_eq_true rfl⟩) rfl rfl sbT_o rfl (Nat.le_of_ble_eq_true rfl) dL_bureau_192 ⟨by show (((24 + 8 * i2) + 1) + 0) + 1 ≤ 68; omega, by show (((4383 + 1584 * i2) + 198) + 0) + 198 ≤ 12901; omega⟩ (fun H locs hM => ?_)
          have hT := hT_int (w := 1 + (v_3 % 30)) hT
          have hk_5 : k_4 + (sb_dg (1 + (v_3 % 30)) + 0) = k_4 + (sb_dg (1 + (v_3 % 30)) + 0) := rfl
          generalize hz_5 : k_4 + (sb_dg (1 + (v_3 % 30)) + 0) = k_5 at hM hT hk_5
          generalize gsF (1 + (v_3 % 30)) 0 (k_5) t_4 = t_5 at hM hT
          have hvn := sb_vn n k_5
          have hsc := sb_sc (k := k_5) (by omega)
          refine me_callVr (As := []) (rest := []) hC hl.1 hM (c_J4_toString_0e30d l D tb X z0 (sn n k_5) kK kV kO kT n (sv n k_5) (sc k_5) k_5 t_5 (me_up M ra (.inl (tb 0, 1, .inl f_3))) hKS hKD hvn.1 (by omega) hsc.1 hsc.2 hT.2.2) (kv_L_98 hw rfl rfl ⟨Nat.le_of_ble_eq_true rfl, Nat.le_of_ble_eq_true rfl⟩) rfl rfl sbT_o rfl (Nat.le_of_ble_eq_true rfl) dL_bureau_195 ⟨by show ((((24 + 8 * i2) + 1) + 0) + 1) + 2 ≤ 68; omega, by show ((((4383 + 1584 * i2) + 198) + 0) + 198) + 202 ≤ 12901; omega⟩ (fun H locs hM => ?_)
          have hM := sbT_text (b := n) (v := sv n k_5) ((fun q hq => (me_up_n (by omega)).trans (hfr0 q hq)) _ (Nat.le_refl _)) ((fun q hq => (me_up_n (by omega)).trans (hfr0 q hq)) _ (by omega)) (by omega) (by omega) (by omega) (by omega) hM
          refine W.widen (k := 68) (n := 12901) (by omega) (by omega) ?_
          exact me_trt hC hr (by first | exact Or.inl ⟨_, rfl⟩ | exact Or.inr ⟨_, rfl⟩) hlk hM (⟨v_1 % 5, v_2 % 20, v_3 % 30, k_5, t_5, _, _, _, by omega, by omega, by omega, hL2B, hT, by omega, rfl, by omega, rfl⟩) dL_bureau_198
        · have c_2 := (not_congr (br_le rfl rfl (by omega) (by omega))).mp c_2
          obtain ⟨q2, rfl⟩ : ∃ q2, r2 = q2 + 1 := ⟨r2 - 1, by omega⟩
          refine lv_aload_n hx hb dL_bureau_106 rfl (lv_at hl 3 rfl) ?_
          refine va_ldcS hx hb hC.2.2.2.1 (hKS s hC.2.2.2.2.2.1.2).2.2.2.2.2.2.2.2.2.2.2.2.2.1 dL_bureau_107 ?_
          refine me_callVr (As := [.ref (kK 10)]) (rest := []) hC hl.1 hM (c_J4_append_15ec4 l D tb X z0 kK kV kO kT n kk2 10 tt2 (me_up M ra (.inl (tb 0, 1, .inl ff2))) hKS hKD (fun q hq => (me_up_n (by omega)).trans (hfr0 q hq)) (by show kk2 + 10 ≤ 198; omega) (by decide) (by decide) hT.2.2) (kv_L_91 hw rfl rfl ⟨Nat.le_of_ble_eq_true rfl, Nat.le_of_ble_eq_true rfl⟩) rfl rfl sbT_o rfl (Nat.le_of_ble_eq_true rfl) dL_bureau_109 ⟨by show (24 + 8 * i2) + 1 ≤ 68; omega, by show (4383 + 1584 * i2) + 198 ≤ 12901; omega⟩ (fun H locs hM => ?_)
          have hT := hT_txt (i := 10) hT (by decide) (by decide)
          have hk_6 : kk2 + ks_len.getD 10 0 = kk2 + 10 := rfl
          generalize hz_6 : kk2 + ks_len.getD 10 0 = k_6 at hM hT hk_6
          generalize va_cpy (ks_c 10) tt2 0 kk2 (ks_len.getD 10 0) = t_6 at hM hT
          refine lv_bipush (v := 97) hx hb dL_bureau_112 (by decide) ?_
          refine lv_iload hx hb dL_bureau_114 (lv_at hl 4 rfl) ?_
          refine lv_iadd hx hb dL_bureau_116 ?_
          refine lv_i2c (v := ((97 + (nI i2)).toUInt32 % 65536).toInt32) hx hb dL_bureau_117 rfl ?_
          refine me_evi (y := nI (97 + i2)) (by rw [show (97 + (nI i2)) = nI (97 + i2) from (nx_add (nx_c 97) rfl)]; exact (sb_byte _ (by omega)).2.1) ?_
          refine me_callVr (As := [.int (nI (97 + i2))]) (rest := []) hC hl.1 hM (c_J4_append_cf468 l D tb X z0 kK kV kO kT n k_6 (97 + i2) t_6 (me_up M ra (.inl (tb 0, 1, .inl ff2))) hKS hKD (fun q hq => (me_up_n (by omega)).trans (hfr0 q hq)) (by omega) (by omega) hT.2.2) (kv_L_86 hw rfl rfl ⟨Nat.le_of_ble_eq_true rfl, Nat.le_of_ble_eq_true rfl⟩) rfl rfl sbT_o rfl (Nat.le_of_ble_eq_true rfl) dL_bureau_118 ⟨by show ((24 + 8 * i2) + 1) + 1 ≤ 68; omega, by show ((4383 + 1584 * i2) + 198) + 198 ≤ 12901; omega⟩ (fun H locs hM => ?_)
          have hT := hT_chr hT (show 97 + i2 < 128 by omega)
          have hk_7 : k_6 + 1 = k_6 + 1 := rfl
          generalize hz_7 : k_6 + 1 = k_7 at hM hT hk_7
          generalize upd t_6 k_6 (sb_b (97 + i2)) = t_7 at hM hT
          refine lv_bipush (v := 32) hx hb dL_bureau_121 (by decide) ?_
          refine me_callVr (As := [.int 32]) (rest := []) hC hl.1 hM (c_J4_append_cf468 l D tb X z0 kK kV kO kT n k_7 32 t_7 (me_up M ra (.inl (tb 0, 1, .inl ff2))) hKS hKD (fun q hq => (me_up_n (by omega)).trans (hfr0 q hq)) (by omega) (by omega) hT.2.2) (kv_L_86 hw rfl rfl ⟨Nat.le_of_ble_eq_true rfl, Nat.le_of_ble_eq_true rfl⟩) rfl rfl sbT_o rfl (Nat.le_of_ble_eq_true rfl) dL_bureau_123 ⟨by show (((24 + 8 * i2) + 1) + 1) + 1 ≤ 68; omega, by show (((4383 + 1584 * i2) + 198) + 198) + 198 ≤ 12901; omega⟩ (fun H locs hM => ?_)
          have hT := hT_chr hT (show 32 < 128 by omega)
          have hk_8 : k_7 + 1 = k_7 + 1 := rfl
          generalize hz_8 : k_7 + 1 = k_8 at hM hT hk_8
          generalize upd t_7 k_7 (sb_b 32) = t_8 at hM hT
          refine lv_bipush (v := 114) hx hb dL_bureau_126 (by decide) ?_
          refine lv_aload_n hx hb dL_bureau_128 rfl (lv_at hl 2 rfl) ?_
          refine me_callSi (As := [.ref ra]) (rest := [.int 114, .ref n]) hC hl.1 hM (c_L_nextN l D tb X z0 (sn n k_8) ra ff2 (sbT tb (me_up M ra (.inl (tb 0, 1, .inl ff2))) n k_8 t_8) ((sbT_out (by omega)).trans (me_up_s _ _ _))) (ks_L_79 hw rfl rfl ⟨Nat.le_of_ble_eq_true rfl, Nat.le_of_ble_eq_true rfl⟩) rfl rfl (Nat.le_of_ble_eq_true rfl) dL_bureau_129 ⟨by show ((((24 + 8 * i2) + 1) + 1) + 1) + 0 ≤ 68; omega, by show ((((4383 + 1584 * i2) + 198) + 198) + 198) + 0 ≤ 12901; omega⟩ (fun H locs hM => ?_)
          have hM := hM.eq (sbT_up2 (by omega))
          have hv_4 := nxN_lt ff2
          generalize nxN ff2 = v_4 at hv_4 ⊢
          generalize nxF ff2 = f_4 at hM
          refine lv_iload_n hx hb dL_bureau_132 rfl (lv_at hl 0 rfl) ?_
          refine lv_irem hx hb dL_bureau_133 (nI_ne0 (by omega) (by omega)) ?_
          have hmd_ := Nat.mod_lt v_4 (show 0 < S by omega)
          refine me_evi (y := nI (v_4 % S)) (nx_rem S rfl (by omega) (by omega) (by omega)) ?_
          refine lv_iadd hx hb dL_bureau_134 ?_
          refine lv_i2c (v := ((114 + (nI (v_4 % S))).toUInt32 % 65536).toInt32) hx hb dL_bureau_135 rfl ?_
          refine me_evi (y := nI (114 + (v_4 % S))) (by rw [show (114 + (nI (v_4 % S))) = nI (114 + (v_4 % S)) from (nx_add (nx_c 114) rfl)]; exact (sb_byte _ (by omega)).2.1) ?_
          refine me_callVr (As := [.int (nI (114 + (v_4 % S)))]) (rest := []) hC hl.1 hM (c_J4_append_cf468 l D tb X z0 kK kV kO kT n k_8 (114 + (v_4 % S)) t_8 (me_up M ra (.inl (tb 0, 1, .inl f_4))) hKS hKD (fun q hq => (me_up_n (by omega)).trans (hfr0 q hq)) (by omega) (by omega) hT.2.2) (kv_L_86 hw rfl rfl ⟨Nat.le_of_ble_eq_true rfl, Nat.le_of_ble_eq_true rfl⟩) rfl rfl sbT_o rfl (Nat.le_of_ble_eq_true rfl) dL_bureau_136 ⟨by show (((((24 + 8 * i2) + 1) + 1) + 1) + 0) + 1 ≤ 68; omega, by show (((((4383 + 1584 * i2) + 198) + 198) + 198) + 0) + 198 ≤ 12901; omega⟩ (fun H locs hM => ?_)
          have hT := hT_chr hT (show 114 + (v_4 % S) < 128 by omega)
          have hk_9 : k_8 + 1 = k_8 + 1 := rfl
          generalize hz_9 : k_8 + 1 = k_9 at hM hT hk_9
          generalize upd t_8 k_8 (sb_b (114 + (v_4 % S))) = t_9 at hM hT
          refine lv_bipush (v := 32) hx hb dL_bureau_139 (by decide) ?_
          refine me_callVr (As := [.int 32]) (rest := []) hC hl.1 hM (c_J4_append_cf468 l D tb X z0 kK kV kO kT n k_9 32 t_9 (me_up M ra (.inl (tb 0, 1, .inl f_4))) hKS hKD (fun q hq => (me_up_n (by omega)).trans (hfr0 q hq)) (by omega) (by omega) hT.2.2) (kv_L_86 hw rfl rfl ⟨Nat.le_of_ble_eq_true rfl, Nat.le_of_ble_eq_true rfl⟩) rfl rfl sbT_o rfl (Nat.le_of_ble_eq_true rfl) dL_bureau_141 ⟨by show ((((((24 + 8 * i2) + 1) + 1) + 1) + 0) + 1) + 1 ≤ 68; omega, by show ((((((4383 + 1584 * i2) + 198) + 198) + 198) + 0) + 198) + 198 ≤ 12901; omega⟩ (fun H locs hM => ?_)
          have hT := hT_chr hT (show 32 < 128 by omega)
          have hk_10 : k_9 + 1 = k_9 + 1 := rfl
          generalize hz_10 : k_9 + 1 = k_10 at hM hT hk_10
          generalize upd t_9 k_9 (sb_b 32) = t_10 at hM hT
          refine lv_aload_n hx hb dL_bureau_144 rfl (lv_at hl 2 rfl) ?_
          refine me_callSi (As := [.ref ra]) (rest := [.ref n]) hC hl.1 hM (c_L_nextN l D tb X z0 (sn n k_10) ra f_4 (sbT tb (me_up M ra (.inl (tb 0, 1, .inl f_4))) n k_10 t_10) ((sbT_out (by omega)).trans (me_up_s _ _ _))) (ks_L_79 hw rfl rfl ⟨Nat.le_of_ble_eq_true rfl, Nat.le_of_ble_eq_true rfl⟩) rfl rfl (Nat.le_of_ble_eq_true rfl) dL_bureau_145 ⟨by show (((((((24 + 8 * i2) + 1) + 1) + 1) + 0) + 1) + 1) + 0 ≤ 68; omega, by show (((((((4383 + 1584 * i2) + 198) + 198) + 198) + 0) + 198) + 198) + 0 ≤ 12901; omega⟩ (fun H locs hM => ?_)
          have hM := hM.eq (sbT_up2 (by omega))
          have hv_5 := nxN_lt f_4
          generalize nxN f_4 = v_5 at hv_5 ⊢
          generalize nxF f_4 = f_5 at hM
          refine lv_bipush (v := 10) hx hb dL_bureau_148 (by decide) ?_
          refine lv_irem hx hb dL_bureau_150 (by decide) ?_
          refine me_evi (y := nI (v_5 % 10)) (nx_rem 10 rfl (by omega) (by omega) (by omega)) ?_
          have hd_11 := dg_lt10 (w := v_5 % 10) (by omega)
          refine me_callVr (As := [.int (nI (v_5 % 10))]) (rest := []) hC hl.1 hM (c_J4_append_bf812 l D tb X z0 kK kV kO kT n k_10 (v_5 % 10) t_10 (me_up M ra (.inl (tb 0, 1, .inl f_5))) hKS hKD (fun q hq => (me_up_n (by omega)).trans (hfr0 q hq)) (by omega) (by omega) hT.2.2) (kv_L_83 hw rfl rfl ⟨Nat.le_of_ble_eq_true rfl, Nat.le_of_ble_eq_true rfl⟩) rfl rfl sbT_o rfl (Nat.le_of_ble_eq_true rfl) dL_bureau_151 ⟨by show ((((((((24 + 8 * i2) + 1) + 1) + 1) + 0) + 1) + 1) + 0) + 1 ≤ 68; omega, by show ((((((((4383 + 1584 * i2) + 198) + 198) + 198) + 0) + 198) + 198) + 0) + 198 ≤ 12901; omega⟩ (fun H locs hM => ?_)
          have hT := hT_int (w := v_5 % 10) hT
          have hk_11 : k_10 + (sb_dg (v_5 % 10) + 0) = k_10 + (sb_dg (v_5 % 10) + 0) := rfl
          generalize hz_11 : k_10 + (sb_dg (v_5 % 10) + 0) = k_11 at hM hT hk_11
          generalize gsF (v_5 % 10) 0 (k_11) t_10 = t_11 at hM hT
          refine lv_bipush (v := 32) hx hb dL_bureau_154 (by decide) ?_
          refine me_callVr (As := [.int 32]) (rest := []) hC hl.1 hM (c_J4_append_cf468 l D tb X z0 kK kV kO kT n k_11 32 t_11 (me_up M ra (.inl (tb 0, 1, .inl f_5))) hKS hKD (fun q hq => (me_up_n (by omega)).trans (hfr0 q hq)) (by omega) (by omega) hT.2.2) (kv_L_86 hw rfl rfl ⟨Nat.le_of_ble_eq_true rfl, Nat.le_of_ble_eq_true rfl⟩) rfl rfl sbT_o rfl (Nat.le_of_ble_eq_true rfl) dL_bureau_156 ⟨by show (((((((((24 + 8 * i2) + 1) + 1) + 1) + 0) + 1) + 1) + 0) + 1) + 1 ≤ 68; omega, by show (((((((((4383 + 1584 * i2) + 198) + 198) + 198) + 0) + 198) + 198) + 0) + 198) + 198 ≤ 12901; omega⟩ (fun H locs hM => ?_)
          have hT := hT_chr hT (show 32 < 128 by omega)
          have hk_12 : k_11 + 1 = k_11 + 1 := rfl
          generalize hz_12 : k_11 + 1 = k_12 at hM hT hk_12
          generalize upd t_11 k_11 (sb_b 32) = t_12 at hM hT
          refine lv_aload_n hx hb dL_bureau_159 rfl (lv_at hl 2 rfl) ?_
          refine me_callSi (As := [.ref ra]) (rest := [.ref n]) hC hl.1 hM (c_L_nextN l D tb X z0 (sn n k_12) ra f_5 (sbT tb (me_up M ra (.inl (tb 0, 1, .inl f_5))) n k_12 t_12) ((sbT_out (by omega)).trans (me_up_s _ _ _))) (ks_L_79 hw rfl rfl ⟨Nat.le_of_ble_eq_true rfl, Nat.le_of_ble_eq_true rfl⟩) rfl rfl (Nat.le_of_ble_eq_true rfl) dL_bureau_160 ⟨by show ((((((((((24 + 8 * i2) + 1) + 1) + 1) + 0) + 1) + 1) + 0) + 1) + 1) + 0 ≤ 68; omega, by show ((((((((((4383 + 1584 * i2) + 198) + 198) + 198) + 0) + 198) + 198) + 0) + 198) + 198) + 0 ≤ 12901; omega⟩ (fun H locs hM => ?_)
          have hM := hM.eq (sbT_up2 (by omega))
          have hv_6 := nxN_lt f_5
          generalize nxN f_5 = v_6 at hv_6 ⊢
          generalize nxF f_5 = f_6 at hM
          refine lv_sipush (v := 200) hx hb dL_bureau_163 (by decide) ?_
          refine lv_irem hx hb dL_bureau_166 (by decide) ?_
          refine me_evi (y := nI (v_6 % 200)) (nx_rem 200 rfl (by omega) (by omega) (by omega)) ?_
          have hd_13 := dg_lt1000 (w := v_6 % 200) (by omega)
          refine me_callVr (As := [.int (nI (v_6 % 200))]) (rest := []) hC hl.1 hM (c_J4_append_bf812 l D tb X z0 kK kV kO kT n k_12 (v_6 % 200) t_12 (me_up M ra (.inl (tb 0, 1, .inl f_6))) hKS hKD (fun q hq => (me_up_n (by omega)).trans (hfr0 q hq)) (by omega) (by omega) hT.2.2) (kv_L_83 hw rfl rfl ⟨Nat.le_of_ble_eq_true rfl, Nat.le_of_ble_eq_true rfl⟩) rfl rfl sbT_o rfl (Nat.le_of_ble_eq_true rfl) dL_bureau_167 ⟨by show (((((((((((24 + 8 * i2) + 1) + 1) + 1) + 0) + 1) + 1) + 0) + 1) + 1) + 0) + 1 ≤ 68; omega, by show (((((((((((4383 + 1584 * i2) + 198) + 198) + 198) + 0) + 198) + 198) + 0) + 198) + 198) + 0) + 198 ≤ 12901; omega⟩ (fun H locs hM => ?_)
          have hT := hT_int (w := v_6 % 200) hT
          have hk_13 : k_12 + (sb_dg (v_6 % 200) + 0) = k_12 + (sb_dg (v_6 % 200) + 0) := rfl
          generalize hz_13 : k_12 + (sb_dg (v_6 % 200) + 0) = k_13 at hM hT hk_13
          generalize gsF (v_6 % 200) 0 (k_13) t_12 = t_13 at hM hT
          refine lv_pop hx hb dL_bureau_170 rfl ?_
          refine lv_iinc (v := nI (i2 + 1)) (lv' := [(4, .int (nI (i2 + 1))), (0, .int (nI S)), (1, .int (nI B)), (2, .ref ra), (3, .ref n)]) hx hb dL_bureau_171 hl (k := 4) rfl (nx_add rfl rfl) (by decide) rfl (fun ls hl => ?_)
          refine lv_goto (tgt := 100) hx hb dL_bureau_174 (by decide) ?_
          refine W.widen (k := 24 + 8 * (i2 + 1)) (n := 4383 + 1584 * (i2 + 1)) (by omega) (by omega) ?_
          exact ih_100 q2 (by omega) (i2 + 1) k_13 t_13 (ll2 ++ ksN 10 ++ [97 + i2] ++ [32] ++ [114 + (v_4 % S)] ++ [32] ++ dig (v_5 % 10) ++ [32] ++ dig (v_6 % 200)) f_6 _ _ _ (by omega) hT (boQ_s hL2 (by omega) (by omega) (by omega)) (by omega) hM (lv_sub hl [1, 2, 3, 4, 0] rfl)
      exact lp_100 B 0 kk1 tt1 ll1 ff1 _ _ _ (by omega) hT (boQ_0 hL1S (by omega)) (by omega) hM (lv_sub hl [1, 2, 3, 4, 0] rfl)
    · have c_1 := (not_congr (br_le rfl rfl (by omega) (by omega))).mp c_1
      obtain ⟨q1, rfl⟩ : ∃ q1, r1 = q1 + 1 := ⟨r1 - 1, by omega⟩
      refine lv_aload_n hx hb dL_bureau_45 rfl (lv_at hl 3 rfl) ?_
      refine va_ldcS hx hb hC.2.2.2.1 (hKS s hC.2.2.2.2.2.1.2).2.2.2.2.2.2.2.2.2.2.2.2.1 dL_bureau_46 ?_
      refine me_callVr (As := [.ref (kK 9)]) (rest := []) hC hl.1 hM (c_J4_append_15ec4 l D tb X z0 kK kV kO kT n kk1 9 tt1 (me_up M ra (.inl (tb 0, 1, .inl ff1))) hKS hKD (fun q hq => (me_up_n (by omega)).trans (hfr0 q hq)) (by show kk1 + 8 ≤ 198; omega) (by decide) (by decide) hT.2.2) (kv_L_91 hw rfl rfl ⟨Nat.le_of_ble_eq_true rfl, Nat.le_of_ble_eq_true rfl⟩) rfl rfl sbT_o rfl (Nat.le_of_ble_eq_true rfl) dL_bureau_48 ⟨by show (6 + 6 * i1) + 1 ≤ 68; omega, by show (819 + 1188 * i1) + 198 ≤ 12901; omega⟩ (fun H locs hM => ?_)
      have hT := hT_txt (i := 9) hT (by decide) (by decide)
      have hk_14 : kk1 + ks_len.getD 9 0 = kk1 + 8 := rfl
      generalize hz_14 : kk1 + ks_len.getD 9 0 = k_14 at hM hT hk_14
      generalize va_cpy (ks_c 9) tt1 0 kk1 (ks_len.getD 9 0) = t_14 at hM hT
      refine lv_bipush (v := 114) hx hb dL_bureau_51 (by decide) ?_
      refine lv_iload hx hb dL_bureau_53 (lv_at hl 4 rfl) ?_
      refine lv_iadd hx hb dL_bureau_55 ?_
      refine lv_i2c (v := ((114 + (nI i1)).toUInt32 % 65536).toInt32) hx hb dL_bureau_56 rfl ?_
      refine me_evi (y := nI (114 + i1)) (by rw [show (114 + (nI i1)) = nI (114 + i1) from (nx_add (nx_c 114) rfl)]; exact (sb_byte _ (by omega)).2.1) ?_
      refine me_callVr (As := [.int (nI (114 + i1))]) (rest := []) hC hl.1 hM (c_J4_append_cf468 l D tb X z0 kK kV kO kT n k_14 (114 + i1) t_14 (me_up M ra (.inl (tb 0, 1, .inl ff1))) hKS hKD (fun q hq => (me_up_n (by omega)).trans (hfr0 q hq)) (by omega) (by omega) hT.2.2) (kv_L_86 hw rfl rfl ⟨Nat.le_of_ble_eq_true rfl, Nat.le_of_ble_eq_true rfl⟩) rfl rfl sbT_o rfl (Nat.le_of_ble_eq_true rfl) dL_bureau_57 ⟨by show ((6 + 6 * i1) + 1) + 1 ≤ 68; omega, by show ((819 + 1188 * i1) + 198) + 198 ≤ 12901; omega⟩ (fun H locs hM => ?_)
      have hT := hT_chr hT (show 114 + i1 < 128 by omega)
      have hk_15 : k_14 + 1 = k_14 + 1 := rfl
      generalize hz_15 : k_14 + 1 = k_15 at hM hT hk_15
      generalize upd t_14 k_14 (sb_b (114 + i1)) = t_15 at hM hT
      refine lv_bipush (v := 32) hx hb dL_bureau_60 (by decide) ?_
      refine me_callVr (As := [.int 32]) (rest := []) hC hl.1 hM (c_J4_append_cf468 l D tb X z0 kK kV kO kT n k_15 32 t_15 (me_up M ra (.inl (tb 0, 1, .inl ff1))) hKS hKD (fun q hq => (me_up_n (by omega)).trans (hfr0 q hq)) (by omega) (by omega) hT.2.2) (kv_L_86 hw rfl rfl ⟨Nat.le_of_ble_eq_true rfl, Nat.le_of_ble_eq_true rfl⟩) rfl rfl sbT_o rfl (Nat.le_of_ble_eq_true rfl) dL_bureau_62 ⟨by show (((6 + 6 * i1) + 1) + 1) + 1 ≤ 68; omega, by show (((819 + 1188 * i1) + 198) + 198) + 198 ≤ 12901; omega⟩ (fun H locs hM => ?_)
      have hT := hT_chr hT (show 32 < 128 by omega)
      have hk_16 : k_15 + 1 = k_15 + 1 := rfl
      generalize hz_16 : k_15 + 1 = k_16 at hM hT hk_16
      generalize upd t_15 k_15 (sb_b 32) = t_16 at hM hT
      refine lv_aload_n hx hb dL_bureau_65 rfl (lv_at hl 2 rfl) ?_
      refine me_callSi (As := [.ref ra]) (rest := [.ref n]) hC hl.1 hM (c_L_nextN l D tb X z0 (sn n k_16) ra ff1 (sbT tb (me_up M ra (.inl (tb 0, 1, .inl ff1))) n k_16 t_16) ((sbT_out (by omega)).trans (me_up_s _ _ _))) (ks_L_79 hw rfl rfl ⟨Nat.le_of_ble_eq_true rfl, Nat.le_of_ble_eq_true rfl⟩) rfl rfl (Nat.le_of_ble_eq_true rfl) dL_bureau_66 ⟨by show ((((6 + 6 * i1) + 1) + 1) + 1) + 0 ≤ 68; omega, by show ((((819 + 1188 * i1) + 198) + 198) + 198) + 0 ≤ 12901; omega⟩ (fun H locs hM => ?_)
      have hM := hM.eq (sbT_up2 (by omega))
      have hv_7 := nxN_lt ff1
      generalize nxN ff1 = v_7 at hv_7 ⊢
      generalize nxF ff1 = f_7 at hM
      refine lv_bipush (v := 100) hx hb dL_bureau_69 (by decide) ?_
      refine lv_irem hx hb dL_bureau_71 (by decide) ?_
      refine me_evi (y := nI (v_7 % 100)) (nx_rem 100 rfl (by omega) (by omega) (by omega)) ?_
      have hd_17 := dg_lt100 (w := v_7 % 100) (by omega)
      refine me_callVr (As := [.int (nI (v_7 % 100))]) (rest := []) hC hl.1 hM (c_J4_append_bf812 l D tb X z0 kK kV kO kT n k_16 (v_7 % 100) t_16 (me_up M ra (.inl (tb 0, 1, .inl f_7))) hKS hKD (fun q hq => (me_up_n (by omega)).trans (hfr0 q hq)) (by omega) (by omega) hT.2.2) (kv_L_83 hw rfl rfl ⟨Nat.le_of_ble_eq_true rfl, Nat.le_of_ble_eq_true rfl⟩) rfl rfl sbT_o rfl (Nat.le_of_ble_eq_true rfl) dL_bureau_72 ⟨by show (((((6 + 6 * i1) + 1) + 1) + 1) + 0) + 1 ≤ 68; omega, by show (((((819 + 1188 * i1) + 198) + 198) + 198) + 0) + 198 ≤ 12901; omega⟩ (fun H locs hM => ?_)
      have hT := hT_int (w := v_7 % 100) hT
      have hk_17 : k_16 + (sb_dg (v_7 % 100) + 0) = k_16 + (sb_dg (v_7 % 100) + 0) := rfl
      generalize hz_17 : k_16 + (sb_dg (v_7 % 100) + 0) = k_17 at hM hT hk_17
      generalize gsF (v_7 % 100) 0 (k_17) t_16 = t_17 at hM hT
      refine lv_bipush (v := 32) hx hb dL_bureau_75 (by decide) ?_
      refine me_callVr (As := [.int 32]) (rest := []) hC hl.1 hM (c_J4_append_cf468 l D tb X z0 kK kV kO kT n k_17 32 t_17 (me_up M ra (.inl (tb 0, 1, .inl f_7))) hKS hKD (fun q hq => (me_up_n (by omega)).trans (hfr0 q hq)) (by omega) (by omega) hT.2.2) (kv_L_86 hw rfl rfl ⟨Nat.le_of_ble_eq_true rfl, Nat.le_of_ble_eq_true rfl⟩) rfl rfl sbT_o rfl (Nat.le_of_ble_eq_true rfl) dL_bureau_77 ⟨by show ((((((6 + 6 * i1) + 1) + 1) + 1) + 0) + 1) + 1 ≤ 68; omega, by show ((((((819 + 1188 * i1) + 198) + 198) + 198) + 0) + 198) + 198 ≤ 12901; omega⟩ (fun H locs hM => ?_)
      have hT := hT_chr hT (show 32 < 128 by omega)
      have hk_18 : k_17 + 1 = k_17 + 1 := rfl
      generalize hz_18 : k_17 + 1 = k_18 at hM hT hk_18
      generalize upd t_17 k_17 (sb_b 32) = t_18 at hM hT
      refine lv_aload_n hx hb dL_bureau_80 rfl (lv_at hl 2 rfl) ?_
      refine me_callSi (As := [.ref ra]) (rest := [.ref n]) hC hl.1 hM (c_L_nextN l D tb X z0 (sn n k_18) ra f_7 (sbT tb (me_up M ra (.inl (tb 0, 1, .inl f_7))) n k_18 t_18) ((sbT_out (by omega)).trans (me_up_s _ _ _))) (ks_L_79 hw rfl rfl ⟨Nat.le_of_ble_eq_true rfl, Nat.le_of_ble_eq_true rfl⟩) rfl rfl (Nat.le_of_ble_eq_true rfl) dL_bureau_81 ⟨by show (((((((6 + 6 * i1) + 1) + 1) + 1) + 0) + 1) + 1) + 0 ≤ 68; omega, by show (((((((819 + 1188 * i1) + 198) + 198) + 198) + 0) + 198) + 198) + 0 ≤ 12901; omega⟩ (fun H locs hM => ?_)
      have hM := hM.eq (sbT_up2 (by omega))
      have hv_8 := nxN_lt f_7
      generalize nxN f_7 = v_8 at hv_8 ⊢
      generalize nxF f_7 = f_8 at hM
      refine lv_bipush (v := 100) hx hb dL_bureau_84 (by decide) ?_
      refine lv_irem hx hb dL_bureau_86 (by decide) ?_
      refine me_evi (y := nI (v_8 % 100)) (nx_rem 100 rfl (by omega) (by omega) (by omega)) ?_
      have hd_19 := dg_lt100 (w := v_8 % 100) (by omega)
      refine me_callVr (As := [.int (nI (v_8 % 100))]) (rest := []) hC hl.1 hM (c_J4_append_bf812 l D tb X z0 kK kV kO kT n k_18 (v_8 % 100) t_18 (me_up M ra (.inl (tb 0, 1, .inl f_8))) hKS hKD (fun q hq => (me_up_n (by omega)).trans (hfr0 q hq)) (by omega) (by omega) hT.2.2) (kv_L_83 hw rfl rfl ⟨Nat.le_of_ble_eq_true rfl, Nat.le_of_ble_eq_true rfl⟩) rfl rfl sbT_o rfl (Nat.le_of_ble_eq_true rfl) dL_bureau_87 ⟨by show ((((((((6 + 6 * i1) + 1) + 1) + 1) + 0) + 1) + 1) + 0) + 1 ≤ 68; omega, by show ((((((((819 + 1188 * i1) + 198) + 198) + 198) + 0) + 198) + 198) + 0) + 198 ≤ 12901; omega⟩ (fun H locs hM => ?_)
      have hT := hT_int (w := v_8 % 100) hT
      have hk_19 : k_18 + (sb_dg (v_8 % 100) + 0) = k_18 + (sb_dg (v_8 % 100) + 0) := rfl
      generalize hz_19 : k_18 + (sb_dg (v_8 % 100) + 0) = k_19 at hM hT hk_19
      generalize gsF (v_8 % 100) 0 (k_19) t_18 = t_19 at hM hT
      refine lv_pop hx hb dL_bureau_90 rfl ?_
      refine lv_iinc (v := nI (i1 + 1)) (lv' := [(4, .int (nI (i1 + 1))), (0, .int (nI S)), (1, .int (nI B)), (2, .ref ra), (3, .ref n)]) hx hb dL_bureau_91 hl (k := 4) rfl (nx_add rfl rfl) (by decide) rfl (fun ls hl => ?_)
      refine lv_goto (tgt := 39) hx hb dL_bureau_94 (by decide) ?_
      refine W.widen (k := 6 + 6 * (i1 + 1)) (n := 819 + 1188 * (i1 + 1)) (by omega) (by omega) ?_
      exact ih_39 q1 (by omega) (i1 + 1) k_19 t_19 (ll1 ++ ksN 9 ++ [114 + i1] ++ [32] ++ dig (v_7 % 100) ++ [32] ++ dig (v_8 % 100)) f_8 _ _ _ (by omega) hT (stQ_s hL1 (by omega) (by omega)) (by omega) hM (lv_sub hl [1, 2, 3, 4, 0] rfl)
  exact lp_39 S 0 k_3 t_3 (ksN 8 ++ dig (1 + (v_1 % 5)) ++ [32] ++ dig (v_2 % 20)) f_2 _ _ _ (by omega) hT stQ_0 (by omega) hM (lv_sub hl [2, 3, 4, 1, 0] rfl)
