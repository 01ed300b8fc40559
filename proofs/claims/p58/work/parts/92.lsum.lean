theorem w_1104 : (Cond.constantLong "SilenceBureauLaw" 102 (31 : Int64)) ∈ ws_all := ws_5 144 (by decide +kernel)
theorem nxt_v (x : Int32) : (x.toUInt32 >>> ((9 : Int32).toUInt32 &&& Int32.toUInt32 31)).toInt32 = nI (x.toBitVec.toNat / 2 ^ 9) := by
  have h := pk_ushr x 9 9 (by decide)
  apply Int32.toBitVec_inj.mp
  apply BitVec.eq_of_toNat_eq
  rw [h, pk_tn (by have := x.toBitVec.isLt; omega)]
theorem nxt_lt (x : Int32) : x.toBitVec.toNat / 2 ^ 9 < 8388608 := by have := x.toBitVec.isLt; omega
set_option maxHeartbeats 4000000 in
theorem c_L_next (l : Launch) (D : va_G) (tb : Nat → ClassId) (X : State → Prop) (z0 n : Nat) (ra : Nat) (f : Nat → Int32) (M : me_M)  (hrr : M ra = some (.inl (tb 0, 1, .inl f))) : Met l yL_next (.code yL_next cL_next 1 (some .int) :: ws_all) ({ frames := 0, cells := 0, slots := 0, locals := 0 } : Room) (me_Pc [.ref ra] D tb X z0 (M) n) (me_Qp D z0 (fun r1 M1 => ∃ (v : Nat) (f1 : Nat → Int32), r1 = nI v ∧ v < 8388608 ∧ M1 = me_up M ra (.inl (tb 0, 1, .inl f1)))) 0 0 (me_A z0) := by
  refine me_open (by decide) (Nat.le_of_ble_eq_true rfl) ?_
  intro p e s m args below meth c ls hC hr hlk hnm hM hl
  have hl : lv_has ls 1 [(0, .ref ra)] := hl
  have hx := hC.1
  have hb := hC.2.1
  have hw := hC.2.2.2.2.1
  refine lv_aload_n hx hb dL_next_0 rfl (lv_at hl 0 rfl) ?_
  refine lv_iconst (v := 0) hx hb dL_next_1 (by decide) ?_
  refine lv_aload_n hx hb dL_next_2 rfl (lv_at hl 0 rfl) ?_
  refine lv_iconst (v := 0) hx hb dL_next_3 (by decide) ?_
  refine me_iald (k := 0) hC hM hrr (show (0 : Int32) = nI 0 from rfl) (by omega) (by decide) dL_next_4 ?_
  refine lv_ldc (v := 1103515245) hx hb hC.2.2.2.1 (hw _ w_693) dL_next_5 ?_
  refine lv_imul hx hb dL_next_7 ?_
  refine lv_sipush (v := 12345) hx hb dL_next_8 (by decide) ?_
  refine lv_iadd hx hb dL_next_11 ?_
  refine me_iast (k := 0) (M2 := me_up M ra (.inl (tb 0, 1, .inl (upd f 0 (((f 0) * 1103515245) + 12345))))) hC hM hrr (show (0 : Int32) = nI 0 from rfl) (by omega) (by decide) rfl dL_next_12 (fun H locs hM => ?_)
  refine lv_aload_n hx hb dL_next_13 rfl (lv_at hl 0 rfl) ?_
  refine lv_iconst (v := 0) hx hb dL_next_14 (by decide) ?_
  refine lv_dup2_11 hx hb dL_next_15 rfl rfl ?_
  refine me_iald (k := 0) hC hM (me_up_s _ _ _) (show (0 : Int32) = nI 0 from rfl) (by omega) (by decide) dL_next_16 ?_
  refine lv_aload_n hx hb dL_next_17 rfl (lv_at hl 0 rfl) ?_
  refine lv_iconst (v := 0) hx hb dL_next_18 (by decide) ?_
  refine me_iald (k := 0) hC hM (me_up_s _ _ _) (show (0 : Int32) = nI 0 from rfl) (by omega) (by decide) dL_next_19 ?_
  refine lv_bipush (v := 15) hx hb dL_next_20 (by decide) ?_
  refine lv_iushr (v := (((upd f 0 (((f 0) * 1103515245) + 12345)) 0).toUInt32 >>> ((15 : Int32).toUInt32 &&& Int32.toUInt32 31)).toInt32) hx hb dL_next_22 rfl ?_
  refine lv_ixor hx hb dL_next_23 ?_
  refine me_iast (k := 0) (M2 := me_up M ra (.inl (tb 0, 1, .inl (upd (upd f 0 (((f 0) * 1103515245) + 12345)) 0 (((upd f 0 (((f 0) * 1103515245) + 12345)) 0) ^^^ ((((upd f 0 (((f 0) * 1103515245) + 12345)) 0).toUInt32 >>> ((15 : Int32).toUInt32 &&& Int32.toUInt32 31)).toInt32)))))) hC hM (me_up_s _ _ _) (show (0 : Int32) = nI 0 from rfl) (by omega) (by decide) (me_up_up _ _ _ _) dL_next_24 (fun H locs hM => ?_)
  refine lv_aload_n hx hb dL_next_25 rfl (lv_at hl 0 rfl) ?_
  refine lv_iconst (v := 0) hx hb dL_next_26 (by decide) ?_
  refine me_iald (k := 0) hC hM (me_up_s _ _ _) (show (0 : Int32) = nI 0 from rfl) (by omega) (by decide) dL_next_27 ?_
  refine lv_bipush (v := 9) hx hb dL_next_28 (by decide) ?_
  refine lv_iushr (v := (((upd (upd f 0 (((f 0) * 1103515245) + 12345)) 0 (((upd f 0 (((f 0) * 1103515245) + 12345)) 0) ^^^ ((((upd f 0 (((f 0) * 1103515245) + 12345)) 0).toUInt32 >>> ((15 : Int32).toUInt32 &&& Int32.toUInt32 31)).toInt32))) 0).toUInt32 >>> ((9 : Int32).toUInt32 &&& Int32.toUInt32 31)).toInt32) hx hb dL_next_30 rfl ?_
  exact me_pret hC hr hlk hM (⟨_, _, nxt_v _, nxt_lt _, rfl⟩) (rfl) dL_next_31
def smS (g : Nat → Int32) (L P k : Nat) (x : Int64) : Int64 := 31 * (31 * (31 * x + (g (9 + 10 * k + 2)).toInt64) + (g (9 + 10 * k + 3)).toInt64) + (noF g L P k (g 2)).toInt64
def smB (g : Nat → Int32) (L P k : Nat) (x : Int64) : Int64 := 31 * (31 * (31 * (31 * x + (g (89 + 11 * k)).toInt64) + (g (89 + 11 * k + 1)).toInt64) + (g (89 + 11 * k + 2)).toInt64) + (fcF g L P k 20).toInt64
def smL (g : Nat → Int32) (k : Nat) (x : Int64) : Int64 := 31 * (31 * (31 * (31 * (31 * x + (g (261 + 5 * k)).toInt64) + (g (261 + 5 * k + 1)).toInt64) + (g (261 + 5 * k + 2)).toInt64) + (g (261 + 5 * k + 3)).toInt64) + (g (261 + 5 * k + 4)).toInt64
def smQ (g : Nat → Int32) (P h k : Nat) (x : Int64) : Int64 := 31 * x + (peF g P (nI k) (nI h)).toInt64
def smP (g : Nat → Int32) (S P T j : Nat) (x : Int64) : Int64 := it (smQ g P (T + j)) S 0 x
def sumF (g : Nat → Int32) (S B L P T : Nat) : Int64 := it (smP g S P T) 48 0 (it (smL g) L 0 (it (smB g L P) B 0 (it (smS g L P) S 0 (31 * (31 * (nI T).toInt64 + (nI P).toInt64) + (nI L).toInt64))))
set_option maxHeartbeats 4000000 in
theorem c_L_sum (l : Launch) (D : va_G) (tb : Nat → ClassId) (X : State → Prop) (z0 n : Nat) (bo : Nat) (g : Nat → Int32) (G : Nat → Nat → Int32) (F sf inp out : Nat → Int32) (M0 : me_M) (S B L P : Nat) (T : Nat) (hN : ∀ U, X U → me_nest U)  (hW : wf g S B L P) (hT : g 2 = nI T) (hT0 : T ≤ 10000) : Met l yL_sum (.code yL_sum cL_sum 5 (some .long) :: ws_all) ({ frames := 6, cells := 12, slots := 72, locals := 136 } : Room) (me_Pc [.ref bo] D tb X z0 (sp tb (bo + 722) g (bq tb bo G F sf inp out M0)) n) (me_Ql D z0 (fun r1 M1 => r1 = sumF g S B L P T ∧ M1 = sp tb (bo + 722) g (bq tb bo G F sf inp out M0))) 12 72 (me_A z0) := by
  refine me_open (by decide) (Nat.le_of_ble_eq_true rfl) ?_
  intro p e s m args below meth c ls hC hr hlk hnm hM hl
  have hl : lv_has ls 5 [(0, .ref bo)] := hl
  have hx := hC.1
  have hb := hC.2.1
  have hw := hC.2.2.2.2.1
  have hq_ := hW
  obtain ⟨hS, hS0, hB, hB0, hL, hL0, hP, hP0, hwb, hwl⟩ := hq_
  refine lv_ldc2 (v := 31) hx hb hC.2.2.2.1 (hw _ w_1104) dL_sum_0 ?_
  refine lv_ldc2 (v := 31) hx hb hC.2.2.2.1 (hw _ w_1104) dL_sum_3 ?_
  refine lv_aload_n hx hb dL_sum_6 rfl (lv_at hl 0 rfl) ?_
  refine me_callVi (As := []) (rest := [.long 31, .long 31]) hC hl.1 hM (c_X7_clock l D tb X z0 n bo g G F sf inp out M0 S B L P  ) (kv_L_104 hw rfl rfl ⟨Nat.le_of_ble_eq_true rfl, Nat.le_of_ble_eq_true rfl⟩) rfl rfl (bq_at h_b) rfl (Nat.le_of_ble_eq_true rfl) dL_sum_7 ⟨Nat.le_of_ble_eq_true rfl, Nat.le_of_ble_eq_true rfl⟩ (fun H locs hM => ?_)
  refine me_evi (y := nI T) hT ?_
  refine lv_i2l (v := (nI T).toInt64) hx hb dL_sum_10 rfl ?_
  refine lv_lmul hx hb dL_sum_11 ?_
  refine lv_aload_n hx hb dL_sum_12 rfl (lv_at hl 0 rfl) ?_
  refine me_callVi (As := []) (rest := [.long (31 * ((nI T).toInt64)), .long 31]) hC hl.1 hM (c_X7_permitCount l D tb X z0 n bo g G F sf inp out M0 S B L P  ) (kv_L_107 hw rfl rfl ⟨Nat.le_of_ble_eq_true rfl, Nat.le_of_ble_eq_true rfl⟩) rfl rfl (bq_at h_b) rfl (Nat.le_of_ble_eq_true rfl) dL_sum_13 ⟨Nat.le_of_ble_eq_true rfl, Nat.le_of_ble_eq_true rfl⟩ (fun H locs hM => ?_)
  refine me_evi (y := nI P) hW.2.2.2.2.2.2.1 ?_
  refine lv_i2l (v := (nI P).toInt64) hx hb dL_sum_16 rfl ?_
  refine lv_ladd hx hb dL_sum_17 ?_
  refine lv_lmul hx hb dL_sum_18 ?_
  refine lv_aload_n hx hb dL_sum_19 rfl (lv_at hl 0 rfl) ?_
  refine me_callVi (As := []) (rest := [.long (31 * ((31 * ((nI T).toInt64)) + ((nI P).toInt64)))]) hC hl.1 hM (c_X7_loanCount l D tb X z0 n bo g G F sf inp out M0 S B L P  ) (kv_L_110 hw rfl rfl ⟨Nat.le_of_ble_eq_true rfl, Nat.le_of_ble_eq_true rfl⟩) rfl rfl (bq_at h_b) rfl (Nat.le_of_ble_eq_true rfl) dL_sum_20 ⟨Nat.le_of_ble_eq_true rfl, Nat.le_of_ble_eq_true rfl⟩ (fun H locs hM => ?_)
  refine me_evi (y := nI L) hW.2.2.2.2.1 ?_
  refine lv_i2l (v := (nI L).toInt64) hx hb dL_sum_23 rfl ?_
  refine lv_ladd hx hb dL_sum_24 ?_
  refine lv_lstore_n (lv' := [(1, .long ((31 * ((31 * ((nI T).toInt64)) + ((nI P).toInt64))) + ((nI L).toInt64))), (0, .ref bo)]) hx hb dL_sum_25 rfl hl (by decide) rfl (fun ls hl => ?_)
  refine lv_iconst (v := 0) hx hb dL_sum_26 (by decide) ?_
  refine lv_istore_n (lv' := [(3, .int 0), (1, .long ((31 * ((31 * ((nI T).toInt64)) + ((nI P).toInt64))) + ((nI L).toInt64))), (0, .ref bo)]) hx hb dL_sum_27 rfl hl (by decide) rfl (fun ls hl => ?_)
  have lp_28 : ∀ (r1 : Nat) (k1 : Nat) (x1 : Int64) (H : Heap) (locs : List Loc) (ls : Array Slot), (k1 + r1 = S) → (it (smS g L P) S 0 (31 * (31 * (nI T).toInt64 + (nI P).toInt64) + (nI L).toInt64) = it (smS g L P) r1 k1 x1) → me_at D z0 (sp tb (bo + 722) g (bq tb bo G F sf inp out M0)) n s H locs → lv_has ls 5 [(0, .ref bo), (1, .long x1), (3, .int (nI k1))] → W p l e (({ frames := 6, cells := 12, slots := 72, locals := 136 } : Room)) s m args below meth c H locs 0 0 (MQ below (me_Ql D z0 (fun r1 M1 => r1 = sumF g S B L P T ∧ M1 = sp tb (bo + 722) g (bq tb bo G F sf inp out M0))) args s 12 72 (me_A z0)) (F0 m 28 ls []) := by
    intro r1
    refine Nat.strongRecOn r1 ?_
    intro r1 ih_28 k1 x1 H locs ls hk1 hq1 hM hl
    refine lv_iload_n hx hb dL_sum_28 rfl (lv_at hl 2 rfl) ?_
    refine lv_aload_n hx hb dL_sum_29 rfl (lv_at hl 0 rfl) ?_
    refine me_callVi (As := []) (rest := [.int (nI k1)]) hC hl.1 hM (c_X7_streetCount l D tb X z0 n bo g G F sf inp out M0 S B L P  ) (kv_L_113 hw rfl rfl ⟨Nat.le_of_ble_eq_true rfl, Nat.le_of_ble_eq_true rfl⟩) rfl rfl (bq_at h_b) rfl (Nat.le_of_ble_eq_true rfl) dL_sum_30 ⟨Nat.le_of_ble_eq_true rfl, Nat.le_of_ble_eq_true rfl⟩ (fun H locs hM => ?_)
    refine me_evi (y := nI S) hW.1 ?_
    refine lv_icmp_ge (tgt := 77) hx hb dL_sum_33 (by decide) (fun c_1 => ?_) (fun c_1 => ?_)
    · have c_1 := (br_le rfl rfl (by omega) (by omega)).mp c_1
      have hx1 : it (smS g L P) S 0 (31 * (31 * (nI T).toInt64 + (nI P).toInt64) + (nI L).toInt64) = x1 := by rw [hq1, show r1 = 0 by omega]; rfl
      refine lv_iconst (v := 0) hx hb dL_sum_77 (by decide) ?_
      refine lv_istore_n (lv' := [(3, .int 0), (0, .ref bo), (1, .long x1)]) hx hb dL_sum_78 rfl hl (by decide) rfl (fun ls hl => ?_)
      have lp_79 : ∀ (r2 : Nat) (k2 : Nat) (x2 : Int64) (n2 : Nat) (H : Heap) (locs : List Loc) (ls : Array Slot), (k2 + r2 = B) → (it (smB g L P) B 0 x1 = it (smB g L P) r2 k2 x2) → me_at D z0 (sp tb (bo + 722) g (bq tb bo G F sf inp out M0)) n2 s H locs → lv_has ls 5 [(0, .ref bo), (1, .long x2), (3, .int (nI k2))] → W p l e (({ frames := 6, cells := 12, slots := 72, locals := 136 } : Room)) s m args below meth c H locs k2 (6 * k2) (MQ below (me_Ql D z0 (fun r1 M1 => r1 = sumF g S B L P T ∧ M1 = sp tb (bo + 722) g (bq tb bo G F sf inp out M0))) args s 12 72 (me_A z0)) (F0 m 79 ls []) := by
        intro r2
        refine Nat.strongRecOn r2 ?_
        intro r2 ih_79 k2 x2 n2 H locs ls hk2 hq2 hM hl
        refine lv_iload_n hx hb dL_sum_79 rfl (lv_at hl 2 rfl) ?_
        refine lv_aload_n hx hb dL_sum_80 rfl (lv_at hl 0 rfl) ?_
        refine me_callVi (As := []) (rest := [.int (nI k2)]) hC hl.1 hM (c_X7_borrowerCount l D tb X z0 n2 bo g G F sf inp out M0 S B L P  ) (kv_L_125 hw rfl rfl ⟨Nat.le_of_ble_eq_true rfl, Nat.le_of_ble_eq_true rfl⟩) rfl rfl (bq_at h_b) rfl (Nat.le_of_ble_eq_true rfl) dL_sum_81 ⟨by show k2 + 0 ≤ 12; omega, by show (6 * k2) + 0 ≤ 72; omega⟩ (fun H locs hM => ?_)
        refine me_evi (y := nI B) hW.2.2.1 ?_
        refine lv_icmp_ge (tgt := 143) hx hb dL_sum_84 (by decide) (fun c_2 => ?_) (fun c_2 => ?_)
        · have c_2 := (br_le rfl rfl (by omega) (by omega)).mp c_2
          have hx2 : it (smB g L P) B 0 x1 = x2 := by rw [hq2, show r2 = 0 by omega]; rfl
          refine W.widen (k := 12) (n := 72) (by omega) (by omega) ?_
          refine lv_iconst (v := 0) hx hb dL_sum_143 (by decide) ?_
          refine lv_istore_n (lv' := [(3, .int 0), (0, .ref bo), (1, .long x2)]) hx hb dL_sum_144 rfl hl (by decide) rfl (fun ls hl => ?_)
          have lp_145 : ∀ (r3 : Nat) (k3 : Nat) (x3 : Int64) (H : Heap) (locs : List Loc) (ls : Array Slot), (k3 + r3 = L) → (it (smL g) L 0 x2 = it (smL g) r3 k3 x3) → me_at D z0 (sp tb (bo + 722) g (bq tb bo G F sf inp out M0)) n2 s H locs → lv_has ls 5 [(0, .ref bo), (1, .long x3), (3, .int (nI k3))] → W p l e (({ frames := 6, cells := 12, slots := 72, locals := 136 } : Room)) s m args below meth c H locs 12 72 (MQ below (me_Ql D z0 (fun r1 M1 => r1 = sumF g S B L P T ∧ M1 = sp tb (bo + 722) g (bq tb bo G F sf inp out M0))) args s 12 72 (me_A z0)) (F0 m 145 ls []) := by
            intro r3
            refine Nat.strongRecOn r3 ?_
            intro r3 ih_145 k3 x3 H locs ls hk3 hq3 hM hl
            refine lv_iload_n hx hb dL_sum_145 rfl (lv_at hl 2 rfl) ?_
            refine lv_aload_n hx hb dL_sum_146 rfl (lv_at hl 0 rfl) ?_
            refine me_callVi (As := []) (rest := [.int (nI k3)]) hC hl.1 hM (c_X7_loanCount l D tb X z0 n2 bo g G F sf inp out M0 S B L P  ) (kv_L_110 hw rfl rfl ⟨Nat.le_of_ble_eq_true rfl, Nat.le_of_ble_eq_true rfl⟩) rfl rfl (bq_at h_b) rfl (Nat.le_of_ble_eq_true rfl) dL_sum_147 ⟨Nat.le_of_ble_eq_true rfl, Nat.le_of_ble_eq_true rfl⟩ (fun H locs hM => ?_)
            refine me_evi (y := nI L) hW.2.2.2.2.1 ?_
            refine lv_icmp_ge (tgt := 218) hx hb dL_sum_150 (by decide) (fun c_3 => ?_) (fun c_3 => ?_)
            · have c_3 := (br_le rfl rfl (by omega) (by omega)).mp c_3
              have hx3 : it (smL g) L 0 x2 = x3 := by rw [hq3, show r3 = 0 by omega]; rfl
              refine lv_aload_n hx hb dL_sum_218 rfl (lv_at hl 0 rfl) ?_
              refine me_callVi (As := []) (rest := []) hC hl.1 hM (c_X7_clock l D tb X z0 n2 bo g G F sf inp out M0 S B L P  ) (kv_L_104 hw rfl rfl ⟨Nat.le_of_ble_eq_true rfl, Nat.le_of_ble_eq_true rfl⟩) rfl rfl (bq_at h_b) rfl (Nat.le_of_ble_eq_true rfl) dL_sum_219 ⟨Nat.le_of_ble_eq_true rfl, Nat.le_of_ble_eq_true rfl⟩ (fun H locs hM => ?_)
              refine me_evi (y := nI T) hT ?_
              refine lv_istore_n (lv' := [(3, .int (nI T)), (0, .ref bo), (1, .long x3)]) hx hb dL_sum_222 rfl hl (by decide) rfl (fun ls hl => ?_)
              have lp_223 : ∀ (r4 : Nat) (k4 : Nat) (x4 : Int64) (H : Heap) (locs : List Loc) (ls : Array Slot), (k4 + r4 = 48) → (it (smP g S P T) 48 0 x3 = it (smP g S P T) r4 k4 x4) → me_at D z0 (sp tb (bo + 722) g (bq tb bo G F sf inp out M0)) n2 s H locs → lv_has ls 5 [(0, .ref bo), (1, .long x4), (3, .int (nI (T + k4)))] → W p l e (({ frames := 6, cells := 12, slots := 72, locals := 136 } : Room)) s m args below meth c H locs 12 72 (MQ below (me_Ql D z0 (fun r1 M1 => r1 = sumF g S B L P T ∧ M1 = sp tb (bo + 722) g (bq tb bo G F sf inp out M0))) args s 12 72 (me_A z0)) (F0 m 223 ls []) := by
                intro r4
                refine Nat.strongRecOn r4 ?_
                intro r4 ih_223 k4 x4 H locs ls hk4 hq4 hM hl
                refine lv_iload_n hx hb dL_sum_223 rfl (lv_at hl 2 rfl) ?_
                refine lv_aload_n hx hb dL_sum_224 rfl (lv_at hl 0 rfl) ?_
                refine me_callVi (As := []) (rest := [.int (nI (T + k4))]) hC hl.1 hM (c_X7_clock l D tb X z0 n2 bo g G F sf inp out M0 S B L P  ) (kv_L_104 hw rfl rfl ⟨Nat.le_of_ble_eq_true rfl, Nat.le_of_ble_eq_true rfl⟩) rfl rfl (bq_at h_b) rfl (Nat.le_of_ble_eq_true rfl) dL_sum_225 ⟨Nat.le_of_ble_eq_true rfl, Nat.le_of_ble_eq_true rfl⟩ (fun H locs hM => ?_)
                refine me_evi (y := nI T) hT ?_
                refine lv_bipush (v := 48) hx hb dL_sum_228 (by decide) ?_
                refine lv_iadd hx hb dL_sum_230 ?_
                refine lv_icmp_ge (tgt := 273) hx hb dL_sum_231 (by decide) (fun c_4 => ?_) (fun c_4 => ?_)
                · have c_4 := (br_le (nx_add rfl (nx_c 48)) rfl (by omega) (by omega)).mp c_4
                  have hx4 : it (smP g S P T) 48 0 x3 = x4 := by rw [hq4, show r4 = 0 by omega]; rfl
                  refine lv_lload_n hx hb dL_sum_273 rfl (lv_at hl 1 rfl) ?_
                  exact me_lret hC hr hlk hM (⟨by unfold sumF; rw [hx1, hx2, hx3, hx4], rfl⟩) dL_sum_274
                · have c_4 := (not_congr (br_le (nx_add rfl (nx_c 48)) rfl (by omega) (by omega))).mp c_4
                  obtain ⟨q4, rfl⟩ : ∃ q4, r4 = q4 + 1 := ⟨r4 - 1, by omega⟩
                  refine lv_iconst (v := 0) hx hb dL_sum_234 (by decide) ?_
                  refine lv_istore (lv' := [(4, .int 0), (0, .ref bo), (1, .long x4), (3, .int (nI (T + k4)))]) hx hb dL_sum_235 hl (by decide) rfl (fun ls hl => ?_)
                  have lp_237 : ∀ (r5 : Nat) (k5 : Nat) (x5 : Int64) (H : Heap) (locs : List Loc) (ls : Array Slot), (k5 + r5 = S) → (it (smQ g P (T + k4)) S 0 x4 = it (smQ g P (T + k4)) r5 k5 x5) → me_at D z0 (sp tb (bo + 722) g (bq tb bo G F sf inp out M0)) n2 s H locs → lv_has ls 5 [(0, .ref bo), (1, .long x5), (3, .int (nI (T + k4))), (4, .int (nI k5))] → W p l e (({ frames := 6, cells := 12, slots := 72, locals := 136 } : Room)) s m args below meth c H locs 12 72 (MQ below (me_Ql D z0 (fun r1 M1 => r1 = sumF g S B L P T ∧ M1 = sp tb (bo + 722) g (bq tb bo G F sf inp out M0))) args s 12 72 (me_A z0)) (F0 m 237 ls []) := by
                    intro r5
                    refine Nat.strongRecOn r5 ?_
                    intro r5 ih_237 k5 x5 H locs ls hk5 hq5 hM hl
                    refine lv_iload hx hb dL_sum_237 (lv_at hl 3 rfl) ?_
                    refine lv_aload_n hx hb dL_sum_239 rfl (lv_at hl 0 rfl) ?_
                    refine me_callVi (As := []) (rest := [.int (nI k5)]) hC hl.1 hM (c_X7_streetCount l D tb X z0 n2 bo g G F sf inp out M0 S B L P  ) (kv_L_113 hw rfl rfl ⟨Nat.le_of_ble_eq_true rfl, Nat.le_of_ble_eq_true rfl⟩) rfl rfl (bq_at h_b) rfl (Nat.le_of_ble_eq_true rfl) dL_sum_240 ⟨Nat.le_of_ble_eq_true rfl, Nat.le_of_ble_eq_true rfl⟩ (fun H locs hM => ?_)
                    refine me_evi (y := nI S) hW.1 ?_
                    refine lv_icmp_ge (tgt := 267) hx hb dL_sum_243 (by decide) (fun c_5 => ?_) (fun c_5 => ?_)
                    · have c_5 := (br_le rfl rfl (by omega) (by omega)).mp c_5
                      have hx5 : it (smQ g P (T + k4)) S 0 x4 = x5 := by rw [hq5, show r5 = 0 by omega]; rfl
                      refine lv_iinc (v := nI (T + k4 + 1)) (lv' := [(3, .int (nI (T + k4 + 1))), (0, .ref bo), (1, .long x5), (4, .int (nI k5))]) hx hb dL_sum_267 hl (k := 2) rfl (nx_add rfl rfl) (by decide) rfl (fun ls hl => ?_)
                      refine lv_goto (tgt := 223) hx hb dL_sum_270 (by decide) ?_
                      exact ih_223 q4 (by omega) (k4 + 1) x5 _ _ _ (by omega) (by rw [hq4]; show it (smP g S P T) q4 (k4 + 1) (smP g S P T k4 x4) = _; rw [show smP g S P T k4 x4 = x5 from hx5]) hM (lv_sub hl [1, 2, 0] rfl)
                    · have c_5 := (not_congr (br_le rfl rfl (by omega) (by omega))).mp c_5
                      obtain ⟨q5, rfl⟩ : ∃ q5, r5 = q5 + 1 := ⟨r5 - 1, by omega⟩
                      refine lv_ldc2 (v := 31) hx hb hC.2.2.2.1 (hw _ w_1104) dL_sum_246 ?_
                      refine lv_lload_n hx hb dL_sum_249 rfl (lv_at hl 1 rfl) ?_
                      refine lv_lmul hx hb dL_sum_250 ?_
                      refine lv_aload_n hx hb dL_sum_251 rfl (lv_at hl 0 rfl) ?_
                      refine lv_iload hx hb dL_sum_252 (lv_at hl 3 rfl) ?_
                      refine lv_iload_n hx hb dL_sum_254 rfl (lv_at hl 2 rfl) ?_
                      refine me_callVi (As := [.int (nI k5), .int (nI (T + k4))]) (rest := [.long (31 * x5)]) hC hl.1 hM (c_X7_permitFor l D tb X z0 n2 bo g G F sf inp out M0 S B L P T k5 (T + k4) hW hT hT0 (by omega) (by omega) (by omega)) (kv_L_155 hw rfl rfl ⟨Nat.le_of_ble_eq_true rfl, Nat.le_of_ble_eq_true rfl⟩) rfl rfl (bq_at h_b) rfl (Nat.le_of_ble_eq_true rfl) dL_sum_255 ⟨Nat.le_of_ble_eq_true rfl, Nat.le_of_ble_eq_true rfl⟩ (fun H locs hM => ?_)
                      refine lv_i2l (v := (peF g P (nI k5) (nI (T + k4))).toInt64) hx hb dL_sum_258 rfl ?_
                      refine lv_ladd hx hb dL_sum_259 ?_
                      refine lv_lstore_n (lv' := [(1, .long ((31 * x5) + ((peF g P (nI k5) (nI (T + k4))).toInt64))), (0, .ref bo), (3, .int (nI (T + k4))), (4, .int (nI k5))]) hx hb dL_sum_260 rfl hl (by decide) rfl (fun ls hl => ?_)
                      refine lv_iinc (v := nI (k5 + 1)) (lv' := [(4, .int (nI (k5 + 1))), (1, .long ((31 * x5) + ((peF g P (nI k5) (nI (T + k4))).toInt64))), (0, .ref bo), (3, .int (nI (T + k4)))]) hx hb dL_sum_261 hl (k := 3) rfl (nx_add rfl rfl) (by decide) rfl (fun ls hl => ?_)
                      refine lv_goto (tgt := 237) hx hb dL_sum_264 (by decide) ?_
                      exact ih_237 q5 (by omega) (k5 + 1) (smQ g P (T + k4) k5 x5) _ _ _ (by omega) hq5 hM (lv_sub hl [2, 1, 3, 0] rfl)
                  exact lp_237 S 0 x4 _ _ _ (by omega) rfl hM (lv_sub hl [1, 2, 3, 0] rfl)
              exact lp_223 48 0 x3 _ _ _ (by omega) rfl hM (lv_sub hl [1, 2, 0] rfl)
            · have c_3 := (not_congr (br_le rfl rfl (by omega) (by omega))).mp c_3
              obtain ⟨q3, rfl⟩ : ∃ q3, r3 = q3 + 1 := ⟨r3 - 1, by omega⟩
              refine lv_ldc2 (v := 31) hx hb hC.2.2.2.1 (hw _ w_1104) dL_sum_153 ?_
              refine lv_ldc2 (v := 31) hx hb hC.2.2.2.1 (hw _ w_1104) dL_sum_156 ?_
              refine lv_ldc2 (v := 31) hx hb hC.2.2.2.1 (hw _ w_1104) dL_sum_159 ?_
              refine lv_lload_n hx hb dL_sum_162 rfl (lv_at hl 1 rfl) ?_
              refine lv_lmul hx hb dL_sum_163 ?_
              refine lv_aload_n hx hb dL_sum_164 rfl (lv_at hl 0 rfl) ?_
              refine lv_iload_n hx hb dL_sum_165 rfl (lv_at hl 2 rfl) ?_
              refine me_callVi (As := [.int (nI k3)]) (rest := [.long (31 * x3), .long 31, .long 31]) hC hl.1 hM (c_X7_borrowerOf l D tb X z0 n2 bo g G F sf inp out M0 S B L P k3 hW (by omega)) (kv_L_140 hw rfl rfl ⟨Nat.le_of_ble_eq_true rfl, Nat.le_of_ble_eq_true rfl⟩) rfl rfl (bq_at h_b) rfl (Nat.le_of_ble_eq_true rfl) dL_sum_166 ⟨Nat.le_of_ble_eq_true rfl, Nat.le_of_ble_eq_true rfl⟩ (fun H locs hM => ?_)
              refine lv_i2l (v := (g (261 + 5 * k3)).toInt64) hx hb dL_sum_169 rfl ?_
              refine lv_ladd hx hb dL_sum_170 ?_
              refine lv_lmul hx hb dL_sum_171 ?_
              refine lv_aload_n hx hb dL_sum_172 rfl (lv_at hl 0 rfl) ?_
              refine lv_iload_n hx hb dL_sum_173 rfl (lv_at hl 2 rfl) ?_
              refine me_callVi (As := [.int (nI k3)]) (rest := [.long (31 * ((31 * x3) + ((g (261 + 5 * k3)).toInt64))), .long 31]) hC hl.1 hM (c_X7_startOf l D tb X z0 n2 bo g G F sf inp out M0 S B L P k3 hW (by omega)) (kv_L_143 hw rfl rfl ⟨Nat.le_of_ble_eq_true rfl, Nat.le_of_ble_eq_true rfl⟩) rfl rfl (bq_at h_b) rfl (Nat.le_of_ble_eq_true rfl) dL_sum_174 ⟨Nat.le_of_ble_eq_true rfl, Nat.le_of_ble_eq_true rfl⟩ (fun H locs hM => ?_)
              refine lv_i2l (v := (g (261 + 5 * k3 + 1)).toInt64) hx hb dL_sum_177 rfl ?_
              refine lv_ladd hx hb dL_sum_178 ?_
              refine lv_lmul hx hb dL_sum_179 ?_
              refine lv_aload_n hx hb dL_sum_180 rfl (lv_at hl 0 rfl) ?_
              refine lv_iload_n hx hb dL_sum_181 rfl (lv_at hl 2 rfl) ?_
              refine me_callVi (As := [.int (nI k3)]) (rest := [.long (31 * ((31 * ((31 * x3) + ((g (261 + 5 * k3)).toInt64))) + ((g (261 + 5 * k3 + 1)).toInt64)))]) hC hl.1 hM (c_X7_lengthOf l D tb X z0 n2 bo g G F sf inp out M0 S B L P k3 hW (by omega)) (kv_L_146 hw rfl rfl ⟨Nat.le_of_ble_eq_true rfl, Nat.le_of_ble_eq_true rfl⟩) rfl rfl (bq_at h_b) rfl (Nat.le_of_ble_eq_true rfl) dL_sum_182 ⟨Nat.le_of_ble_eq_true rfl, Nat.le_of_ble_eq_true rfl⟩ (fun H locs hM => ?_)
              refine lv_i2l (v := (g (261 + 5 * k3 + 2)).toInt64) hx hb dL_sum_185 rfl ?_
              refine lv_ladd hx hb dL_sum_186 ?_
              refine lv_lstore_n (lv' := [(1, .long ((31 * ((31 * ((31 * x3) + ((g (261 + 5 * k3)).toInt64))) + ((g (261 + 5 * k3 + 1)).toInt64))) + ((g (261 + 5 * k3 + 2)).toInt64))), (0, .ref bo), (3, .int (nI k3))]) hx hb dL_sum_187 rfl hl (by decide) rfl (fun ls hl => ?_)
              refine lv_ldc2 (v := 31) hx hb hC.2.2.2.1 (hw _ w_1104) dL_sum_188 ?_
              refine lv_ldc2 (v := 31) hx hb hC.2.2.2.1 (hw _ w_1104) dL_sum_191 ?_
              refine lv_lload_n hx hb dL_sum_194 rfl (lv_at hl 0 rfl) ?_
              refine lv_lmul hx hb dL_sum_195 ?_
              refine lv_aload_n hx hb dL_sum_196 rfl (lv_at hl 1 rfl) ?_
              refine lv_iload_n hx hb dL_sum_197 rfl (lv_at hl 2 rfl) ?_
              refine me_callVi (As := [.int (nI k3)]) (rest := [.long (31 * ((31 * ((31 * ((31 * x3) + ((g (261 + 5 * k3)).toInt64))) + ((g (261 + 5 * k3 + 1)).toInt64))) + ((g (261 + 5 * k3 + 2)).toInt64))), .long 31]) hC hl.1 hM (c_X7_priceOf l D tb X z0 n2 bo g G F sf inp out M0 S B L P k3 hW (by omega)) (kv_L_149 hw rfl rfl ⟨Nat.le_of_ble_eq_true rfl, Nat.le_of_ble_eq_true rfl⟩) rfl rfl (bq_at h_b) rfl (Nat.le_of_ble_eq_true rfl) dL_sum_198 ⟨Nat.le_of_ble_eq_true rfl, Nat.le_of_ble_eq_true rfl⟩ (fun H locs hM => ?_)
              refine lv_i2l (v := (g (261 + 5 * k3 + 3)).toInt64) hx hb dL_sum_201 rfl ?_
              refine lv_ladd hx hb dL_sum_202 ?_
              refine lv_lmul hx hb dL_sum_203 ?_
              refine lv_aload_n hx hb dL_sum_204 rfl (lv_at hl 1 rfl) ?_
              refine lv_iload_n hx hb dL_sum_205 rfl (lv_at hl 2 rfl) ?_
              refine me_callVi (As := [.int (nI k3)]) (rest := [.long (31 * ((31 * ((31 * ((31 * ((31 * x3) + ((g (261 + 5 * k3)).toInt64))) + ((g (261 + 5 * k3 + 1)).toInt64))) + ((g (261 + 5 * k3 + 2)).toInt64))) + ((g (261 + 5 * k3 + 3)).toInt64)))]) hC hl.1 hM (c_X7_statusOf l D tb X z0 n2 bo g G F sf inp out M0 S B L P k3 hW (by omega)) (kv_L_152 hw rfl rfl ⟨Nat.le_of_ble_eq_true rfl, Nat.le_of_ble_eq_true rfl⟩) rfl rfl (bq_at h_b) rfl (Nat.le_of_ble_eq_true rfl) dL_sum_206 ⟨Nat.le_of_ble_eq_true rfl, Nat.le_of_ble_eq_true rfl⟩ (fun H locs hM => ?_)
              refine lv_i2l (v := (g (261 + 5 * k3 + 4)).toInt64) hx hb dL_sum_209 rfl ?_
              refine lv_ladd hx hb dL_sum_210 ?_
              refine lv_lstore_n (lv' := [(1, .long ((31 * ((31 * ((31 * ((31 * ((31 * x3) + ((g (261 + 5 * k3)).toInt64))) + ((g (261 + 5 * k3 + 1)).toInt64))) + ((g (261 + 5 * k3 + 2)).toInt64))) + ((g (261 + 5 * k3 + 3)).toInt64))) + ((g (261 + 5 * k3 + 4)).toInt64))), (0, .ref bo), (3, .int (nI k3))]) hx hb dL_sum_211 rfl hl (by decide) rfl (fun ls hl => ?_)
              refine lv_iinc (v := nI (k3 + 1)) (lv' := [(3, .int (nI (k3 + 1))), (1, .long ((31 * ((31 * ((31 * ((31 * ((31 * x3) + ((g (261 + 5 * k3)).toInt64))) + ((g (261 + 5 * k3 + 1)).toInt64))) + ((g (261 + 5 * k3 + 2)).toInt64))) + ((g (261 + 5 * k3 + 3)).toInt64))) + ((g (261 + 5 * k3 + 4)).toInt64))), (0, .ref bo)]) hx hb dL_sum_212 hl (k := 2) rfl (nx_add rfl rfl) (by decide) rfl (fun ls hl => ?_)
              refine lv_goto (tgt := 145) hx hb dL_sum_215 (by decide) ?_
              exact ih_145 q3 (by omega) (k3 + 1) (smL g k3 x3) _ _ _ (by omega) hq3 hM (lv_sub hl [2, 1, 0] rfl)
          exact lp_145 L 0 x2 _ _ _ (by omega) rfl hM (lv_sub hl [1, 2, 0] rfl)
        · have c_2 := (not_congr (br_le rfl rfl (by omega) (by omega))).mp c_2
          obtain ⟨q2, rfl⟩ : ∃ q2, r2 = q2 + 1 := ⟨r2 - 1, by omega⟩
          refine lv_ldc2 (v := 31) hx hb hC.2.2.2.1 (hw _ w_1104) dL_sum_87 ?_
          refine lv_ldc2 (v := 31) hx hb hC.2.2.2.1 (hw _ w_1104) dL_sum_90 ?_
          refine lv_ldc2 (v := 31) hx hb hC.2.2.2.1 (hw _ w_1104) dL_sum_93 ?_
          refine lv_lload_n hx hb dL_sum_96 rfl (lv_at hl 1 rfl) ?_
          refine lv_lmul hx hb dL_sum_97 ?_
          refine lv_aload_n hx hb dL_sum_98 rfl (lv_at hl 0 rfl) ?_
          refine lv_iload_n hx hb dL_sum_99 rfl (lv_at hl 2 rfl) ?_
          refine me_callVi (As := [.int (nI k2)]) (rest := [.long (31 * x2), .long 31, .long 31]) hC hl.1 hM (c_X7_streetOf l D tb X z0 n2 bo g G F sf inp out M0 S B L P k2 hW (by omega)) (kv_L_128 hw rfl rfl ⟨Nat.le_of_ble_eq_true rfl, Nat.le_of_ble_eq_true rfl⟩) rfl rfl (bq_at h_b) rfl (Nat.le_of_ble_eq_true rfl) dL_sum_100 ⟨by show (k2 + 0) + 0 ≤ 12; omega, by show ((6 * k2) + 0) + 0 ≤ 72; omega⟩ (fun H locs hM => ?_)
          refine lv_i2l (v := (g (89 + 11 * k2)).toInt64) hx hb dL_sum_103 rfl ?_
          refine lv_ladd hx hb dL_sum_104 ?_
          refine lv_lmul hx hb dL_sum_105 ?_
          refine lv_aload_n hx hb dL_sum_106 rfl (lv_at hl 0 rfl) ?_
          refine lv_iload_n hx hb dL_sum_107 rfl (lv_at hl 2 rfl) ?_
          refine me_callVi (As := [.int (nI k2)]) (rest := [.long (31 * ((31 * x2) + ((g (89 + 11 * k2)).toInt64))), .long 31]) hC hl.1 hM (c_X7_illnessOf l D tb X z0 n2 bo g G F sf inp out M0 S B L P k2 hW (by omega)) (kv_L_131 hw rfl rfl ⟨Nat.le_of_ble_eq_true rfl, Nat.le_of_ble_eq_true rfl⟩) rfl rfl (bq_at h_b) rfl (Nat.le_of_ble_eq_true rfl) dL_sum_108 ⟨by show ((k2 + 0) + 0) + 0 ≤ 12; omega, by show (((6 * k2) + 0) + 0) + 0 ≤ 72; omega⟩ (fun H locs hM => ?_)
          refine lv_i2l (v := (g (89 + 11 * k2 + 1)).toInt64) hx hb dL_sum_111 rfl ?_
          refine lv_ladd hx hb dL_sum_112 ?_
          refine lv_lmul hx hb dL_sum_113 ?_
          refine lv_aload_n hx hb dL_sum_114 rfl (lv_at hl 0 rfl) ?_
          refine lv_iload_n hx hb dL_sum_115 rfl (lv_at hl 2 rfl) ?_
          refine me_callVi (As := [.int (nI k2)]) (rest := [.long (31 * ((31 * ((31 * x2) + ((g (89 + 11 * k2)).toInt64))) + ((g (89 + 11 * k2 + 1)).toInt64)))]) hC hl.1 hM (c_X7_creditOf l D tb X z0 n2 bo g G F sf inp out M0 S B L P k2 hW (by omega)) (kv_L_134 hw rfl rfl ⟨Nat.le_of_ble_eq_true rfl, Nat.le_of_ble_eq_true rfl⟩) rfl rfl (bq_at h_b) rfl (Nat.le_of_ble_eq_true rfl) dL_sum_116 ⟨by show (((k2 + 0) + 0) + 0) + 0 ≤ 12; omega, by show ((((6 * k2) + 0) + 0) + 0) + 0 ≤ 72; omega⟩ (fun H locs hM => ?_)
          refine lv_i2l (v := (g (89 + 11 * k2 + 2)).toInt64) hx hb dL_sum_119 rfl ?_
          refine lv_ladd hx hb dL_sum_120 ?_
          refine lv_lstore_n (lv' := [(1, .long ((31 * ((31 * ((31 * x2) + ((g (89 + 11 * k2)).toInt64))) + ((g (89 + 11 * k2 + 1)).toInt64))) + ((g (89 + 11 * k2 + 2)).toInt64))), (0, .ref bo), (3, .int (nI k2))]) hx hb dL_sum_121 rfl hl (by decide) rfl (fun ls hl => ?_)
          refine lv_ldc2 (v := 31) hx hb hC.2.2.2.1 (hw _ w_1104) dL_sum_122 ?_
          refine lv_lload_n hx hb dL_sum_125 rfl (lv_at hl 0 rfl) ?_
          refine lv_lmul hx hb dL_sum_126 ?_
          refine lv_aload_n hx hb dL_sum_127 rfl (lv_at hl 1 rfl) ?_
          refine lv_iload_n hx hb dL_sum_128 rfl (lv_at hl 2 rfl) ?_
          refine lv_bipush (v := 20) hx hb dL_sum_129 (by decide) ?_
          have hfr_ := bq_fresh hM
          have hM0_ := hM
          refine me_callVi (As := [.int (nI k2), .int 20]) (rest := [.long (31 * ((31 * ((31 * ((31 * x2) + ((g (89 + 11 * k2)).toInt64))) + ((g (89 + 11 * k2 + 1)).toInt64))) + ((g (89 + 11 * k2 + 2)).toInt64)))]) hC hl.1 hM (c_X7_illnessAfter l D tb X z0 n2 bo g G F sf inp out M0 S B L P hN k2 20 hW (by omega) (by omega) (bq_lt hM)) (kv_L_137 hw rfl rfl ⟨Nat.le_of_ble_eq_true rfl, Nat.le_of_ble_eq_true rfl⟩) rfl rfl (bq_at h_b) rfl (Nat.le_of_ble_eq_true rfl) dL_sum_131 ⟨by show ((((k2 + 0) + 0) + 0) + 0) + 1 ≤ 12; omega, by show (((((6 * k2) + 0) + 0) + 0) + 0) + 6 ≤ 72; omega⟩ (fun H locs hM => ?_)
          have hM := bq_drop hfr_ (bq_lt hM0_) hM
          refine lv_i2l (v := (fcF g L P k2 20).toInt64) hx hb dL_sum_134 rfl ?_
          refine lv_ladd hx hb dL_sum_135 ?_
          refine lv_lstore_n (lv' := [(1, .long ((31 * ((31 * ((31 * ((31 * x2) + ((g (89 + 11 * k2)).toInt64))) + ((g (89 + 11 * k2 + 1)).toInt64))) + ((g (89 + 11 * k2 + 2)).toInt64))) + ((fcF g L P k2 20).toInt64))), (0, .ref bo), (3, .int (nI k2))]) hx hb dL_sum_136 rfl hl (by decide) rfl (fun ls hl => ?_)
          refine lv_iinc (v := nI (k2 + 1)) (lv' := [(3, .int (nI (k2 + 1))), (1, .long ((31 * ((31 * ((31 * ((31 * x2) + ((g (89 + 11 * k2)).toInt64))) + ((g (89 + 11 * k2 + 1)).toInt64))) + ((g (89 + 11 * k2 + 2)).toInt64))) + ((fcF g L P k2 20).toInt64))), (0, .ref bo)]) hx hb dL_sum_137 hl (k := 2) rfl (nx_add rfl rfl) (by decide) rfl (fun ls hl => ?_)
          refine lv_goto (tgt := 79) hx hb dL_sum_140 (by decide) ?_
          refine W.widen (k := k2 + 1) (n := 6 * (k2 + 1)) (by omega) (by omega) ?_
          exact ih_79 q2 (by omega) (k2 + 1) (smB g L P k2 x2) (n2 + 1) _ _ _ (by omega) hq2 hM (lv_sub hl [2, 1, 0] rfl)
      exact lp_79 B 0 x1 n _ _ _ (by omega) rfl hM (lv_sub hl [1, 2, 0] rfl)
    · have c_1 := (not_congr (br_le rfl rfl (by omega) (by omega))).mp c_1
      obtain ⟨q1, rfl⟩ : ∃ q1, r1 = q1 + 1 := ⟨r1 - 1, by omega⟩
      refine lv_ldc2 (v := 31) hx hb hC.2.2.2.1 (hw _ w_1104) dL_sum_36 ?_
      refine lv_ldc2 (v := 31) hx hb hC.2.2.2.1 (hw _ w_1104) dL_sum_39 ?_
      refine lv_ldc2 (v := 31) hx hb hC.2.2.2.1 (hw _ w_1104) dL_sum_42 ?_
      refine lv_lload_n hx hb dL_sum_45 rfl (lv_at hl 1 rfl) ?_
      refine lv_lmul hx hb dL_sum_46 ?_
      refine lv_aload_n hx hb dL_sum_47 rfl (lv_at hl 0 rfl) ?_
      refine lv_iload_n hx hb dL_sum_48 rfl (lv_at hl 2 rfl) ?_
      refine me_callVi (As := [.int (nI k1)]) (rest := [.long (31 * x1), .long 31, .long 31]) hC hl.1 hM (c_X7_noiseTotal l D tb X z0 n bo g G F sf inp out M0 S B L P k1 hW (by omega)) (kv_L_116 hw rfl rfl ⟨Nat.le_of_ble_eq_true rfl, Nat.le_of_ble_eq_true rfl⟩) rfl rfl (bq_at h_b) rfl (Nat.le_of_ble_eq_true rfl) dL_sum_49 ⟨Nat.le_of_ble_eq_true rfl, Nat.le_of_ble_eq_true rfl⟩ (fun H locs hM => ?_)
      refine lv_i2l (v := (g (9 + 10 * k1 + 2)).toInt64) hx hb dL_sum_52 rfl ?_
      refine lv_ladd hx hb dL_sum_53 ?_
      refine lv_lmul hx hb dL_sum_54 ?_
      refine lv_aload_n hx hb dL_sum_55 rfl (lv_at hl 0 rfl) ?_
      refine lv_iload_n hx hb dL_sum_56 rfl (lv_at hl 2 rfl) ?_
      refine me_callVi (As := [.int (nI k1)]) (rest := [.long (31 * ((31 * x1) + ((g (9 + 10 * k1 + 2)).toInt64))), .long 31]) hC hl.1 hM (c_X7_quietHours l D tb X z0 n bo g G F sf inp out M0 S B L P k1 hW (by omega)) (kv_L_119 hw rfl rfl ⟨Nat.le_of_ble_eq_true rfl, Nat.le_of_ble_eq_true rfl⟩) rfl rfl (bq_at h_b) rfl (Nat.le_of_ble_eq_true rfl) dL_sum_57 ⟨Nat.le_of_ble_eq_true rfl, Nat.le_of_ble_eq_true rfl⟩ (fun H locs hM => ?_)
      refine lv_i2l (v := (g (9 + 10 * k1 + 3)).toInt64) hx hb dL_sum_60 rfl ?_
      refine lv_ladd hx hb dL_sum_61 ?_
      refine lv_lmul hx hb dL_sum_62 ?_
      refine lv_aload_n hx hb dL_sum_63 rfl (lv_at hl 0 rfl) ?_
      refine lv_iload_n hx hb dL_sum_64 rfl (lv_at hl 2 rfl) ?_
      refine me_callVi (As := [.int (nI k1)]) (rest := [.long (31 * ((31 * ((31 * x1) + ((g (9 + 10 * k1 + 2)).toInt64))) + ((g (9 + 10 * k1 + 3)).toInt64)))]) hC hl.1 hM (c_X7_noiseNow l D tb X z0 n bo g G F sf inp out M0 S B L P hN k1 hW (by omega)) (kv_L_122 hw rfl rfl ⟨Nat.le_of_ble_eq_true rfl, Nat.le_of_ble_eq_true rfl⟩) rfl rfl (bq_at h_b) rfl (Nat.le_of_ble_eq_true rfl) dL_sum_65 ⟨Nat.le_of_ble_eq_true rfl, Nat.le_of_ble_eq_true rfl⟩ (fun H locs hM => ?_)
      refine lv_i2l (v := (noF g L P k1 (g 2)).toInt64) hx hb dL_sum_68 rfl ?_
      refine lv_ladd hx hb dL_sum_69 ?_
      refine lv_lstore_n (lv' := [(1, .long ((31 * ((31 * ((31 * x1) + ((g (9 + 10 * k1 + 2)).toInt64))) + ((g (9 + 10 * k1 + 3)).toInt64))) + ((noF g L P k1 (g 2)).toInt64))), (0, .ref bo), (3, .int (nI k1))]) hx hb dL_sum_70 rfl hl (by decide) rfl (fun ls hl => ?_)
      refine lv_iinc (v := nI (k1 + 1)) (lv' := [(3, .int (nI (k1 + 1))), (1, .long ((31 * ((31 * ((31 * x1) + ((g (9 + 10 * k1 + 2)).toInt64))) + ((g (9 + 10 * k1 + 3)).toInt64))) + ((noF g L P k1 (g 2)).toInt64))), (0, .ref bo)]) hx hb dL_sum_71 hl (k := 2) rfl (nx_add rfl rfl) (by decide) rfl (fun ls hl => ?_)
      refine lv_goto (tgt := 28) hx hb dL_sum_74 (by decide) ?_
      exact ih_28 q1 (by omega) (k1 + 1) (smS g L P k1 x1) _ _ _ (by omega) hq1 hM (lv_sub hl [2, 1, 0] rfl)
  exact lp_28 S 0 (31 * (31 * (nI T).toInt64 + (nI P).toInt64) + (nI L).toInt64) _ _ _ (by omega) rfl hM (lv_sub hl [2, 1, 0] rfl)
