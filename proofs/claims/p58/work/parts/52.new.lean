set_option maxHeartbeats 4000000 in
theorem c_X1_init (l : Launch) (D : va_G) (tb : Nat → ClassId) (X : State → Prop) (z0 n : Nat) (h : Nat) (M : me_M) (hN : ∀ U, X U → me_nest U)  (he : M h = some (.inr (1, [.null, .int 0, .int 0]))) (hna : n = h + 1) : Met l yX1_init (.code yX1_init cX1_init 2 none :: ws_all) ({ frames := 3, cells := 651, slots := 3840, locals := 61 } : Room) (me_Pc [.ref h] D tb X z0 (M) n) (me_Qv D z0 (hiZ tb h 10 10 M) (h + 652)) 651 3840 (me_A z0) := by
  subst hna
  refine me_open (by decide) (Nat.le_of_ble_eq_true rfl) ?_
  intro p e s m args below meth c ls hC hr hlk hnm hM hl
  have hl : lv_has ls 2 [(0, .ref h)] := hl
  have hx := hC.1
  have hb := hC.2.1
  have hw := hC.2.2.2.2.1
  refine lv_aload_n hx hb dX1_init_0 rfl (lv_at hl 0 rfl) ?_
  refine W.objInit hx hb hC.2.2.2.1 (hw _ w_230) (hw _ w_32) (hw _ w_33) rfl (by rw [hC.2.2.1]; exact hl.1) rfl dX1_init_1 (Nat.le_of_ble_eq_true rfl) (Nat.le_of_ble_eq_true rfl) ?_
  refine W.eq (g2 := F0 m 4 ls []) rfl ?_
  refine lv_aload_n hx hb dX1_init_4 rfl (lv_at hl 0 rfl) ?_
  refine lv_bipush (v := 10) hx hb dX1_init_5 (by decide) ?_
  refine me_newq (N' := 10) (k := 5) (M2 := me_up M (h + 1) (.inl (tb 5, 10, .inr (.inr (.inr (.inr (fun _ => none))))))) hC hM w_231 (hN s hC.2.2.2.2.2.1.2).2.2.2.2.2.2.2.2.2.2 rfl (by decide) (by decide) (by decide) (Nat.le_of_ble_eq_true rfl) (Nat.le_of_ble_eq_true rfl) rfl dX1_init_7 (fun H hM => ?_)
  refine fp_X1_11 hC hM hnm ((me_up_n (by omega)).trans he) (Nat.le_of_ble_eq_true rfl) (M2 := me_up (me_up M (h + 1) (.inl (tb 5, 10, .inr (.inr (.inr (.inr (fun _ => none))))))) h (.inr (1, [.ref (h + 1), .int 0, .int 0]))) rfl dX1_init_10 (fun H locs hM => ?_)
  refine lv_aload_n hx hb dX1_init_13 rfl (lv_at hl 0 rfl) ?_
  refine lv_iconst (v := 0) hx hb dX1_init_14 (by decide) ?_
  refine fp_X1_15 hC hM (me_up_s _ _ _) (Nat.le_of_ble_eq_true rfl) (M2 := me_up (me_up M (h + 1) (.inl (tb 5, 10, .inr (.inr (.inr (.inr (fun _ => none))))))) h (.inr (1, [.ref (h + 1), .int 0, .int 0]))) (me_up_up _ _ _ _) dX1_init_15 (fun H locs hM => ?_)
  refine lv_aload_n hx hb dX1_init_18 rfl (lv_at hl 0 rfl) ?_
  refine lv_iconst (v := 0) hx hb dX1_init_19 (by decide) ?_
  refine fp_X1_19 hC hM (me_up_s _ _ _) (Nat.le_of_ble_eq_true rfl) (M2 := me_up (me_up M (h + 1) (.inl (tb 5, 10, .inr (.inr (.inr (.inr (fun _ => none))))))) h (.inr (1, [.ref (h + 1), .int 0, .int 0]))) (me_up_up _ _ _ _) dX1_init_20 (fun H locs hM => ?_)
  refine lv_iconst (v := 0) hx hb dX1_init_23 (by decide) ?_
  refine lv_istore_n (lv' := [(1, .int 0), (0, .ref h)]) hx hb dX1_init_24 rfl hl (by decide) rfl (fun ls hl => ?_)
  have lp_25 : ∀ (r : Nat) (k : Nat) (H : Heap) (locs : List Loc) (ls : Array Slot), (k + r = 10) → me_at D z0 (hiZ tb h k k M) (h + 2 + 65 * k) s H locs → lv_has ls 2 [(0, .ref h), (1, .int (nI k))] → W p l e (({ frames := 3, cells := 651, slots := 3840, locals := 61 } : Room)) s m args below meth c H locs (1 + 65 * k) (10 + 383 * k) (MQ below (me_Qv D z0 (hiZ tb h 10 10 M) (h + 652)) args s 651 3840 (me_A z0)) (F0 m 25 ls []) := by
    intro r
    refine Nat.strongRecOn r ?_
    intro r ih_25 k H locs ls hk hM hl
    refine lv_iload_n hx hb dX1_init_25 rfl (lv_at hl 1 rfl) ?_
    refine lv_bipush (v := 10) hx hb dX1_init_26 (by decide) ?_
    refine lv_icmp_ge (tgt := 50) hx hb dX1_init_28 (by decide) (fun c_1 => ?_) (fun c_1 => ?_)
    · have c_1 := (br_le (nx_c 10) rfl (by omega) (by omega)).mp c_1
      obtain rfl : r = 0 := by omega
      obtain rfl : k = 10 := by omega
      refine W.widen (k := 651) (n := 3840) (by omega) (by omega) ?_
      exact me_vret hC hr hlk hM (rfl) (by omega) dX1_init_50
    · have c_1 := (not_congr (br_le (nx_c 10) rfl (by omega) (by omega))).mp c_1
      obtain ⟨r1, rfl⟩ : ∃ r1, r = r1 + 1 := ⟨r - 1, by omega⟩
      refine lv_aload_n hx hb dX1_init_31 rfl (lv_at hl 0 rfl) ?_
      refine fg_X1_11 hC hM hi_h rfl dX1_init_32 ?_
      refine lv_iload_n hx hb dX1_init_35 rfl (lv_at hl 1 rfl) ?_
      refine me_new (C := RX5) (T := TX5) (N := 13) (ci := 5) (fs := [.int 0, .int 0, .int 0, .int 0, .int 0, .int 0, .int 0, .int 0, .int 0, .null, .null, .null, .null]) (M2 := me_up (hiZ tb h k k M) (h + 2 + 65 * k) (.inr (5, [.int 0, .int 0, .int 0, .int 0, .int 0, .int 0, .int 0, .int 0, .int 0, .null, .null, .null, .null]))) hC hM in_X5 tyX5 tyX5_ok w_231 w_35 w_2 rfl (fun j hj => by rcases (show j = 0 ∨ j = 1 ∨ j = 2 ∨ j = 3 ∨ j = 4 ∨ j = 5 ∨ j = 6 ∨ j = 7 ∨ j = 8 ∨ j = 9 ∨ j = 10 ∨ j = 11 ∨ j = 12 by omega) with rfl | rfl | rfl | rfl | rfl | rfl | rfl | rfl | rfl | rfl | rfl | rfl | rfl <;> rfl) (by show (1 + 65 * k) + 1 ≤ 651; omega) (by show (10 + 383 * k) + 13 ≤ 3840; omega) rfl dX1_init_36 (fun H hM => ?_)
      refine lv_dup hx hb dX1_init_39 rfl ?_
      refine me_callIv (As := []) (rest := [.ref (h + 2 + 65 * k), .int (nI k), .ref (h + 1)]) hC hl.1 hM (c_X5_init l D tb X z0 (h + 2 + 65 * k + 1) (h + 2 + 65 * k) (me_up (hiZ tb h k k M) (h + 2 + 65 * k) (.inr (5, [.int 0, .int 0, .int 0, .int 0, .int 0, .int 0, .int 0, .int 0, .int 0, .null, .null, .null, .null]))) hN (me_up_s _ _ _) rfl) (ki_X1_22 hw rfl rfl ⟨Nat.le_of_ble_eq_true rfl, Nat.le_of_ble_eq_true rfl⟩) rfl rfl (Nat.le_of_ble_eq_true rfl) dX1_init_40 ⟨by show ((1 + 65 * k) + 1) + 64 ≤ 651; omega, by show ((10 + 383 * k) + 13) + 370 ≤ 3840; omega⟩ (fun H locs hM => ?_)
      have hM := hM.eq hi_next
      refine me_aast (k := k) (t0 := 5) (ci := 5) (M2 := hiZ tb h (k + 1) (k + 1) M) hC hM hi_ar rfl hi_s rfl rfl (by omega) (by decide) (hi_st (j := 0)) dX1_init_43 (fun H locs hM => ?_)
      refine lv_iinc (v := nI (k + 1)) (lv' := [(1, .int (nI (k + 1))), (0, .ref h)]) hx hb dX1_init_44 hl (k := 1) rfl (nx_add rfl rfl) (by decide) rfl (fun ls hl => ?_)
      refine lv_goto (tgt := 25) hx hb dX1_init_47 (by decide) ?_
      refine W.widen (k := 1 + 65 * (k + 1)) (n := 10 + 383 * (k + 1)) (by omega) (by omega) ?_
      exact ih_25 r1 (by omega) (k + 1) _ _ _ (by omega) (me_atn hM (by omega)) (lv_sub hl [1, 0] rfl)
  have hM := hM.eq hi_start
  refine W.widen (k := 1 + 65 * 0) (n := 10 + 383 * 0) (by omega) (by omega) ?_
  exact lp_25 10 0 _ _ _ (by omega) hM (lv_sub hl [1, 0] rfl)
set_option maxHeartbeats 4000000 in
theorem c_X7_bytesOf (l : Launch) (D : va_G) (tb : Nat → ClassId) (X : State → Prop) (z0 n : Nat) (kK kV : Nat → Nat) (M : me_M)  (hKS : ∀ U, X U → me_ks kK kV z0 U) : Met l yX7_bytesOf (.code yX7_bytesOf cX7_bytesOf 3 (Option.some (Jvm.ClassFile.FieldType.array Jvm.ClassFile.FieldType.byte)) :: ws_all) ({ frames := 4, cells := 1, slots := 169, locals := 85 } : Room) (me_Pc [.ref (kK 7)] D tb X z0 (M) n) (me_Qr D z0 n (me_up M n (.inl (tb 1, 169, .inl ftT))) (n + 1)) 1 169 (me_A z0) := by
  refine me_open (by decide) (Nat.le_of_ble_eq_true rfl) ?_
  intro p e s m args below meth c ls hC hr hlk hnm hM hl
  have hl : lv_has ls 3 [(0, .ref (kK 7))] := hl
  have hx := hC.1
  have hb := hC.2.1
  have hw := hC.2.2.2.2.1
  refine lv_aload_n hx hb dX7_bytesOf_0 rfl (lv_at hl 0 rfl) ?_
  refine me_callVri (As := []) (rest := []) hC hl.1 hM (c_J0_length_8abf5 l D tb X z0 n kK kV M 7 hKS (show 7 < 12 by decide)) (kv_X7_59 hw rfl rfl ⟨Nat.le_of_ble_eq_true rfl, Nat.le_of_ble_eq_true rfl⟩) rfl (vk_recv (hKS s hC.2.2.2.2.2.1.2).1 (show 7 < 12 by decide) hM.2.2.2.2) rfl (Nat.le_of_ble_eq_true rfl) dX7_bytesOf_1 ⟨Nat.le_of_ble_eq_true rfl, Nat.le_of_ble_eq_true rfl⟩ (fun H locs hM => ?_)
  refine me_evi (y := 169) (show nI (ks_len.getD 7 0) = 169 from rfl) ?_
  refine me_newa (atype := .byte) (N' := 169) (a0 := (169, .inl (fun _ => 0))) (k := 1) (M2 := me_up M n (.inl (tb 1, 169, .inl (fun _ => 0)))) hC hM w_331 rfl (fun _ => rfl) (by decide) (by decide) (by decide) (Nat.le_of_ble_eq_true rfl) (Nat.le_of_ble_eq_true rfl) rfl dX7_bytesOf_4 (fun H hM => ?_)
  refine lv_astore_n (lv' := [(1, .ref n), (0, .ref (kK 7))]) hx hb dX7_bytesOf_6 rfl hl (by decide) rfl (fun ls hl => ?_)
  refine lv_iconst (v := 0) hx hb dX7_bytesOf_7 (by decide) ?_
  refine lv_istore_n (lv' := [(2, .int 0), (1, .ref n), (0, .ref (kK 7))]) hx hb dX7_bytesOf_8 rfl hl (by decide) rfl (fun ls hl => ?_)
  have lp_9 : ∀ (r : Nat) (k : Nat) (f : Nat → Int32) (H : Heap) (locs : List Loc) (ls : Array Slot), (k + r = 169) → (ftT = it bytS r k f) → me_at D z0 (me_up M n (.inl (tb 1, 169, .inl (f)))) (n + 1) s H locs → lv_has ls 3 [(0, .ref (kK 7)), (1, .ref n), (2, .int (nI k))] → W p l e (({ frames := 4, cells := 1, slots := 169, locals := 85 } : Room)) s m args below meth c H locs 1 169 (MQ below (me_Qr D z0 n (me_up M n (.inl (tb 1, 169, .inl ftT))) (n + 1)) args s 1 169 (me_A z0)) (F0 m 9 ls []) := by
    intro r
    refine Nat.strongRecOn r ?_
    intro r ih_9 k f H locs ls hk hq hM hl
    refine lv_iload_n hx hb dX7_bytesOf_9 rfl (lv_at hl 2 rfl) ?_
    refine lv_aload_n hx hb dX7_bytesOf_10 rfl (lv_at hl 1 rfl) ?_
    refine me_alen (t0 := 1) hC hM (me_up_s _ _ _) rfl dX7_bytesOf_11 ?_
    refine lv_icmp_ge (tgt := 30) hx hb dX7_bytesOf_12 (by decide) (fun c_1 => ?_) (fun c_1 => ?_)
    · have c_1 := (br_le rfl rfl (by omega) (by omega)).mp c_1
      refine lv_aload_n hx hb dX7_bytesOf_30 rfl (lv_at hl 1 rfl) ?_
      exact me_aret hC hr (by first | exact Or.inl ⟨_, rfl⟩ | exact Or.inr ⟨_, rfl⟩) hlk hM (by rw [hq, show r = 0 by omega]; rfl) (rfl) dX7_bytesOf_31
    · have c_1 := (not_congr (br_le rfl rfl (by omega) (by omega))).mp c_1
      obtain ⟨r1, rfl⟩ : ∃ r1, r = r1 + 1 := ⟨r - 1, by omega⟩
      have hk7 : ks_len.getD 7 0 = 169 := rfl
      refine lv_aload_n hx hb dX7_bytesOf_15 rfl (lv_at hl 1 rfl) ?_
      refine lv_iload_n hx hb dX7_bytesOf_16 rfl (lv_at hl 2 rfl) ?_
      refine lv_aload_n hx hb dX7_bytesOf_17 rfl (lv_at hl 0 rfl) ?_
      refine lv_iload_n hx hb dX7_bytesOf_18 rfl (lv_at hl 2 rfl) ?_
      refine me_callVri (As := [.int (nI k)]) (rest := [.int (nI k), .ref n]) hC hl.1 hM (c_J0_charAt_5068e l D tb X z0 (n + 1) kK kV (me_up M n (.inl (tb 1, 169, .inl (f)))) 7 k hKS (show 7 < 12 by decide) (by omega)) (kv_X7_371 hw rfl rfl ⟨Nat.le_of_ble_eq_true rfl, Nat.le_of_ble_eq_true rfl⟩) rfl (vk_recv (hKS s hC.2.2.2.2.2.1.2).1 (show 7 < 12 by decide) hM.2.2.2.2) rfl (Nat.le_of_ble_eq_true rfl) dX7_bytesOf_19 ⟨Nat.le_of_ble_eq_true rfl, Nat.le_of_ble_eq_true rfl⟩ (fun H locs hM => ?_)
      refine lv_i2b (v := (ks_c 7 k).toInt8.toInt32) hx hb dX7_bytesOf_22 rfl ?_
      refine me_bast (k := k) (M2 := me_up M n (.inl (tb 1, 169, .inl (upd f k (vp_nar .byte ((ks_c 7 k).toInt8.toInt32)))))) hC hM (me_up_s _ _ _) rfl (by omega) (by first | decide | omega) (me_up_up _ _ _ _) dX7_bytesOf_23 (fun H locs hM => ?_)
      refine lv_iinc (v := nI (k + 1)) (lv' := [(2, .int (nI (k + 1))), (0, .ref (kK 7)), (1, .ref n)]) hx hb dX7_bytesOf_24 hl (k := 2) rfl (nx_add rfl rfl) (by decide) rfl (fun ls hl => ?_)
      refine lv_goto (tgt := 9) hx hb dX7_bytesOf_27 (by decide) ?_
      exact ih_9 r1 (by omega) (k + 1) (bytS k f) _ _ _ (by omega) hq hM (lv_sub hl [1, 2, 0] rfl)
  exact lp_9 169 0 (fun _ => 0) _ _ _ (by omega) rfl hM (lv_sub hl [2, 1, 0] rfl)
