set_option maxHeartbeats 4000000 in
theorem c_X6_init (l : Launch) (D : va_G) (tb : Nat → ClassId) (X : State → Prop) (z0 n : Nat) (M : me_M) (q : Nat)  : Met l yX6_init (.code yX6_init cX6_init 1 none :: ws_all) ({ frames := 1, cells := 0, slots := 0, locals := 20 } : Room) (me_Pc [.ref q] D tb X z0 (M) n) (me_Qv D z0 (M) n) 0 0 (me_A z0) := by
  refine me_open (by decide) (Nat.le_of_ble_eq_true rfl) ?_
  intro p e s m args below meth c ls hC hr hlk hnm hM hl
  have hl : lv_has ls 1 [(0, .ref q)] := hl
  have hx := hC.1
  have hb := hC.2.1
  have hw := hC.2.2.2.2.1
  refine lv_aload_n hx hb dX6_init_0 rfl (lv_at hl 0 rfl) ?_
  refine W.objInit hx hb hC.2.2.2.1 (hw _ w_52) (hw _ w_32) (hw _ w_33) rfl (by rw [hC.2.2.1]; exact hl.1) rfl dX6_init_1 (Nat.le_of_ble_eq_true rfl) (Nat.le_of_ble_eq_true rfl) ?_
  refine W.eq (g2 := F0 m 4 ls []) rfl ?_
  exact me_vret hC hr hlk hM (rfl) (rfl) dX6_init_4
set_option maxHeartbeats 4000000 in
theorem c_X0_init (l : Launch) (D : va_G) (tb : Nat → ClassId) (X : State → Prop) (z0 n : Nat) (M : me_M) (q : Nat)  : Met l yX0_init (.code yX0_init cX0_init 1 none :: ws_all) ({ frames := 1, cells := 0, slots := 0, locals := 20 } : Room) (me_Pc [.ref q] D tb X z0 (M) n) (me_Qv D z0 (M) n) 0 0 (me_A z0) := by
  refine me_open (by decide) (Nat.le_of_ble_eq_true rfl) ?_
  intro p e s m args below meth c ls hC hr hlk hnm hM hl
  have hl : lv_has ls 1 [(0, .ref q)] := hl
  have hx := hC.1
  have hb := hC.2.1
  have hw := hC.2.2.2.2.1
  refine lv_aload_n hx hb dX0_init_0 rfl (lv_at hl 0 rfl) ?_
  refine W.objInit hx hb hC.2.2.2.1 (hw _ w_83) (hw _ w_32) (hw _ w_33) rfl (by rw [hC.2.2.1]; exact hl.1) rfl dX0_init_1 (Nat.le_of_ble_eq_true rfl) (Nat.le_of_ble_eq_true rfl) ?_
  refine W.eq (g2 := F0 m 4 ls []) rfl ?_
  exact me_vret hC hr hlk hM (rfl) (rfl) dX0_init_4
set_option maxHeartbeats 4000000 in
theorem c_X2_init (l : Launch) (D : va_G) (tb : Nat → ClassId) (X : State → Prop) (z0 n : Nat) (M : me_M) (q : Nat)  : Met l yX2_init (.code yX2_init cX2_init 1 none :: ws_all) ({ frames := 1, cells := 0, slots := 0, locals := 20 } : Room) (me_Pc [.ref q] D tb X z0 (M) n) (me_Qv D z0 (M) n) 0 0 (me_A z0) := by
  refine me_open (by decide) (Nat.le_of_ble_eq_true rfl) ?_
  intro p e s m args below meth c ls hC hr hlk hnm hM hl
  have hl : lv_has ls 1 [(0, .ref q)] := hl
  have hx := hC.1
  have hb := hC.2.1
  have hw := hC.2.2.2.2.1
  refine lv_aload_n hx hb dX2_init_0 rfl (lv_at hl 0 rfl) ?_
  refine W.objInit hx hb hC.2.2.2.1 (hw _ w_116) (hw _ w_32) (hw _ w_33) rfl (by rw [hC.2.2.1]; exact hl.1) rfl dX2_init_1 (Nat.le_of_ble_eq_true rfl) (Nat.le_of_ble_eq_true rfl) ?_
  refine W.eq (g2 := F0 m 4 ls []) rfl ?_
  exact me_vret hC hr hlk hM (rfl) (rfl) dX2_init_4
set_option maxHeartbeats 4000000 in
theorem c_X4_init (l : Launch) (D : va_G) (tb : Nat → ClassId) (X : State → Prop) (z0 n : Nat) (M : me_M) (q : Nat)  : Met l yX4_init (.code yX4_init cX4_init 1 none :: ws_all) ({ frames := 1, cells := 0, slots := 0, locals := 20 } : Room) (me_Pc [.ref q] D tb X z0 (M) n) (me_Qv D z0 (M) n) 0 0 (me_A z0) := by
  refine me_open (by decide) (Nat.le_of_ble_eq_true rfl) ?_
  intro p e s m args below meth c ls hC hr hlk hnm hM hl
  have hl : lv_has ls 1 [(0, .ref q)] := hl
  have hx := hC.1
  have hb := hC.2.1
  have hw := hC.2.2.2.2.1
  refine lv_aload_n hx hb dX4_init_0 rfl (lv_at hl 0 rfl) ?_
  refine W.objInit hx hb hC.2.2.2.1 (hw _ w_148) (hw _ w_32) (hw _ w_33) rfl (by rw [hC.2.2.1]; exact hl.1) rfl dX4_init_1 (Nat.le_of_ble_eq_true rfl) (Nat.le_of_ble_eq_true rfl) ?_
  refine W.eq (g2 := F0 m 4 ls []) rfl ?_
  exact me_vret hC hr hlk hM (rfl) (rfl) dX4_init_4
set_option maxHeartbeats 4000000 in
theorem c_X5_init (l : Launch) (D : va_G) (tb : Nat → ClassId) (X : State → Prop) (z0 n : Nat) (a : Nat) (M : me_M) (hN : ∀ U, X U → me_nest U) (he : M a = some (.inr (5, [.int 0, .int 0, .int 0, .int 0, .int 0, .int 0, .int 0, .int 0, .int 0, .null, .null, .null, .null]))) (hna : n = a + 1) : Met l yX5_init (.code yX5_init cX5_init 2 none :: ws_all) ({ frames := 2, cells := 64, slots := 370, locals := 40 } : Room) (me_Pc [.ref a] D tb X z0 (M) n) (me_Qv D z0 (sp tb a (fun _ => 0) M) (a + 65)) 64 370 (me_A z0) := by
  subst hna
  refine me_open (by decide) (Nat.le_of_ble_eq_true rfl) ?_
  intro p e s m args below meth c ls hC hr hlk hnm hM hl
  have hl : lv_has ls 2 [(0, .ref a)] := hl
  have hx := hC.1
  have hb := hC.2.1
  have hw := hC.2.2.2.2.1
  refine lv_aload_n hx hb dX5_init_0 rfl (lv_at hl 0 rfl) ?_
  refine W.objInit hx hb hC.2.2.2.1 (hw _ w_39) (hw _ w_32) (hw _ w_33) rfl (by rw [hC.2.2.1]; exact hl.1) rfl dX5_init_1 (Nat.le_of_ble_eq_true rfl) (Nat.le_of_ble_eq_true rfl) ?_
  refine W.eq (g2 := F0 m 4 ls []) rfl ?_
  refine lv_aload_n hx hb dX5_init_4 rfl (lv_at hl 0 rfl) ?_
  refine lv_bipush (v := 8) hx hb dX5_init_5 (by decide) ?_
  refine me_newq (N' := 8) (k := 6) (M2 := me_up M (a + 1) (.inl (tb 6, 8, .inr (.inr (.inr (.inr (fun _ => none))))))) hC hM w_40 (hN s hC.2.2.2.2.2.1.2).2.2.2.2.2.2.1 rfl (by decide) (by decide) (by decide) (Nat.le_of_ble_eq_true rfl) (Nat.le_of_ble_eq_true rfl) rfl dX5_init_7 (fun H hM => ?_)
  refine fp_X5_11 hC hM hnm ((me_up_n (by omega)).trans he) (Nat.le_of_ble_eq_true rfl) (M2 := me_up (me_up M (a + 1) (.inl (tb 6, 8, .inr (.inr (.inr (.inr (fun _ => none))))))) a (.inr (5, [.int 0, .int 0, .int 0, .int 0, .int 0, .int 0, .int 0, .int 0, .int 0, .ref (a + 1), .null, .null, .null]))) rfl dX5_init_10 (fun H locs hM => ?_)
  refine lv_aload_n hx hb dX5_init_13 rfl (lv_at hl 0 rfl) ?_
  refine lv_bipush (v := 12) hx hb dX5_init_14 (by decide) ?_
  refine me_newq (N' := 12) (k := 7) (M2 := me_up (me_up (me_up M (a + 1) (.inl (tb 6, 8, .inr (.inr (.inr (.inr (fun _ => none))))))) a (.inr (5, [.int 0, .int 0, .int 0, .int 0, .int 0, .int 0, .int 0, .int 0, .int 0, .ref (a + 1), .null, .null, .null]))) (a + 2) (.inl (tb 7, 12, .inr (.inr (.inr (.inr (fun _ => none))))))) hC hM w_42 (hN s hC.2.2.2.2.2.1.2).2.2.2.2.2.2.2.1 rfl (by decide) (by decide) (by decide) (Nat.le_of_ble_eq_true rfl) (Nat.le_of_ble_eq_true rfl) rfl dX5_init_16 (fun H hM => ?_)
  refine fp_X5_19 hC hM hnm ((me_up_n (by omega)).trans (me_up_s _ _ _)) (Nat.le_of_ble_eq_true rfl) (M2 := me_up (me_up (me_up (me_up M (a + 1) (.inl (tb 6, 8, .inr (.inr (.inr (.inr (fun _ => none))))))) a (.inr (5, [.int 0, .int 0, .int 0, .int 0, .int 0, .int 0, .int 0, .int 0, .int 0, .ref (a + 1), .null, .null, .null]))) (a + 2) (.inl (tb 7, 12, .inr (.inr (.inr (.inr (fun _ => none))))))) a (.inr (5, [.int 0, .int 0, .int 0, .int 0, .int 0, .int 0, .int 0, .int 0, .int 0, .ref (a + 1), .ref (a + 2), .null, .null]))) rfl dX5_init_19 (fun H locs hM => ?_)
  refine lv_aload_n hx hb dX5_init_22 rfl (lv_at hl 0 rfl) ?_
  refine lv_bipush (v := 30) hx hb dX5_init_23 (by decide) ?_
  refine me_newq (N' := 30) (k := 8) (M2 := me_up (me_up (me_up (me_up (me_up M (a + 1) (.inl (tb 6, 8, .inr (.inr (.inr (.inr (fun _ => none))))))) a (.inr (5, [.int 0, .int 0, .int 0, .int 0, .int 0, .int 0, .int 0, .int 0, .int 0, .ref (a + 1), .null, .null, .null]))) (a + 2) (.inl (tb 7, 12, .inr (.inr (.inr (.inr (fun _ => none))))))) a (.inr (5, [.int 0, .int 0, .int 0, .int 0, .int 0, .int 0, .int 0, .int 0, .int 0, .ref (a + 1), .ref (a + 2), .null, .null]))) (a + 3) (.inl (tb 8, 30, .inr (.inr (.inr (.inr (fun _ => none))))))) hC hM w_44 (hN s hC.2.2.2.2.2.1.2).2.2.2.2.2.2.2.2.1 rfl (by decide) (by decide) (by decide) (Nat.le_of_ble_eq_true rfl) (Nat.le_of_ble_eq_true rfl) rfl dX5_init_25 (fun H hM => ?_)
  refine fp_X5_25 hC hM hnm ((me_up_n (by omega)).trans (me_up_s _ _ _)) (Nat.le_of_ble_eq_true rfl) (M2 := me_up (me_up (me_up (me_up (me_up (me_up M (a + 1) (.inl (tb 6, 8, .inr (.inr (.inr (.inr (fun _ => none))))))) a (.inr (5, [.int 0, .int 0, .int 0, .int 0, .int 0, .int 0, .int 0, .int 0, .int 0, .ref (a + 1), .null, .null, .null]))) (a + 2) (.inl (tb 7, 12, .inr (.inr (.inr (.inr (fun _ => none))))))) a (.inr (5, [.int 0, .int 0, .int 0, .int 0, .int 0, .int 0, .int 0, .int 0, .int 0, .ref (a + 1), .ref (a + 2), .null, .null]))) (a + 3) (.inl (tb 8, 30, .inr (.inr (.inr (.inr (fun _ => none))))))) a (.inr (5, [.int 0, .int 0, .int 0, .int 0, .int 0, .int 0, .int 0, .int 0, .int 0, .ref (a + 1), .ref (a + 2), .ref (a + 3), .null]))) rfl dX5_init_28 (fun H locs hM => ?_)
  refine lv_aload_n hx hb dX5_init_31 rfl (lv_at hl 0 rfl) ?_
  refine lv_bipush (v := 10) hx hb dX5_init_32 (by decide) ?_
  refine me_newq (N' := 10) (k := 9) (M2 := me_up (me_up (me_up (me_up (me_up (me_up (me_up M (a + 1) (.inl (tb 6, 8, .inr (.inr (.inr (.inr (fun _ => none))))))) a (.inr (5, [.int 0, .int 0, .int 0, .int 0, .int 0, .int 0, .int 0, .int 0, .int 0, .ref (a + 1), .null, .null, .null]))) (a + 2) (.inl (tb 7, 12, .inr (.inr (.inr (.inr (fun _ => none))))))) a (.inr (5, [.int 0, .int 0, .int 0, .int 0, .int 0, .int 0, .int 0, .int 0, .int 0, .ref (a + 1), .ref (a + 2), .null, .null]))) (a + 3) (.inl (tb 8, 30, .inr (.inr (.inr (.inr (fun _ => none))))))) a (.inr (5, [.int 0, .int 0, .int 0, .int 0, .int 0, .int 0, .int 0, .int 0, .int 0, .ref (a + 1), .ref (a + 2), .ref (a + 3), .null]))) (a + 4) (.inl (tb 9, 10, .inr (.inr (.inr (.inr (fun _ => none))))))) hC hM w_46 (hN s hC.2.2.2.2.2.1.2).2.2.2.2.2.2.2.2.2.1 rfl (by decide) (by decide) (by decide) (Nat.le_of_ble_eq_true rfl) (Nat.le_of_ble_eq_true rfl) rfl dX5_init_34 (fun H hM => ?_)
  refine fp_X5_31 hC hM hnm ((me_up_n (by omega)).trans (me_up_s _ _ _)) (Nat.le_of_ble_eq_true rfl) (M2 := me_up (me_up (me_up (me_up (me_up (me_up (me_up (me_up M (a + 1) (.inl (tb 6, 8, .inr (.inr (.inr (.inr (fun _ => none))))))) a (.inr (5, [.int 0, .int 0, .int 0, .int 0, .int 0, .int 0, .int 0, .int 0, .int 0, .ref (a + 1), .null, .null, .null]))) (a + 2) (.inl (tb 7, 12, .inr (.inr (.inr (.inr (fun _ => none))))))) a (.inr (5, [.int 0, .int 0, .int 0, .int 0, .int 0, .int 0, .int 0, .int 0, .int 0, .ref (a + 1), .ref (a + 2), .null, .null]))) (a + 3) (.inl (tb 8, 30, .inr (.inr (.inr (.inr (fun _ => none))))))) a (.inr (5, [.int 0, .int 0, .int 0, .int 0, .int 0, .int 0, .int 0, .int 0, .int 0, .ref (a + 1), .ref (a + 2), .ref (a + 3), .null]))) (a + 4) (.inl (tb 9, 10, .inr (.inr (.inr (.inr (fun _ => none))))))) a (.inr (5, [.int 0, .int 0, .int 0, .int 0, .int 0, .int 0, .int 0, .int 0, .int 0, .ref (a + 1), .ref (a + 2), .ref (a + 3), .ref (a + 4)]))) rfl dX5_init_37 (fun H locs hM => ?_)
  refine lv_iconst (v := 0) hx hb dX5_init_40 (by decide) ?_
  refine lv_istore_n (lv' := [(1, .int 0), (0, .ref a)]) hx hb dX5_init_41 rfl hl (by decide) rfl (fun ls hl => ?_)
  have lp_42 : ∀ (r : Nat) (k : Nat) (H : Heap) (locs : List Loc) (ls : Array Slot), (k + r = 8) → me_at D z0 (sq tb a k 0 0 0 (5 + k) M) (a + 5 + k) s H locs → lv_has ls 2 [(0, .ref a), (1, .int (nI k))] → W p l e (({ frames := 2, cells := 64, slots := 370, locals := 40 } : Room)) s m args below meth c H locs (4 + k) (60 + 6 * k) (MQ below (me_Qv D z0 (sp tb a (fun _ => 0) M) (a + 65)) args s 64 370 (me_A z0)) (F0 m 42 ls []) := by
    intro r
    refine Nat.strongRecOn r ?_
    intro r ih_42 k H locs ls hk hM hl
    refine lv_iload_n hx hb dX5_init_42 rfl (lv_at hl 1 rfl) ?_
    refine lv_bipush (v := 8) hx hb dX5_init_43 (by decide) ?_
    refine lv_icmp_ge (tgt := 67) hx hb dX5_init_45 (by decide) (fun c_1 => ?_) (fun c_1 => ?_)
    · have c_1 := (br_le (nx_c 8) rfl (by omega) (by omega)).mp c_1
      obtain rfl : r = 0 := by omega
      obtain rfl : k = 8 := by omega
      refine lv_iconst (v := 0) hx hb dX5_init_67 (by decide) ?_
      refine lv_istore_n (lv' := [(1, .int 0), (0, .ref a)]) hx hb dX5_init_68 rfl hl (by decide) rfl (fun ls hl => ?_)
      have lp_69 : ∀ (r : Nat) (k : Nat) (H : Heap) (locs : List Loc) (ls : Array Slot), (k + r = 12) → me_at D z0 (sq tb a 8 k 0 0 (13 + k) M) (a + 13 + k) s H locs → lv_has ls 2 [(0, .ref a), (1, .int (nI k))] → W p l e (({ frames := 2, cells := 64, slots := 370, locals := 40 } : Room)) s m args below meth c H locs (12 + k) (108 + 6 * k) (MQ below (me_Qv D z0 (sp tb a (fun _ => 0) M) (a + 65)) args s 64 370 (me_A z0)) (F0 m 69 ls []) := by
        intro r
        refine Nat.strongRecOn r ?_
        intro r ih_69 k H locs ls hk hM hl
        refine lv_iload_n hx hb dX5_init_69 rfl (lv_at hl 1 rfl) ?_
        refine lv_bipush (v := 12) hx hb dX5_init_70 (by decide) ?_
        refine lv_icmp_ge (tgt := 94) hx hb dX5_init_72 (by decide) (fun c_2 => ?_) (fun c_2 => ?_)
        · have c_2 := (br_le (nx_c 12) rfl (by omega) (by omega)).mp c_2
          obtain rfl : r = 0 := by omega
          obtain rfl : k = 12 := by omega
          refine lv_iconst (v := 0) hx hb dX5_init_94 (by decide) ?_
          refine lv_istore_n (lv' := [(1, .int 0), (0, .ref a)]) hx hb dX5_init_95 rfl hl (by decide) rfl (fun ls hl => ?_)
          have lp_96 : ∀ (r : Nat) (k : Nat) (H : Heap) (locs : List Loc) (ls : Array Slot), (k + r = 30) → me_at D z0 (sq tb a 8 12 k 0 (25 + k) M) (a + 25 + k) s H locs → lv_has ls 2 [(0, .ref a), (1, .int (nI k))] → W p l e (({ frames := 2, cells := 64, slots := 370, locals := 40 } : Room)) s m args below meth c H locs (24 + k) (180 + 5 * k) (MQ below (me_Qv D z0 (sp tb a (fun _ => 0) M) (a + 65)) args s 64 370 (me_A z0)) (F0 m 96 ls []) := by
            intro r
            refine Nat.strongRecOn r ?_
            intro r ih_96 k H locs ls hk hM hl
            refine lv_iload_n hx hb dX5_init_96 rfl (lv_at hl 1 rfl) ?_
            refine lv_bipush (v := 30) hx hb dX5_init_97 (by decide) ?_
            refine lv_icmp_ge (tgt := 121) hx hb dX5_init_99 (by decide) (fun c_3 => ?_) (fun c_3 => ?_)
            · have c_3 := (br_le (nx_c 30) rfl (by omega) (by omega)).mp c_3
              obtain rfl : r = 0 := by omega
              obtain rfl : k = 30 := by omega
              refine lv_iconst (v := 0) hx hb dX5_init_121 (by decide) ?_
              refine lv_istore_n (lv' := [(1, .int 0), (0, .ref a)]) hx hb dX5_init_122 rfl hl (by decide) rfl (fun ls hl => ?_)
              have lp_123 : ∀ (r : Nat) (k : Nat) (H : Heap) (locs : List Loc) (ls : Array Slot), (k + r = 10) → me_at D z0 (sq tb a 8 12 30 k (55 + k) M) (a + 55 + k) s H locs → lv_has ls 2 [(0, .ref a), (1, .int (nI k))] → W p l e (({ frames := 2, cells := 64, slots := 370, locals := 40 } : Room)) s m args below meth c H locs (54 + k) (330 + 4 * k) (MQ below (me_Qv D z0 (sp tb a (fun _ => 0) M) (a + 65)) args s 64 370 (me_A z0)) (F0 m 123 ls []) := by
                intro r
                refine Nat.strongRecOn r ?_
                intro r ih_123 k H locs ls hk hM hl
                refine lv_iload_n hx hb dX5_init_123 rfl (lv_at hl 1 rfl) ?_
                refine lv_bipush (v := 10) hx hb dX5_init_124 (by decide) ?_
                refine lv_icmp_ge (tgt := 148) hx hb dX5_init_126 (by decide) (fun c_4 => ?_) (fun c_4 => ?_)
                · have c_4 := (br_le (nx_c 10) rfl (by omega) (by omega)).mp c_4
                  obtain rfl : r = 0 := by omega
                  obtain rfl : k = 10 := by omega
                  refine W.widen (k := 64) (n := 370) (by omega) (by omega) ?_
                  exact me_vret hC hr hlk hM (rfl) (by omega) dX5_init_148
                · have c_4 := (not_congr (br_le (nx_c 10) rfl (by omega) (by omega))).mp c_4
                  obtain ⟨r1, rfl⟩ : ∃ r1, r = r1 + 1 := ⟨r - 1, by omega⟩
                  refine lv_aload_n hx hb dX5_init_129 rfl (lv_at hl 0 rfl) ?_
                  refine fg_X5_31 hC hM (sq_st (by omega)) rfl dX5_init_130 ?_
                  refine lv_iload_n hx hb dX5_init_133 rfl (lv_at hl 1 rfl) ?_
                  refine me_new (C := RX4) (T := TX4) (N := 4) (ci := 4) (fs := [.int 0, .int 0, .int 0, .int 0]) (M2 := sq tb a 8 12 30 k (55 + k + 1) M) hC hM in_X4 tyX4 tyX4_ok w_46 w_144 w_6 rfl (fun j hj => by rcases (show j = 0 ∨ j = 1 ∨ j = 2 ∨ j = 3 by omega) with rfl | rfl | rfl | rfl <;> rfl) (by show (54 + k) + 1 ≤ 64; omega) (by show (330 + 4 * k) + 4 ≤ 370; omega) (sq_n_permit (by omega) (by omega)) dX5_init_134 (fun H hM => ?_)
                  refine lv_dup hx hb dX5_init_137 rfl ?_
                  refine me_callINv (nA := 0) (As := []) (rest := [.ref (a + 55 + k), .int (nI k), .ref (a + 4)]) hC hl.1 hM (c_X4_init l D tb X z0 (a + 55 + k + 1) _ (a + 55 + k)) (hN s hC.2.2.2.2.2.1.2).2.2.2.1 w_146 w_6 w_147 rfl rfl rfl (by decide +kernel) ⟨Nat.le_of_ble_eq_true rfl, Nat.le_of_ble_eq_true rfl⟩ rfl rfl (Nat.le_of_ble_eq_true rfl) dX5_init_138 ⟨by show ((54 + k) + 1) + 0 ≤ 64; omega, by show ((330 + 4 * k) + 4) + 0 ≤ 370; omega⟩ (fun H locs hM => ?_)
                  refine me_aast (k := k) (t0 := 9) (ci := 4) (M2 := sq tb a 8 12 30 (k + 1) (55 + k + 1) M) hC hM (sq_a4 (by omega)) rfl (sq_e_permit (by omega) (by omega)) rfl rfl (by omega) (by decide) (sq_f4 (by omega) (by omega)) dX5_init_141 (fun H locs hM => ?_)
                  refine lv_iinc (v := nI (k + 1)) (lv' := [(1, .int (nI (k + 1))), (0, .ref a)]) hx hb dX5_init_142 hl (k := 1) rfl (nx_add rfl rfl) (by decide) rfl (fun ls hl => ?_)
                  refine lv_goto (tgt := 123) hx hb dX5_init_145 (by decide) ?_
                  refine W.widen (k := 54 + (k + 1)) (n := 330 + 4 * (k + 1)) (by omega) (by omega) ?_
                  exact ih_123 r1 (by omega) (k + 1) _ _ _ (by omega) hM (lv_sub hl [1, 0] rfl)
              refine W.widen (k := 54 + 0) (n := 330 + 4 * 0) (by omega) (by omega) ?_
              exact lp_123 10 0 _ _ _ (by omega) hM (lv_sub hl [1, 0] rfl)
            · have c_3 := (not_congr (br_le (nx_c 30) rfl (by omega) (by omega))).mp c_3
              obtain ⟨r1, rfl⟩ : ∃ r1, r = r1 + 1 := ⟨r - 1, by omega⟩
              refine lv_aload_n hx hb dX5_init_102 rfl (lv_at hl 0 rfl) ?_
              refine fg_X5_25 hC hM (sq_st (by omega)) rfl dX5_init_103 ?_
              refine lv_iload_n hx hb dX5_init_106 rfl (lv_at hl 1 rfl) ?_
              refine me_new (C := RX2) (T := TX2) (N := 5) (ci := 2) (fs := [.int 0, .int 0, .int 0, .int 0, .int 0]) (M2 := sq tb a 8 12 k 0 (25 + k + 1) M) hC hM in_X2 tyX2 tyX2_ok w_44 w_112 w_5 rfl (fun j hj => by rcases (show j = 0 ∨ j = 1 ∨ j = 2 ∨ j = 3 ∨ j = 4 by omega) with rfl | rfl | rfl | rfl | rfl <;> rfl) (by show (24 + k) + 1 ≤ 64; omega) (by show (180 + 5 * k) + 5 ≤ 370; omega) (sq_n_loan (by omega) (by omega)) dX5_init_107 (fun H hM => ?_)
              refine lv_dup hx hb dX5_init_110 rfl ?_
              refine me_callINv (nA := 0) (As := []) (rest := [.ref (a + 25 + k), .int (nI k), .ref (a + 3)]) hC hl.1 hM (c_X2_init l D tb X z0 (a + 25 + k + 1) _ (a + 25 + k)) (hN s hC.2.2.2.2.2.1.2).2.2.1 w_114 w_5 w_115 rfl rfl rfl (by decide +kernel) ⟨Nat.le_of_ble_eq_true rfl, Nat.le_of_ble_eq_true rfl⟩ rfl rfl (Nat.le_of_ble_eq_true rfl) dX5_init_111 ⟨by show ((24 + k) + 1) + 0 ≤ 64; omega, by show ((180 + 5 * k) + 5) + 0 ≤ 370; omega⟩ (fun H locs hM => ?_)
              refine me_aast (k := k) (t0 := 8) (ci := 2) (M2 := sq tb a 8 12 (k + 1) 0 (25 + k + 1) M) hC hM (sq_a3 (by omega)) rfl (sq_e_loan (by omega) (by omega)) rfl rfl (by omega) (by decide) (sq_f3 (by omega) (by omega)) dX5_init_114 (fun H locs hM => ?_)
              refine lv_iinc (v := nI (k + 1)) (lv' := [(1, .int (nI (k + 1))), (0, .ref a)]) hx hb dX5_init_115 hl (k := 1) rfl (nx_add rfl rfl) (by decide) rfl (fun ls hl => ?_)
              refine lv_goto (tgt := 96) hx hb dX5_init_118 (by decide) ?_
              refine W.widen (k := 24 + (k + 1)) (n := 180 + 5 * (k + 1)) (by omega) (by omega) ?_
              exact ih_96 r1 (by omega) (k + 1) _ _ _ (by omega) hM (lv_sub hl [1, 0] rfl)
          refine W.widen (k := 24 + 0) (n := 180 + 5 * 0) (by omega) (by omega) ?_
          exact lp_96 30 0 _ _ _ (by omega) hM (lv_sub hl [1, 0] rfl)
        · have c_2 := (not_congr (br_le (nx_c 12) rfl (by omega) (by omega))).mp c_2
          obtain ⟨r1, rfl⟩ : ∃ r1, r = r1 + 1 := ⟨r - 1, by omega⟩
          refine lv_aload_n hx hb dX5_init_75 rfl (lv_at hl 0 rfl) ?_
          refine fg_X5_19 hC hM (sq_st (by omega)) rfl dX5_init_76 ?_
          refine lv_iload_n hx hb dX5_init_79 rfl (lv_at hl 1 rfl) ?_
          refine me_new (C := RX0) (T := TX0) (N := 6) (ci := 0) (fs := [.int 0, .int 0, .int 0, .int 0, .int 0, .int 0]) (M2 := sq tb a 8 k 0 0 (13 + k + 1) M) hC hM in_X0 tyX0 tyX0_ok w_42 w_79 w_4 rfl (fun j hj => by rcases (show j = 0 ∨ j = 1 ∨ j = 2 ∨ j = 3 ∨ j = 4 ∨ j = 5 by omega) with rfl | rfl | rfl | rfl | rfl | rfl <;> rfl) (by show (12 + k) + 1 ≤ 64; omega) (by show (108 + 6 * k) + 6 ≤ 370; omega) (sq_n_borrower (by omega) (by omega)) dX5_init_80 (fun H hM => ?_)
          refine lv_dup hx hb dX5_init_83 rfl ?_
          refine me_callINv (nA := 0) (As := []) (rest := [.ref (a + 13 + k), .int (nI k), .ref (a + 2)]) hC hl.1 hM (c_X0_init l D tb X z0 (a + 13 + k + 1) _ (a + 13 + k)) (hN s hC.2.2.2.2.2.1.2).2.1 w_81 w_4 w_82 rfl rfl rfl (by decide +kernel) ⟨Nat.le_of_ble_eq_true rfl, Nat.le_of_ble_eq_true rfl⟩ rfl rfl (Nat.le_of_ble_eq_true rfl) dX5_init_84 ⟨by show ((12 + k) + 1) + 0 ≤ 64; omega, by show ((108 + 6 * k) + 6) + 0 ≤ 370; omega⟩ (fun H locs hM => ?_)
          refine me_aast (k := k) (t0 := 7) (ci := 0) (M2 := sq tb a 8 (k + 1) 0 0 (13 + k + 1) M) hC hM (sq_a2 (by omega)) rfl (sq_e_borrower (by omega) (by omega)) rfl rfl (by omega) (by decide) (sq_f2 (by omega) (by omega)) dX5_init_87 (fun H locs hM => ?_)
          refine lv_iinc (v := nI (k + 1)) (lv' := [(1, .int (nI (k + 1))), (0, .ref a)]) hx hb dX5_init_88 hl (k := 1) rfl (nx_add rfl rfl) (by decide) rfl (fun ls hl => ?_)
          refine lv_goto (tgt := 69) hx hb dX5_init_91 (by decide) ?_
          refine W.widen (k := 12 + (k + 1)) (n := 108 + 6 * (k + 1)) (by omega) (by omega) ?_
          exact ih_69 r1 (by omega) (k + 1) _ _ _ (by omega) hM (lv_sub hl [1, 0] rfl)
      refine W.widen (k := 12 + 0) (n := 108 + 6 * 0) (by omega) (by omega) ?_
      exact lp_69 12 0 _ _ _ (by omega) hM (lv_sub hl [1, 0] rfl)
    · have c_1 := (not_congr (br_le (nx_c 8) rfl (by omega) (by omega))).mp c_1
      obtain ⟨r1, rfl⟩ : ∃ r1, r = r1 + 1 := ⟨r - 1, by omega⟩
      refine lv_aload_n hx hb dX5_init_48 rfl (lv_at hl 0 rfl) ?_
      refine fg_X5_11 hC hM (sq_st (by omega)) rfl dX5_init_49 ?_
      refine lv_iload_n hx hb dX5_init_52 rfl (lv_at hl 1 rfl) ?_
      refine me_new (C := RX6) (T := TX6) (N := 6) (ci := 6) (fs := [.int 0, .int 0, .int 0, .int 0, .int 0, .int 0]) (M2 := sq tb a k 0 0 0 (5 + k + 1) M) hC hM in_X6 tyX6 tyX6_ok w_40 w_48 w_3 rfl (fun j hj => by rcases (show j = 0 ∨ j = 1 ∨ j = 2 ∨ j = 3 ∨ j = 4 ∨ j = 5 by omega) with rfl | rfl | rfl | rfl | rfl | rfl <;> rfl) (by show (4 + k) + 1 ≤ 64; omega) (by show (60 + 6 * k) + 6 ≤ 370; omega) (sq_n_street (by omega) (by omega)) dX5_init_53 (fun H hM => ?_)
      refine lv_dup hx hb dX5_init_56 rfl ?_
      refine me_callINv (nA := 0) (As := []) (rest := [.ref (a + 5 + k), .int (nI k), .ref (a + 1)]) hC hl.1 hM (c_X6_init l D tb X z0 (a + 5 + k + 1) _ (a + 5 + k)) (hN s hC.2.2.2.2.2.1.2).1 w_50 w_3 w_51 rfl rfl rfl (by decide +kernel) ⟨Nat.le_of_ble_eq_true rfl, Nat.le_of_ble_eq_true rfl⟩ rfl rfl (Nat.le_of_ble_eq_true rfl) dX5_init_57 ⟨by show ((4 + k) + 1) + 0 ≤ 64; omega, by show ((60 + 6 * k) + 6) + 0 ≤ 370; omega⟩ (fun H locs hM => ?_)
      refine me_aast (k := k) (t0 := 6) (ci := 6) (M2 := sq tb a (k + 1) 0 0 0 (5 + k + 1) M) hC hM (sq_a1 (by omega)) rfl (sq_e_street (by omega) (by omega)) rfl rfl (by omega) (by decide) (sq_f1 (by omega) (by omega)) dX5_init_60 (fun H locs hM => ?_)
      refine lv_iinc (v := nI (k + 1)) (lv' := [(1, .int (nI (k + 1))), (0, .ref a)]) hx hb dX5_init_61 hl (k := 1) rfl (nx_add rfl rfl) (by decide) rfl (fun ls hl => ?_)
      refine lv_goto (tgt := 42) hx hb dX5_init_64 (by decide) ?_
      refine W.widen (k := 4 + (k + 1)) (n := 60 + 6 * (k + 1)) (by omega) (by omega) ?_
      exact ih_42 r1 (by omega) (k + 1) _ _ _ (by omega) hM (lv_sub hl [1, 0] rfl)
  have hM := hM.eq sq_start
  refine W.widen (k := 4 + 0) (n := 60 + 6 * 0) (by omega) (by omega) ?_
  exact lp_42 8 0 _ _ _ (by omega) hM (lv_sub hl [1, 0] rfl)
