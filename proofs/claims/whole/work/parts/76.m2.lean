set_option maxHeartbeats 4000000 in
theorem c_X8_displacedMany (l : Launch) (D : va_G) (tb : Nat → ClassId) (X : State → Prop) (z0 n : Nat) (mo : Nat) (F w av od sv sl nz ip ot : Nat → Int32) (M0 : me_M) (L : Nat) (f h : Int32)  (hL : w 6 = nI L) (hL0 : L ≤ 30) (hZ : wz w) : Met l yX8_displacedMany (.code yX8_displacedMany cX8_displacedMany 5 (some .int) :: ws_all) ({ frames := 3, cells := 0, slots := 0, locals := 64 } : Room) (me_Pc [.ref mo, .int f, .int h] D tb X z0 (mq tb mo F w av od sv sl nz ip ot M0) n) (me_Qi D z0 (nI (loF w L f h)) (mq tb mo F w av od sv sl nz ip ot M0) n) 0 0 (me_A z0) := by
  refine me_open (by decide) (Nat.le_of_ble_eq_true rfl) ?_
  intro p e s m args below meth c ls hC hr hlk hnm hM hl
  have hl : lv_has ls 5 [(0, .ref mo), (1, .int f), (2, .int h)] := hl
  have hx := hC.1
  have hb := hC.2.1
  have hw := hC.2.2.2.2.1
  refine lv_iconst (v := 0) hx hb dX8_displacedMany_0 (by decide) ?_
  refine lv_istore_n (lv' := [(3, .int 0), (0, .ref mo), (1, .int f), (2, .int h)]) hx hb dX8_displacedMany_1 rfl hl (by decide) rfl (fun ls hl => ?_)
  refine lv_iconst (v := 0) hx hb dX8_displacedMany_2 (by decide) ?_
  refine lv_istore (lv' := [(4, .int 0), (3, .int 0), (0, .ref mo), (1, .int f), (2, .int h)]) hx hb dX8_displacedMany_3 hl (by decide) rfl (fun ls hl => ?_)
  have lp_5 : ∀ (r : Nat) (k : Nat) (ct : Nat) (H : Heap) (locs : List Loc) (ls : Array Slot), (k + r = L) → (loF w L f h = ct + co (fun k => hdK w k f h) r k) → me_at D z0 (mq tb mo F w av od sv sl nz ip ot M0) n s H locs → lv_has ls 5 [(0, .ref mo), (1, .int f), (2, .int h), (3, .int (nI ct)), (4, .int (nI k))] → W p l e (({ frames := 3, cells := 0, slots := 0, locals := 64 } : Room)) s m args below meth c H locs 0 0 (MQ below (me_Qi D z0 (nI (loF w L f h)) (mq tb mo F w av od sv sl nz ip ot M0) n) args s 0 0 (me_A z0)) (F0 m 5 ls []) := by
    intro r
    refine Nat.strongRecOn r ?_
    intro r ih_5 k ct H locs ls hk hq hM hl
    refine lv_iload hx hb dX8_displacedMany_5 (lv_at hl 4 rfl) ?_
    refine lv_aload_n hx hb dX8_displacedMany_7 rfl (lv_at hl 0 rfl) ?_
    refine fg_X8_13 hC hM mq_F rfl dX8_displacedMany_8 ?_
    refine lv_bipush (v := 6) hx hb dX8_displacedMany_11 (by decide) ?_
    refine me_iald (k := 6) hC hM mq_w (nx_c 6) (by omega) (by decide) dX8_displacedMany_13 ?_
    refine lv_icmp_ge (tgt := 42) hx hb dX8_displacedMany_14 (by decide) (fun c_1 => ?_) (fun c_1 => ?_)
    · have c_1 := (br_le hL rfl (by omega) (by omega)).mp c_1
      refine lv_iload_n hx hb dX8_displacedMany_42 rfl (lv_at hl 3 rfl) ?_
      exact me_iret hC hr hlk hM (by rw [hq, show r = 0 by omega]; rfl) (rfl) (rfl) dX8_displacedMany_43
    · have c_1 := (not_congr (br_le hL rfl (by omega) (by omega))).mp c_1
      obtain ⟨r1, rfl⟩ : ∃ r1, r = r1 + 1 := ⟨r - 1, by omega⟩
      refine lv_iload_n hx hb dX8_displacedMany_17 rfl (lv_at hl 3 rfl) ?_
      refine lv_aload_n hx hb dX8_displacedMany_18 rfl (lv_at hl 0 rfl) ?_
      refine lv_iload hx hb dX8_displacedMany_19 (lv_at hl 4 rfl) ?_
      refine lv_iload_n hx hb dX8_displacedMany_21 rfl (lv_at hl 1 rfl) ?_
      refine lv_iload_n hx hb dX8_displacedMany_22 rfl (lv_at hl 2 rfl) ?_
      refine me_callVi (As := [.int (nI k), .int f, .int h]) (rest := [.int (nI ct)]) hC hl.1 hM (c_X8_meets l D tb X z0 n mo F w av od sv sl nz ip ot M0 k f h (by omega) hZ) (kv_X8_138 hw rfl rfl ⟨Nat.le_of_ble_eq_true rfl, Nat.le_of_ble_eq_true rfl⟩) rfl rfl mq_F rfl (Nat.le_of_ble_eq_true rfl) dX8_displacedMany_23 ⟨Nat.le_of_ble_eq_true rfl, Nat.le_of_ble_eq_true rfl⟩ (fun H locs hM => ?_)
      refine lv_if_eq (tgt := 33) hx hb dX8_displacedMany_26 (by decide) (fun c_2 => ?_) (fun c_2 => ?_)
      · have c_2 := b1_0.mp c_2
        refine lv_iconst (v := 0) hx hb dX8_displacedMany_33 (by decide) ?_
        refine lv_iadd hx hb dX8_displacedMany_34 ?_
        refine me_evi (y := nI ct) (nx_z rfl) ?_
        refine lv_istore_n (lv' := [(3, .int (nI ct)), (0, .ref mo), (1, .int f), (2, .int h), (4, .int (nI k))]) hx hb dX8_displacedMany_35 rfl hl (by decide) rfl (fun ls hl => ?_)
        refine lv_iinc (v := nI (k + 1)) (lv' := [(4, .int (nI (k + 1))), (3, .int (nI ct)), (0, .ref mo), (1, .int f), (2, .int h)]) hx hb dX8_displacedMany_36 hl (k := 4) rfl (nx_add rfl rfl) (by decide) rfl (fun ls hl => ?_)
        refine lv_goto (tgt := 5) hx hb dX8_displacedMany_39 (by decide) ?_
        exact ih_5 r1 (by omega) (k + 1) ct _ _ _ (by omega) (by rw [hq, co_f (P := fun k => hdK w k f h) (k := k) (c_2)]) hM (lv_sub hl [2, 3, 4, 1, 0] rfl)
      · have c_2 := b1_n0.mp c_2
        refine lv_iconst (v := 1) hx hb dX8_displacedMany_29 (by decide) ?_
        refine lv_goto (tgt := 34) hx hb dX8_displacedMany_30 (by decide) ?_
        refine lv_iadd hx hb dX8_displacedMany_34 ?_
        refine me_evi (y := nI (ct + 1)) (nx_add rfl (show (1 : Int32) = nI 1 from rfl)) ?_
        refine lv_istore_n (lv' := [(3, .int (nI (ct + 1))), (0, .ref mo), (1, .int f), (2, .int h), (4, .int (nI k))]) hx hb dX8_displacedMany_35 rfl hl (by decide) rfl (fun ls hl => ?_)
        refine lv_iinc (v := nI (k + 1)) (lv' := [(4, .int (nI (k + 1))), (3, .int (nI (ct + 1))), (0, .ref mo), (1, .int f), (2, .int h)]) hx hb dX8_displacedMany_36 hl (k := 4) rfl (nx_add rfl rfl) (by decide) rfl (fun ls hl => ?_)
        refine lv_goto (tgt := 5) hx hb dX8_displacedMany_39 (by decide) ?_
        exact ih_5 r1 (by omega) (k + 1) (ct + 1) _ _ _ (by omega) (by rw [hq, co_t (P := fun k => hdK w k f h) (k := k) (c_2)]; omega) hM (lv_sub hl [2, 3, 4, 1, 0] rfl)
  exact lp_5 L 0 0 _ _ _ (by omega) ((Nat.zero_add _).symm) hM (lv_sub hl [2, 3, 4, 1, 0] rfl)
set_option maxHeartbeats 4000000 in
theorem c_X8_freeMany (l : Launch) (D : va_G) (tb : Nat → ClassId) (X : State → Prop) (z0 n : Nat) (mo : Nat) (F w av od sv sl nz ip ot : Nat → Int32) (M0 : me_M) (L T : Nat)  (hL : w 6 = nI L) (hL0 : L ≤ 30) (hZ : wz w) (hT : w 2 = nI T) (hT0 : T ≤ 10200) : Met l yX8_freeMany (.code yX8_freeMany cX8_freeMany 3 (some .int) :: ws_all) ({ frames := 4, cells := 0, slots := 0, locals := 85 } : Room) (me_Pc [.ref mo] D tb X z0 (mq tb mo F w av od sv sl nz ip ot M0) n) (me_Qi D z0 (nI (frM w L T)) (mq tb mo F w av od sv sl nz ip ot M0) n) 0 0 (me_A z0) := by
  refine me_open (by decide) (Nat.le_of_ble_eq_true rfl) ?_
  intro p e s m args below meth c ls hC hr hlk hnm hM hl
  have hl : lv_has ls 3 [(0, .ref mo)] := hl
  have hx := hC.1
  have hb := hC.2.1
  have hw := hC.2.2.2.2.1
  refine lv_iconst (v := 0) hx hb dX8_freeMany_0 (by decide) ?_
  refine lv_istore_n (lv' := [(1, .int 0), (0, .ref mo)]) hx hb dX8_freeMany_1 rfl hl (by decide) rfl (fun ls hl => ?_)
  refine lv_iconst (v := 0) hx hb dX8_freeMany_2 (by decide) ?_
  refine lv_istore_n (lv' := [(2, .int 0), (1, .int 0), (0, .ref mo)]) hx hb dX8_freeMany_3 rfl hl (by decide) rfl (fun ls hl => ?_)
  have lp_4 : ∀ (r : Nat) (k : Nat) (ct : Nat) (H : Heap) (locs : List Loc) (ls : Array Slot), (k + r = 48) → (frM w L T = ct + co (fun i => hoF w L (nI (T + i)) = -1) r k) → me_at D z0 (mq tb mo F w av od sv sl nz ip ot M0) n s H locs → lv_has ls 3 [(0, .ref mo), (1, .int (nI ct)), (2, .int (nI k))] → W p l e (({ frames := 4, cells := 0, slots := 0, locals := 85 } : Room)) s m args below meth c H locs 0 0 (MQ below (me_Qi D z0 (nI (frM w L T)) (mq tb mo F w av od sv sl nz ip ot M0) n) args s 0 0 (me_A z0)) (F0 m 4 ls []) := by
    intro r
    refine Nat.strongRecOn r ?_
    intro r ih_4 k ct H locs ls hk hq hM hl
    refine lv_iload_n hx hb dX8_freeMany_4 rfl (lv_at hl 2 rfl) ?_
    refine lv_bipush (v := 48) hx hb dX8_freeMany_5 (by decide) ?_
    refine lv_icmp_ge (tgt := 40) hx hb dX8_freeMany_7 (by decide) (fun c_1 => ?_) (fun c_1 => ?_)
    · have c_1 := (br_le (nx_c 48) rfl (by omega) (by omega)).mp c_1
      refine lv_iload_n hx hb dX8_freeMany_40 rfl (lv_at hl 1 rfl) ?_
      exact me_iret hC hr hlk hM (by rw [hq, show r = 0 by omega]; rfl) (rfl) (rfl) dX8_freeMany_41
    · have c_1 := (not_congr (br_le (nx_c 48) rfl (by omega) (by omega))).mp c_1
      obtain ⟨r1, rfl⟩ : ∃ r1, r = r1 + 1 := ⟨r - 1, by omega⟩
      refine lv_iload_n hx hb dX8_freeMany_10 rfl (lv_at hl 1 rfl) ?_
      refine lv_aload_n hx hb dX8_freeMany_11 rfl (lv_at hl 0 rfl) ?_
      refine lv_aload_n hx hb dX8_freeMany_12 rfl (lv_at hl 0 rfl) ?_
      refine fg_X8_13 hC hM mq_F rfl dX8_freeMany_13 ?_
      refine lv_iconst (v := 2) hx hb dX8_freeMany_16 (by decide) ?_
      refine me_iald (k := 2) hC hM mq_w (nx_c 2) (by omega) (by decide) dX8_freeMany_17 ?_
      refine lv_iload_n hx hb dX8_freeMany_18 rfl (lv_at hl 2 rfl) ?_
      refine lv_iadd hx hb dX8_freeMany_19 ?_
      refine me_stk (st2 := [.int (nI (T + k)), .ref mo, .int (nI ct)]) (by rw [(nx_add hT rfl)]) ?_
      refine me_callVi (As := [.int (nI (T + k))]) (rest := [.int (nI ct)]) hC hl.1 hM (c_X8_holderAt l D tb X z0 n mo F w av od sv sl nz ip ot M0 L (T + k) hL hL0 (by omega) hZ) (kv_X8_109 hw rfl rfl ⟨Nat.le_of_ble_eq_true rfl, Nat.le_of_ble_eq_true rfl⟩) rfl rfl mq_F rfl (Nat.le_of_ble_eq_true rfl) dX8_freeMany_20 ⟨Nat.le_of_ble_eq_true rfl, Nat.le_of_ble_eq_true rfl⟩ (fun H locs hM => ?_)
      refine lv_iconst (v := (-1)) hx hb dX8_freeMany_23 (by decide) ?_
      refine lv_icmp_ne (tgt := 31) hx hb dX8_freeMany_24 (by decide) (fun c_2 => ?_) (fun c_2 => ?_)
      · refine lv_iconst (v := 0) hx hb dX8_freeMany_31 (by decide) ?_
        refine lv_iadd hx hb dX8_freeMany_32 ?_
        refine me_evi (y := nI ct) (nx_z rfl) ?_
        refine lv_istore_n (lv' := [(1, .int (nI ct)), (0, .ref mo), (2, .int (nI k))]) hx hb dX8_freeMany_33 rfl hl (by decide) rfl (fun ls hl => ?_)
        refine lv_iinc (v := nI (k + 1)) (lv' := [(2, .int (nI (k + 1))), (1, .int (nI ct)), (0, .ref mo)]) hx hb dX8_freeMany_34 hl (k := 2) rfl (nx_add rfl rfl) (by decide) rfl (fun ls hl => ?_)
        refine lv_goto (tgt := 4) hx hb dX8_freeMany_37 (by decide) ?_
        exact ih_4 r1 (by omega) (k + 1) ct _ _ _ (by omega) (by rw [hq, co_f (P := fun i => hoF w L (nI (T + i)) = -1) (k := k) (c_2)]) hM (lv_sub hl [2, 1, 0] rfl)
      · refine lv_iconst (v := 1) hx hb dX8_freeMany_27 (by decide) ?_
        refine lv_goto (tgt := 32) hx hb dX8_freeMany_28 (by decide) ?_
        refine lv_iadd hx hb dX8_freeMany_32 ?_
        refine me_evi (y := nI (ct + 1)) (nx_add rfl (show (1 : Int32) = nI 1 from rfl)) ?_
        refine lv_istore_n (lv' := [(1, .int (nI (ct + 1))), (0, .ref mo), (2, .int (nI k))]) hx hb dX8_freeMany_33 rfl hl (by decide) rfl (fun ls hl => ?_)
        refine lv_iinc (v := nI (k + 1)) (lv' := [(2, .int (nI (k + 1))), (1, .int (nI (ct + 1))), (0, .ref mo)]) hx hb dX8_freeMany_34 hl (k := 2) rfl (nx_add rfl rfl) (by decide) rfl (fun ls hl => ?_)
        refine lv_goto (tgt := 4) hx hb dX8_freeMany_37 (by decide) ?_
        exact ih_4 r1 (by omega) (k + 1) (ct + 1) _ _ _ (by omega) (by rw [hq, co_t (P := fun i => hoF w L (nI (T + i)) = -1) (k := k) (c_2)]; omega) hM (lv_sub hl [2, 1, 0] rfl)
  exact lp_4 48 0 0 _ _ _ (by omega) ((Nat.zero_add _).symm) hM (lv_sub hl [2, 1, 0] rfl)
set_option maxHeartbeats 4000000 in
theorem c_X8_twiceHeld (l : Launch) (D : va_G) (tb : Nat → ClassId) (X : State → Prop) (z0 n : Nat) (mo : Nat) (F w av od sv sl nz ip ot : Nat → Int32) (M0 : me_M) (L T : Nat)  (hL : w 6 = nI L) (hL0 : L ≤ 30) (hZ : wz w) (hT : w 2 = nI T) (hT0 : T ≤ 10200) : Met l yX8_twiceHeld (.code yX8_twiceHeld cX8_twiceHeld 5 (some .int) :: ws_all) ({ frames := 3, cells := 0, slots := 0, locals := 63 } : Room) (me_Pc [.ref mo] D tb X z0 (mq tb mo F w av od sv sl nz ip ot M0) n) (me_Qi D z0 (nI (twM w L T)) (mq tb mo F w av od sv sl nz ip ot M0) n) 0 0 (me_A z0) := by
  refine me_open (by decide) (Nat.le_of_ble_eq_true rfl) ?_
  intro p e s m args below meth c ls hC hr hlk hnm hM hl
  have hl : lv_has ls 5 [(0, .ref mo)] := hl
  have hx := hC.1
  have hb := hC.2.1
  have hw := hC.2.2.2.2.1
  refine lv_iconst (v := 0) hx hb dX8_twiceHeld_0 (by decide) ?_
  refine lv_istore_n (lv' := [(1, .int 0), (0, .ref mo)]) hx hb dX8_twiceHeld_1 rfl hl (by decide) rfl (fun ls hl => ?_)
  refine lv_iconst (v := 0) hx hb dX8_twiceHeld_2 (by decide) ?_
  refine lv_istore_n (lv' := [(2, .int 0), (1, .int 0), (0, .ref mo)]) hx hb dX8_twiceHeld_3 rfl hl (by decide) rfl (fun ls hl => ?_)
  have lp_4 : ∀ (r : Nat) (k : Nat) (ct : Nat) (H : Heap) (locs : List Loc) (ls : Array Slot), (k + r = 48) → (twM w L T = ct + co (fun i => (1 : Int32) < nI (loF w L (nI (T + i)) 1)) r k) → me_at D z0 (mq tb mo F w av od sv sl nz ip ot M0) n s H locs → lv_has ls 5 [(0, .ref mo), (1, .int (nI ct)), (2, .int (nI k))] → W p l e (({ frames := 3, cells := 0, slots := 0, locals := 63 } : Room)) s m args below meth c H locs 0 0 (MQ below (me_Qi D z0 (nI (twM w L T)) (mq tb mo F w av od sv sl nz ip ot M0) n) args s 0 0 (me_A z0)) (F0 m 4 ls []) := by
    intro r
    refine Nat.strongRecOn r ?_
    intro r ih_4 k ct H locs ls hk hq hM hl
    refine lv_iload_n hx hb dX8_twiceHeld_4 rfl (lv_at hl 2 rfl) ?_
    refine lv_bipush (v := 48) hx hb dX8_twiceHeld_5 (by decide) ?_
    refine lv_icmp_ge (tgt := 77) hx hb dX8_twiceHeld_7 (by decide) (fun c_1 => ?_) (fun c_1 => ?_)
    · have c_1 := (br_le (nx_c 48) rfl (by omega) (by omega)).mp c_1
      refine lv_iload_n hx hb dX8_twiceHeld_77 rfl (lv_at hl 1 rfl) ?_
      exact me_iret hC hr hlk hM (by rw [hq, show r = 0 by omega]; rfl) (rfl) (rfl) dX8_twiceHeld_78
    · have c_1 := (not_congr (br_le (nx_c 48) rfl (by omega) (by omega))).mp c_1
      obtain ⟨r1, rfl⟩ : ∃ r1, r = r1 + 1 := ⟨r - 1, by omega⟩
      refine lv_iconst (v := 0) hx hb dX8_twiceHeld_10 (by decide) ?_
      refine lv_istore_n (lv' := [(3, .int 0), (0, .ref mo), (1, .int (nI ct)), (2, .int (nI k))]) hx hb dX8_twiceHeld_11 rfl hl (by decide) rfl (fun ls hl => ?_)
      refine lv_iconst (v := 0) hx hb dX8_twiceHeld_12 (by decide) ?_
      refine lv_istore (lv' := [(4, .int 0), (3, .int 0), (0, .ref mo), (1, .int (nI ct)), (2, .int (nI k))]) hx hb dX8_twiceHeld_13 hl (by decide) rfl (fun ls hl => ?_)
      have lp_15 : ∀ (r2 : Nat) (k2 : Nat) (c2 : Nat) (H : Heap) (locs : List Loc) (ls : Array Slot), (k2 + r2 = L) → (loF w L (nI (T + k)) 1 = c2 + co (fun k2 => hdK w k2 (nI (T + k)) 1) r2 k2) → me_at D z0 (mq tb mo F w av od sv sl nz ip ot M0) n s H locs → lv_has ls 5 [(0, .ref mo), (1, .int (nI ct)), (2, .int (nI k)), (3, .int (nI c2)), (4, .int (nI k2))] → W p l e (({ frames := 3, cells := 0, slots := 0, locals := 63 } : Room)) s m args below meth c H locs 0 0 (MQ below (me_Qi D z0 (nI (twM w L T)) (mq tb mo F w av od sv sl nz ip ot M0) n) args s 0 0 (me_A z0)) (F0 m 15 ls []) := by
        intro r2
        refine Nat.strongRecOn r2 ?_
        intro r2 ih_15 k2 c2 H locs ls hk2 hq2 hM hl
        refine lv_iload hx hb dX8_twiceHeld_15 (lv_at hl 4 rfl) ?_
        refine lv_aload_n hx hb dX8_twiceHeld_17 rfl (lv_at hl 0 rfl) ?_
        refine fg_X8_13 hC hM mq_F rfl dX8_twiceHeld_18 ?_
        refine lv_bipush (v := 6) hx hb dX8_twiceHeld_21 (by decide) ?_
        refine me_iald (k := 6) hC hM mq_w (nx_c 6) (by omega) (by decide) dX8_twiceHeld_23 ?_
        refine lv_icmp_ge (tgt := 58) hx hb dX8_twiceHeld_24 (by decide) (fun c_2 => ?_) (fun c_2 => ?_)
        · have c_2 := (br_le hL rfl (by omega) (by omega)).mp c_2
          obtain rfl : r2 = 0 := by omega
          have hq3 : loF w L (nI (T + k)) 1 = c2 := hq2
          refine lv_iload_n hx hb dX8_twiceHeld_58 rfl (lv_at hl 1 rfl) ?_
          refine lv_iload_n hx hb dX8_twiceHeld_59 rfl (lv_at hl 3 rfl) ?_
          refine lv_iconst (v := 1) hx hb dX8_twiceHeld_60 (by decide) ?_
          refine me_stk (st2 := [.int 1, .int (nI (loF w L (nI (T + k)) 1)), .int (nI ct)]) (by rw [hq3]) ?_
          refine lv_icmp_le (tgt := 68) hx hb dX8_twiceHeld_61 (by decide) (fun c_3 => ?_) (fun c_3 => ?_)
          · have c_3q := c_3
            have c_3 := Int32.not_lt.mpr c_3
            refine lv_iconst (v := 0) hx hb dX8_twiceHeld_68 (by decide) ?_
            refine lv_iadd hx hb dX8_twiceHeld_69 ?_
            refine me_evi (y := nI ct) (nx_z rfl) ?_
            refine lv_istore_n (lv' := [(1, .int (nI ct)), (0, .ref mo), (2, .int (nI k)), (3, .int (nI c2)), (4, .int (nI k2))]) hx hb dX8_twiceHeld_70 rfl hl (by decide) rfl (fun ls hl => ?_)
            refine lv_iinc (v := nI (k + 1)) (lv' := [(2, .int (nI (k + 1))), (1, .int (nI ct)), (0, .ref mo), (3, .int (nI c2)), (4, .int (nI k2))]) hx hb dX8_twiceHeld_71 hl (k := 2) rfl (nx_add rfl rfl) (by decide) rfl (fun ls hl => ?_)
            refine lv_goto (tgt := 4) hx hb dX8_twiceHeld_74 (by decide) ?_
            exact ih_4 r1 (by omega) (k + 1) ct _ _ _ (by omega) (by rw [hq, co_f (P := fun i => (1 : Int32) < nI (loF w L (nI (T + i)) 1)) (k := k) (c_3)]) hM (lv_sub hl [2, 1, 0] rfl)
          · have c_3q := c_3
            have c_3 := Int32.not_le.mp c_3
            refine lv_iconst (v := 1) hx hb dX8_twiceHeld_64 (by decide) ?_
            refine lv_goto (tgt := 69) hx hb dX8_twiceHeld_65 (by decide) ?_
            refine lv_iadd hx hb dX8_twiceHeld_69 ?_
            refine me_evi (y := nI (ct + 1)) (nx_add rfl (show (1 : Int32) = nI 1 from rfl)) ?_
            refine lv_istore_n (lv' := [(1, .int (nI (ct + 1))), (0, .ref mo), (2, .int (nI k)), (3, .int (nI c2)), (4, .int (nI k2))]) hx hb dX8_twiceHeld_70 rfl hl (by decide) rfl (fun ls hl => ?_)
            refine lv_iinc (v := nI (k + 1)) (lv' := [(2, .int (nI (k + 1))), (1, .int (nI (ct + 1))), (0, .ref mo), (3, .int (nI c2)), (4, .int (nI k2))]) hx hb dX8_twiceHeld_71 hl (k := 2) rfl (nx_add rfl rfl) (by decide) rfl (fun ls hl => ?_)
            refine lv_goto (tgt := 4) hx hb dX8_twiceHeld_74 (by decide) ?_
            exact ih_4 r1 (by omega) (k + 1) (ct + 1) _ _ _ (by omega) (by rw [hq, co_t (P := fun i => (1 : Int32) < nI (loF w L (nI (T + i)) 1)) (k := k) (c_3)]; omega) hM (lv_sub hl [2, 1, 0] rfl)
        · have c_2 := (not_congr (br_le hL rfl (by omega) (by omega))).mp c_2
          obtain ⟨r3, rfl⟩ : ∃ r3, r2 = r3 + 1 := ⟨r2 - 1, by omega⟩
          refine lv_iload_n hx hb dX8_twiceHeld_27 rfl (lv_at hl 3 rfl) ?_
          refine lv_aload_n hx hb dX8_twiceHeld_28 rfl (lv_at hl 0 rfl) ?_
          refine lv_iload hx hb dX8_twiceHeld_29 (lv_at hl 4 rfl) ?_
          refine lv_aload_n hx hb dX8_twiceHeld_31 rfl (lv_at hl 0 rfl) ?_
          refine fg_X8_13 hC hM mq_F rfl dX8_twiceHeld_32 ?_
          refine lv_iconst (v := 2) hx hb dX8_twiceHeld_35 (by decide) ?_
          refine me_iald (k := 2) hC hM mq_w (nx_c 2) (by omega) (by decide) dX8_twiceHeld_36 ?_
          refine lv_iload_n hx hb dX8_twiceHeld_37 rfl (lv_at hl 2 rfl) ?_
          refine lv_iadd hx hb dX8_twiceHeld_38 ?_
          refine me_stk (st2 := [.int (nI (T + k)), .int (nI k2), .ref mo, .int (nI c2)]) (by rw [(nx_add hT rfl)]) ?_
          refine me_callVi (As := [.int (nI k2), .int (nI (T + k))]) (rest := [.int (nI c2)]) hC hl.1 hM (c_X8_holds l D tb X z0 n mo F w av od sv sl nz ip ot M0 k2 (T + k) (by omega) (by omega) hZ) (kv_X8_102 hw rfl rfl ⟨Nat.le_of_ble_eq_true rfl, Nat.le_of_ble_eq_true rfl⟩) rfl rfl mq_F rfl (Nat.le_of_ble_eq_true rfl) dX8_twiceHeld_39 ⟨Nat.le_of_ble_eq_true rfl, Nat.le_of_ble_eq_true rfl⟩ (fun H locs hM => ?_)
          refine lv_if_eq (tgt := 49) hx hb dX8_twiceHeld_42 (by decide) (fun c_4 => ?_) (fun c_4 => ?_)
          · have c_4 := b1_0.mp c_4
            refine lv_iconst (v := 0) hx hb dX8_twiceHeld_49 (by decide) ?_
            refine lv_iadd hx hb dX8_twiceHeld_50 ?_
            refine me_evi (y := nI c2) (nx_z rfl) ?_
            refine lv_istore_n (lv' := [(3, .int (nI c2)), (0, .ref mo), (1, .int (nI ct)), (2, .int (nI k)), (4, .int (nI k2))]) hx hb dX8_twiceHeld_51 rfl hl (by decide) rfl (fun ls hl => ?_)
            refine lv_iinc (v := nI (k2 + 1)) (lv' := [(4, .int (nI (k2 + 1))), (3, .int (nI c2)), (0, .ref mo), (1, .int (nI ct)), (2, .int (nI k))]) hx hb dX8_twiceHeld_52 hl (k := 4) rfl (nx_add rfl rfl) (by decide) rfl (fun ls hl => ?_)
            refine lv_goto (tgt := 15) hx hb dX8_twiceHeld_55 (by decide) ?_
            exact ih_15 r3 (by omega) (k2 + 1) c2 _ _ _ (by omega) (by rw [hq2, co_f (P := fun k2 => hdK w k2 (nI (T + k)) 1) (k := k2) (c_4)]) hM (lv_sub hl [2, 3, 4, 1, 0] rfl)
          · have c_4 := b1_n0.mp c_4
            refine lv_iconst (v := 1) hx hb dX8_twiceHeld_45 (by decide) ?_
            refine lv_goto (tgt := 50) hx hb dX8_twiceHeld_46 (by decide) ?_
            refine lv_iadd hx hb dX8_twiceHeld_50 ?_
            refine me_evi (y := nI (c2 + 1)) (nx_add rfl (show (1 : Int32) = nI 1 from rfl)) ?_
            refine lv_istore_n (lv' := [(3, .int (nI (c2 + 1))), (0, .ref mo), (1, .int (nI ct)), (2, .int (nI k)), (4, .int (nI k2))]) hx hb dX8_twiceHeld_51 rfl hl (by decide) rfl (fun ls hl => ?_)
            refine lv_iinc (v := nI (k2 + 1)) (lv' := [(4, .int (nI (k2 + 1))), (3, .int (nI (c2 + 1))), (0, .ref mo), (1, .int (nI ct)), (2, .int (nI k))]) hx hb dX8_twiceHeld_52 hl (k := 4) rfl (nx_add rfl rfl) (by decide) rfl (fun ls hl => ?_)
            refine lv_goto (tgt := 15) hx hb dX8_twiceHeld_55 (by decide) ?_
            exact ih_15 r3 (by omega) (k2 + 1) (c2 + 1) _ _ _ (by omega) (by rw [hq2, co_t (P := fun k2 => hdK w k2 (nI (T + k)) 1) (k := k2) (c_4)]; omega) hM (lv_sub hl [2, 3, 4, 1, 0] rfl)
      exact lp_15 L 0 0 _ _ _ (by omega) ((Nat.zero_add _).symm) hM (lv_sub hl [2, 3, 4, 1, 0] rfl)
  exact lp_4 48 0 0 _ _ _ (by omega) ((Nat.zero_add _).symm) hM (lv_sub hl [2, 1, 0] rfl)
set_option maxHeartbeats 4000000 in
theorem c_X8_earliest (l : Launch) (D : va_G) (tb : Nat → ClassId) (X : State → Prop) (z0 n : Nat) (mo : Nat) (F w av od sv sl nz ip ot : Nat → Int32) (M0 : me_M) (S B L P : Nat) (T b n9 : Nat) (most : Int32)  (hO : ok1 S B L P T w) (hT0 : T ≤ 10200) (hb9 : b < B) (hn9 : n9 ≤ 6) : Met l yX8_earliest (.code yX8_earliest cX8_earliest 6 (some .int) :: ws_all) ({ frames := 6, cells := 0, slots := 0, locals := 133 } : Room) (me_Pc [.ref mo, .int (nI b), .int (nI n9), .int most] D tb X z0 (mq tb mo F w av od sv sl nz ip ot M0) n) (me_Qi D z0 (eaF w L P b n9 T most) (mq tb mo F w av od sv sl nz ip ot M0) n) 0 0 (me_A z0) := by
  refine me_open (by decide) (Nat.le_of_ble_eq_true rfl) ?_
  intro p e s m args below meth c ls hC hr hlk hnm hM hl
  have hl : lv_has ls 6 [(0, .ref mo), (1, .int (nI b)), (2, .int (nI n9)), (3, .int most)] := hl
  have hx := hC.1
  have hb := hC.2.1
  have hw := hC.2.2.2.2.1
  obtain ⟨hW, hZ, hT⟩ := id hO
  obtain ⟨hS, hS0, hB, hB0, hL, hL0, hP, hP0, hwb, hwl⟩ := id hW
  refine lv_iconst (v := 0) hx hb dX8_earliest_0 (by decide) ?_
  refine lv_istore (lv' := [(4, .int 0), (0, .ref mo), (1, .int (nI b)), (2, .int (nI n9)), (3, .int most)]) hx hb dX8_earliest_1 hl (by decide) rfl (fun ls hl => ?_)
  have lp_3 : ∀ (r : Nat) (j : Nat) (H : Heap) (locs : List Loc) (ls : Array Slot), (j + r = 49 - n9) → (eaF w L P b n9 T most = fv (fun j => if nI (loF w L (nI (T + j)) (nI n9)) ≤ most ∧ reF w L P b (T + j) n9 = 0 then nI (T + j) else -1) r j) → me_at D z0 (mq tb mo F w av od sv sl nz ip ot M0) n s H locs → lv_has ls 6 [(0, .ref mo), (1, .int (nI b)), (2, .int (nI n9)), (3, .int most), (4, .int (nI j))] → W p l e (({ frames := 6, cells := 0, slots := 0, locals := 133 } : Room)) s m args below meth c H locs 0 0 (MQ below (me_Qi D z0 (eaF w L P b n9 T most) (mq tb mo F w av od sv sl nz ip ot M0) n) args s 0 0 (me_A z0)) (F0 m 3 ls []) := by
    intro r
    refine Nat.strongRecOn r ?_
    intro r ih_3 j H locs ls hk hq hM hl
    refine lv_iload hx hb dX8_earliest_3 (lv_at hl 4 rfl) ?_
    refine lv_iload_n hx hb dX8_earliest_5 rfl (lv_at hl 2 rfl) ?_
    refine lv_iadd hx hb dX8_earliest_6 ?_
    refine lv_bipush (v := 48) hx hb dX8_earliest_7 (by decide) ?_
    refine lv_icmp_gt (tgt := 54) hx hb dX8_earliest_9 (by decide) (fun c_1 => ?_) (fun c_1 => ?_)
    · have c_1 := (br_lt (nx_c 48) (nx_add rfl rfl) (by omega) (by omega)).mp c_1
      refine lv_iconst (v := (-1)) hx hb dX8_earliest_54 (by decide) ?_
      exact me_iret hC hr hlk hM (by rw [hq, show r = 0 by omega]; rfl) (rfl) (rfl) dX8_earliest_55
    · have c_1 := (not_congr (br_lt (nx_c 48) (nx_add rfl rfl) (by omega) (by omega))).mp c_1
      obtain ⟨r1, rfl⟩ : ∃ r1, r = r1 + 1 := ⟨r - 1, by omega⟩
      refine lv_aload_n hx hb dX8_earliest_12 rfl (lv_at hl 0 rfl) ?_
      refine fg_X8_13 hC hM mq_F rfl dX8_earliest_13 ?_
      refine lv_iconst (v := 2) hx hb dX8_earliest_16 (by decide) ?_
      refine me_iald (k := 2) hC hM mq_w (nx_c 2) (by omega) (by decide) dX8_earliest_17 ?_
      refine lv_iload hx hb dX8_earliest_18 (lv_at hl 4 rfl) ?_
      refine lv_iadd hx hb dX8_earliest_20 ?_
      refine me_evi (y := nI (T + j)) (nx_add hT rfl) ?_
      refine lv_istore (lv' := [(5, .int (nI (T + j))), (0, .ref mo), (1, .int (nI b)), (2, .int (nI n9)), (3, .int most), (4, .int (nI j))]) hx hb dX8_earliest_21 hl (by decide) rfl (fun ls hl => ?_)
      refine lv_aload_n hx hb dX8_earliest_23 rfl (lv_at hl 1 rfl) ?_
      refine lv_iload_n hx hb dX8_earliest_24 rfl (lv_at hl 2 rfl) ?_
      refine lv_iload hx hb dX8_earliest_25 (lv_at hl 0 rfl) ?_
      refine lv_iload_n hx hb dX8_earliest_27 rfl (lv_at hl 3 rfl) ?_
      refine me_callVi (As := [.int (nI b), .int (nI (T + j)), .int (nI n9)]) (rest := []) hC hl.1 hM (c_X8_reasonFor l D tb X z0 n mo F w av od sv sl nz ip ot M0 S B L P b (T + j) n9 hW hZ (by omega) (by omega)) (kv_X8_232 hw rfl rfl ⟨Nat.le_of_ble_eq_true rfl, Nat.le_of_ble_eq_true rfl⟩) rfl rfl mq_F rfl (Nat.le_of_ble_eq_true rfl) dX8_earliest_28 ⟨Nat.le_of_ble_eq_true rfl, Nat.le_of_ble_eq_true rfl⟩ (fun H locs hM => ?_)
      refine lv_if_ne (tgt := 48) hx hb dX8_earliest_31 (by decide) (fun c_2 => ?_) (fun c_2 => ?_)
      · refine lv_iinc (v := nI (j + 1)) (lv' := [(4, .int (nI (j + 1))), (5, .int (nI (T + j))), (0, .ref mo), (1, .int (nI b)), (2, .int (nI n9)), (3, .int most)]) hx hb dX8_earliest_48 hl (k := 5) rfl (nx_add rfl rfl) (by decide) rfl (fun ls hl => ?_)
        refine lv_goto (tgt := 3) hx hb dX8_earliest_51 (by decide) ?_
        exact ih_3 r1 (by omega) (j + 1) _ _ _ (by omega) (hq.trans (fv_f (F := fun j => if nI (loF w L (nI (T + j)) (nI n9)) ≤ most ∧ reF w L P b (T + j) n9 = 0 then nI (T + j) else -1) (k := j) (by simp [c_2]))) hM (lv_sub hl [2, 3, 4, 5, 0] rfl)
      · refine lv_aload_n hx hb dX8_earliest_34 rfl (lv_at hl 1 rfl) ?_
        refine lv_iload hx hb dX8_earliest_35 (lv_at hl 0 rfl) ?_
        refine lv_iload_n hx hb dX8_earliest_37 rfl (lv_at hl 3 rfl) ?_
        refine me_callVi (As := [.int (nI (T + j)), .int (nI n9)]) (rest := []) hC hl.1 hM (c_X8_displacedMany l D tb X z0 n mo F w av od sv sl nz ip ot M0 L (nI (T + j)) (nI n9) hL hL0 hZ) (kv_X8_314 hw rfl rfl ⟨Nat.le_of_ble_eq_true rfl, Nat.le_of_ble_eq_true rfl⟩) rfl rfl mq_F rfl (Nat.le_of_ble_eq_true rfl) dX8_earliest_38 ⟨Nat.le_of_ble_eq_true rfl, Nat.le_of_ble_eq_true rfl⟩ (fun H locs hM => ?_)
        refine lv_iload_n hx hb dX8_earliest_41 rfl (lv_at hl 4 rfl) ?_
        refine lv_icmp_gt (tgt := 48) hx hb dX8_earliest_42 (by decide) (fun c_3 => ?_) (fun c_3 => ?_)
        · have c_3q := Int32.not_le.mpr c_3
          refine lv_iinc (v := nI (j + 1)) (lv' := [(4, .int (nI (j + 1))), (5, .int (nI (T + j))), (0, .ref mo), (1, .int (nI b)), (2, .int (nI n9)), (3, .int most)]) hx hb dX8_earliest_48 hl (k := 5) rfl (nx_add rfl rfl) (by decide) rfl (fun ls hl => ?_)
          refine lv_goto (tgt := 3) hx hb dX8_earliest_51 (by decide) ?_
          exact ih_3 r1 (by omega) (j + 1) _ _ _ (by omega) (hq.trans (fv_f (F := fun j => if nI (loF w L (nI (T + j)) (nI n9)) ≤ most ∧ reF w L P b (T + j) n9 = 0 then nI (T + j) else -1) (k := j) (by simp [c_2, c_3, c_3q]))) hM (lv_sub hl [2, 3, 4, 5, 0] rfl)
        · have c_3q := Int32.not_lt.mp c_3
          refine lv_iload hx hb dX8_earliest_45 (lv_at hl 0 rfl) ?_
          exact me_iret hC hr hlk hM (by rw [hq, fv_t (F := fun j => if nI (loF w L (nI (T + j)) (nI n9)) ≤ most ∧ reF w L P b (T + j) n9 = 0 then nI (T + j) else -1) (k := j) (by simp [c_2, c_3, c_3q, nI_nm1 (show T + j < 2 ^ 31 by omega)])]; simp [c_2, c_3, c_3q]) (rfl) (rfl) dX8_earliest_47
  exact lp_3 (49 - n9) 0 _ _ _ (by omega) rfl hM (lv_sub hl [1, 2, 3, 4, 0] rfl)
set_option maxHeartbeats 4000000 in
theorem c_X8_cancels (l : Launch) (D : va_G) (tb : Nat → ClassId) (X : State → Prop) (z0 n : Nat) (mo : Nat) (F w av od sv sl nz ip ot : Nat → Int32) (M0 : me_M) (S B L P : Nat) (k : Nat)  (hW : wf w S B L P) (hk : k < L) : Met l yX8_cancels (.code yX8_cancels cX8_cancels 2 none :: ws_all) ({ frames := 1, cells := 0, slots := 0, locals := 20 } : Room) (me_Pc [.ref mo, .int (nI k)] D tb X z0 (mq tb mo F w av od sv sl nz ip ot M0) n) (me_Qv D z0 (mq tb mo F (caS k w) av od sv sl nz ip ot M0) n) 0 0 (me_A z0) := by
  refine me_open (by decide) (Nat.le_of_ble_eq_true rfl) ?_
  intro p e s m args below meth c ls hC hr hlk hnm hM hl
  have hl : lv_has ls 2 [(0, .ref mo), (1, .int (nI k))] := hl
  have hx := hC.1
  have hb := hC.2.1
  have hw := hC.2.2.2.2.1
  obtain ⟨hS, hS0, hB, hB0, hL, hL0, hP, hP0, hwb, hwl⟩ := id hW
  have hkl_ := hwl k (by omega)
  refine lv_aload_n hx hb dX8_cancels_0 rfl (lv_at hl 0 rfl) ?_
  refine fg_X8_13 hC hM mq_F rfl dX8_cancels_1 ?_
  refine lv_iload_n hx hb dX8_cancels_4 rfl (lv_at hl 1 rfl) ?_
  refine me_callSi (As := [.int (nI k)]) (rest := [.ref (mo + 2)]) hC hl.1 hM (c_X8_l l D tb X z0 n _ k ) (ks_X8_93 hw rfl rfl ⟨Nat.le_of_ble_eq_true rfl, Nat.le_of_ble_eq_true rfl⟩) rfl rfl (Nat.le_of_ble_eq_true rfl) dX8_cancels_5 ⟨Nat.le_of_ble_eq_true rfl, Nat.le_of_ble_eq_true rfl⟩ (fun H locs hM => ?_)
  refine lv_iconst (v := 4) hx hb dX8_cancels_8 (by decide) ?_
  refine lv_iadd hx hb dX8_cancels_9 ?_
  refine lv_iconst (v := 5) hx hb dX8_cancels_10 (by decide) ?_
  refine me_iast (k := 261 + 5 * k + 4) (M2 := mq tb mo F (upd w (261 + 5 * k + 4) 5) av od sv sl nz ip ot M0) hC hM mq_w (nx_add rfl (nx_c 4)) (by omega) (by decide) mq_w_w dX8_cancels_11 (fun H locs hM => ?_)
  refine lv_aload_n hx hb dX8_cancels_12 rfl (lv_at hl 0 rfl) ?_
  refine fg_X8_13 hC hM mq_F rfl dX8_cancels_13 ?_
  refine lv_aload_n hx hb dX8_cancels_16 rfl (lv_at hl 0 rfl) ?_
  refine fg_X8_13 hC hM mq_F rfl dX8_cancels_17 ?_
  refine lv_iload_n hx hb dX8_cancels_20 rfl (lv_at hl 1 rfl) ?_
  refine me_callSi (As := [.int (nI k)]) (rest := [.ref (mo + 2), .ref (mo + 2)]) hC hl.1 hM (c_X8_l l D tb X z0 n _ k ) (ks_X8_93 hw rfl rfl ⟨Nat.le_of_ble_eq_true rfl, Nat.le_of_ble_eq_true rfl⟩) rfl rfl (Nat.le_of_ble_eq_true rfl) dX8_cancels_21 ⟨Nat.le_of_ble_eq_true rfl, Nat.le_of_ble_eq_true rfl⟩ (fun H locs hM => ?_)
  refine lv_iconst (v := 0) hx hb dX8_cancels_24 (by decide) ?_
  refine lv_iadd hx hb dX8_cancels_25 ?_
  refine me_iald (k := 261 + 5 * k) hC hM mq_w (nx_z rfl) (by omega) (by decide) dX8_cancels_26 ?_
  refine me_evi (y := w (261 + 5 * k)) (upd_n (by omega)) ?_
  refine me_stk (st2 := [.int (nI (ow w k)), .ref (mo + 2)]) (by rw [(hwl k (by omega)).1]) ?_
  refine me_callSi (As := [.int (nI (ow w k))]) (rest := [.ref (mo + 2)]) hC hl.1 hM (c_X8_b l D tb X z0 n _ (ow w k) ) (ks_X8_78 hw rfl rfl ⟨Nat.le_of_ble_eq_true rfl, Nat.le_of_ble_eq_true rfl⟩) rfl rfl (Nat.le_of_ble_eq_true rfl) dX8_cancels_27 ⟨Nat.le_of_ble_eq_true rfl, Nat.le_of_ble_eq_true rfl⟩ (fun H locs hM => ?_)
  refine lv_iconst (v := 2) hx hb dX8_cancels_30 (by decide) ?_
  refine lv_iadd hx hb dX8_cancels_31 ?_
  refine lv_dup2_11 hx hb dX8_cancels_32 rfl rfl ?_
  refine me_iald (k := 89 + 11 * (ow w k) + 2) hC hM mq_w (nx_add rfl (nx_c 2)) (by omega) (by decide) dX8_cancels_33 ?_
  refine me_evi (y := w (89 + 11 * (ow w k) + 2)) (upd_n (by omega)) ?_
  refine lv_aload_n hx hb dX8_cancels_34 rfl (lv_at hl 0 rfl) ?_
  refine fg_X8_13 hC hM mq_F rfl dX8_cancels_35 ?_
  refine lv_iload_n hx hb dX8_cancels_38 rfl (lv_at hl 1 rfl) ?_
  refine me_callSi (As := [.int (nI k)]) (rest := [.ref (mo + 2), .int (w (89 + 11 * (ow w k) + 2)), .int ((nI (89 + 11 * (ow w k))) + 2), .ref (mo + 2)]) hC hl.1 hM (c_X8_l l D tb X z0 n _ k ) (ks_X8_93 hw rfl rfl ⟨Nat.le_of_ble_eq_true rfl, Nat.le_of_ble_eq_true rfl⟩) rfl rfl (Nat.le_of_ble_eq_true rfl) dX8_cancels_39 ⟨Nat.le_of_ble_eq_true rfl, Nat.le_of_ble_eq_true rfl⟩ (fun H locs hM => ?_)
  refine lv_iconst (v := 3) hx hb dX8_cancels_42 (by decide) ?_
  refine lv_iadd hx hb dX8_cancels_43 ?_
  refine me_iald (k := 261 + 5 * k + 3) hC hM mq_w (nx_add rfl (nx_c 3)) (by omega) (by decide) dX8_cancels_44 ?_
  refine me_evi (y := w (261 + 5 * k + 3)) (upd_n (by omega)) ?_
  refine lv_iadd hx hb dX8_cancels_45 ?_
  refine me_iast (k := 89 + 11 * (ow w k) + 2) (M2 := mq tb mo F (upd (upd w (261 + 5 * k + 4) 5) (89 + 11 * (ow w k) + 2) ((w (89 + 11 * (ow w k) + 2)) + (w (261 + 5 * k + 3)))) av od sv sl nz ip ot M0) hC hM mq_w (nx_add rfl (nx_c 2)) (by omega) (by decide) mq_w_w dX8_cancels_46 (fun H locs hM => ?_)
  exact me_vret hC hr hlk hM (rfl) (rfl) dX8_cancels_47
set_option maxHeartbeats 4000000 in
theorem c_X8_permits (l : Launch) (D : va_G) (tb : Nat → ClassId) (X : State → Prop) (z0 n : Nat) (mo : Nat) (F w av od sv sl nz ip ot : Nat → Int32) (M0 : me_M) (S B L P : Nat) (x1 x2 x3 : Int32)  (hW : wf w S B L P) (h9 : P < 10) : Met l yX8_permits (.code yX8_permits cX8_permits 5 none :: ws_all) ({ frames := 1, cells := 0, slots := 0, locals := 20 } : Room) (me_Pc [.ref mo, .int x1, .int x2, .int x3] D tb X z0 (mq tb mo F w av od sv sl nz ip ot M0) n) (me_Qv D z0 (mq tb mo F (apF w P x1 x2 x3) av od sv sl nz ip ot M0) n) 0 0 (me_A z0) := by
  refine me_open (by decide) (Nat.le_of_ble_eq_true rfl) ?_
  intro p e s m args below meth c ls hC hr hlk hnm hM hl
  have hl : lv_has ls 5 [(0, .ref mo), (1, .int x1), (2, .int x2), (3, .int x3)] := hl
  have hx := hC.1
  have hb := hC.2.1
  have hw := hC.2.2.2.2.1
  obtain ⟨hS, hS0, hB, hB0, hL, hL0, hP, hP0, hwb, hwl⟩ := id hW
  refine lv_aload_n hx hb dX8_permits_0 rfl (lv_at hl 0 rfl) ?_
  refine fg_X8_13 hC hM mq_F rfl dX8_permits_1 ?_
  refine lv_iconst (v := 5) hx hb dX8_permits_4 (by decide) ?_
  refine me_iald (k := 5) hC hM mq_w (nx_c 5) (by omega) (by decide) dX8_permits_5 ?_
  refine me_stk (st2 := [.int (nI P)]) (by rw [hP]) ?_
  refine me_callSi (As := [.int (nI P)]) (rest := []) hC hl.1 hM (c_X8_p l D tb X z0 n _ P ) (ks_X8_87 hw rfl rfl ⟨Nat.le_of_ble_eq_true rfl, Nat.le_of_ble_eq_true rfl⟩) rfl rfl (Nat.le_of_ble_eq_true rfl) dX8_permits_6 ⟨Nat.le_of_ble_eq_true rfl, Nat.le_of_ble_eq_true rfl⟩ (fun H locs hM => ?_)
  refine lv_istore (lv' := [(4, .int (nI (221 + 4 * P))), (0, .ref mo), (1, .int x1), (2, .int x2), (3, .int x3)]) hx hb dX8_permits_9 hl (by decide) rfl (fun ls hl => ?_)
  refine lv_aload_n hx hb dX8_permits_11 rfl (lv_at hl 1 rfl) ?_
  refine fg_X8_13 hC hM mq_F rfl dX8_permits_12 ?_
  refine lv_iload hx hb dX8_permits_15 (lv_at hl 0 rfl) ?_
  refine lv_iconst (v := 0) hx hb dX8_permits_17 (by decide) ?_
  refine lv_iadd hx hb dX8_permits_18 ?_
  refine lv_iload_n hx hb dX8_permits_19 rfl (lv_at hl 2 rfl) ?_
  refine me_iast (k := 221 + 4 * P) (M2 := mq tb mo F (upd w (221 + 4 * P) x1) av od sv sl nz ip ot M0) hC hM mq_w (nx_z rfl) (by omega) (by decide) mq_w_w dX8_permits_20 (fun H locs hM => ?_)
  refine lv_aload_n hx hb dX8_permits_21 rfl (lv_at hl 1 rfl) ?_
  refine fg_X8_13 hC hM mq_F rfl dX8_permits_22 ?_
  refine lv_iload hx hb dX8_permits_25 (lv_at hl 0 rfl) ?_
  refine lv_iconst (v := 1) hx hb dX8_permits_27 (by decide) ?_
  refine lv_iadd hx hb dX8_permits_28 ?_
  refine lv_iload_n hx hb dX8_permits_29 rfl (lv_at hl 3 rfl) ?_
  refine me_iast (k := 221 + 4 * P + 1) (M2 := mq tb mo F (upd (upd w (221 + 4 * P) x1) (221 + 4 * P + 1) x2) av od sv sl nz ip ot M0) hC hM mq_w (nx_add rfl (show (1 : Int32) = nI 1 from rfl)) (by omega) (by decide) mq_w_w dX8_permits_30 (fun H locs hM => ?_)
  refine lv_aload_n hx hb dX8_permits_31 rfl (lv_at hl 1 rfl) ?_
  refine fg_X8_13 hC hM mq_F rfl dX8_permits_32 ?_
  refine lv_iload hx hb dX8_permits_35 (lv_at hl 0 rfl) ?_
  refine lv_iconst (v := 2) hx hb dX8_permits_37 (by decide) ?_
  refine lv_iadd hx hb dX8_permits_38 ?_
  refine lv_iload_n hx hb dX8_permits_39 rfl (lv_at hl 4 rfl) ?_
  refine me_iast (k := 221 + 4 * P + 2) (M2 := mq tb mo F (upd (upd (upd w (221 + 4 * P) x1) (221 + 4 * P + 1) x2) (221 + 4 * P + 2) x3) av od sv sl nz ip ot M0) hC hM mq_w (nx_add rfl (nx_c 2)) (by omega) (by decide) mq_w_w dX8_permits_40 (fun H locs hM => ?_)
  refine lv_aload_n hx hb dX8_permits_41 rfl (lv_at hl 1 rfl) ?_
  refine fg_X8_13 hC hM mq_F rfl dX8_permits_42 ?_
  refine lv_iload hx hb dX8_permits_45 (lv_at hl 0 rfl) ?_
  refine lv_iconst (v := 3) hx hb dX8_permits_47 (by decide) ?_
  refine lv_iadd hx hb dX8_permits_48 ?_
  refine lv_iconst (v := 0) hx hb dX8_permits_49 (by decide) ?_
  refine me_iast (k := 221 + 4 * P + 3) (M2 := mq tb mo F (upd (upd (upd (upd w (221 + 4 * P) x1) (221 + 4 * P + 1) x2) (221 + 4 * P + 2) x3) (221 + 4 * P + 3) 0) av od sv sl nz ip ot M0) hC hM mq_w (nx_add rfl (nx_c 3)) (by omega) (by decide) mq_w_w dX8_permits_50 (fun H locs hM => ?_)
  refine lv_aload_n hx hb dX8_permits_51 rfl (lv_at hl 1 rfl) ?_
  refine fg_X8_13 hC hM mq_F rfl dX8_permits_52 ?_
  refine lv_iconst (v := 5) hx hb dX8_permits_55 (by decide) ?_
  refine lv_dup2_11 hx hb dX8_permits_56 rfl rfl ?_
  refine me_iald (k := 5) hC hM mq_w (nx_c 5) (by omega) (by decide) dX8_permits_57 ?_
  refine me_evi (y := w 5) ((upd_n (by omega)).trans ((upd_n (by omega)).trans ((upd_n (by omega)).trans (upd_n (by omega))))) ?_
  refine lv_iconst (v := 1) hx hb dX8_permits_58 (by decide) ?_
  refine lv_iadd hx hb dX8_permits_59 ?_
  refine me_iast (k := 5) (M2 := mq tb mo F (upd (upd (upd (upd (upd w (221 + 4 * P) x1) (221 + 4 * P + 1) x2) (221 + 4 * P + 2) x3) (221 + 4 * P + 3) 0) 5 ((w 5) + 1)) av od sv sl nz ip ot M0) hC hM mq_w (nx_c 5) (by omega) (by decide) mq_w_w dX8_permits_60 (fun H locs hM => ?_)
  exact me_vret hC hr hlk hM (rfl) (rfl) dX8_permits_61
set_option maxHeartbeats 4000000 in
theorem c_X8_canWhistle (l : Launch) (D : va_G) (tb : Nat → ClassId) (X : State → Prop) (z0 n : Nat) (mo : Nat) (F w av od sv sl nz ip ot : Nat → Int32) (M0 : me_M) (k : Nat)  (hk0 : k < 30) : Met l yX8_canWhistle (.code yX8_canWhistle cX8_canWhistle 2 (some .boolean) :: ws_all) ({ frames := 1, cells := 0, slots := 0, locals := 20 } : Room) (me_Pc [.ref mo, .int (nI k)] D tb X z0 (mq tb mo F w av od sv sl nz ip ot M0) n) (me_Qi D z0 (b1 (whC w k)) (mq tb mo F w av od sv sl nz ip ot M0) n) 0 0 (me_A z0) := by
  refine me_open (by decide) (Nat.le_of_ble_eq_true rfl) ?_
  intro p e s m args below meth c ls hC hr hlk hnm hM hl
  have hl : lv_has ls 2 [(0, .ref mo), (1, .int (nI k))] := hl
  have hx := hC.1
  have hb := hC.2.1
  have hw := hC.2.2.2.2.1
  refine lv_aload_n hx hb dX8_canWhistle_0 rfl (lv_at hl 0 rfl) ?_
  refine fg_X8_13 hC hM mq_F rfl dX8_canWhistle_1 ?_
  refine lv_iload_n hx hb dX8_canWhistle_4 rfl (lv_at hl 1 rfl) ?_
  refine me_callSi (As := [.int (nI k)]) (rest := [.ref (mo + 2)]) hC hl.1 hM (c_X8_l l D tb X z0 n _ k ) (ks_X8_93 hw rfl rfl ⟨Nat.le_of_ble_eq_true rfl, Nat.le_of_ble_eq_true rfl⟩) rfl rfl (Nat.le_of_ble_eq_true rfl) dX8_canWhistle_5 ⟨Nat.le_of_ble_eq_true rfl, Nat.le_of_ble_eq_true rfl⟩ (fun H locs hM => ?_)
  refine lv_iconst (v := 4) hx hb dX8_canWhistle_8 (by decide) ?_
  refine lv_iadd hx hb dX8_canWhistle_9 ?_
  refine me_iald (k := 261 + 5 * k + 4) hC hM mq_w (nx_add rfl (nx_c 4)) (by omega) (by decide) dX8_canWhistle_10 ?_
  refine lv_iconst (v := 2) hx hb dX8_canWhistle_11 (by decide) ?_
  refine lv_icmp_eq (tgt := 30) hx hb dX8_canWhistle_12 (by decide) (fun c_1 => ?_) (fun c_1 => ?_)
  · refine lv_iconst (v := 1) hx hb dX8_canWhistle_30 (by decide) ?_
    refine lv_goto (tgt := 35) hx hb dX8_canWhistle_31 (by decide) ?_
    exact me_zret hC hr hlk hM (by first | rfl | simp [b1, whC, c_1]) (by first | decide | simp) (rfl) (rfl) dX8_canWhistle_35
  · refine lv_aload_n hx hb dX8_canWhistle_15 rfl (lv_at hl 0 rfl) ?_
    refine fg_X8_13 hC hM mq_F rfl dX8_canWhistle_16 ?_
    refine lv_iload_n hx hb dX8_canWhistle_19 rfl (lv_at hl 1 rfl) ?_
    refine me_callSi (As := [.int (nI k)]) (rest := [.ref (mo + 2)]) hC hl.1 hM (c_X8_l l D tb X z0 n _ k ) (ks_X8_93 hw rfl rfl ⟨Nat.le_of_ble_eq_true rfl, Nat.le_of_ble_eq_true rfl⟩) rfl rfl (Nat.le_of_ble_eq_true rfl) dX8_canWhistle_20 ⟨Nat.le_of_ble_eq_true rfl, Nat.le_of_ble_eq_true rfl⟩ (fun H locs hM => ?_)
    refine lv_iconst (v := 4) hx hb dX8_canWhistle_23 (by decide) ?_
    refine lv_iadd hx hb dX8_canWhistle_24 ?_
    refine me_iald (k := 261 + 5 * k + 4) hC hM mq_w (nx_add rfl (nx_c 4)) (by omega) (by decide) dX8_canWhistle_25 ?_
    refine lv_iconst (v := 4) hx hb dX8_canWhistle_26 (by decide) ?_
    refine lv_icmp_ne (tgt := 34) hx hb dX8_canWhistle_27 (by decide) (fun c_2 => ?_) (fun c_2 => ?_)
    · refine lv_iconst (v := 0) hx hb dX8_canWhistle_34 (by decide) ?_
      exact me_zret hC hr hlk hM (by first | rfl | simp [b1, whC, c_1, c_2]) (by first | decide | simp) (rfl) (rfl) dX8_canWhistle_35
    · refine lv_iconst (v := 1) hx hb dX8_canWhistle_30 (by decide) ?_
      refine lv_goto (tgt := 35) hx hb dX8_canWhistle_31 (by decide) ?_
      exact me_zret hC hr hlk hM (by first | rfl | simp [b1, whC, c_1, c_2]) (by first | decide | simp) (rfl) (rfl) dX8_canWhistle_35
set_option maxHeartbeats 4000000 in
theorem c_X8_canPermit (l : Launch) (D : va_G) (tb : Nat → ClassId) (X : State → Prop) (z0 n : Nat) (mo : Nat) (F w av od sv sl nz ip ot : Nat → Int32) (M0 : me_M) (S B L P : Nat) (st f9 n9 : Int32)  (hW : wf w S B L P) (hZ : wz w) : Met l yX8_canPermit (.code yX8_canPermit cX8_canPermit 5 (some .boolean) :: ws_all) ({ frames := 3, cells := 0, slots := 0, locals := 64 } : Room) (me_Pc [.ref mo, .int st, .int f9, .int n9] D tb X z0 (mq tb mo F w av od sv sl nz ip ot M0) n) (me_Qi D z0 (b1 (fi (fun k => cpP w L st f9 n9 k) L 0 = -1 ∧ P < 10)) (mq tb mo F w av od sv sl nz ip ot M0) n) 0 0 (me_A z0) := by
  refine me_open (by decide) (Nat.le_of_ble_eq_true rfl) ?_
  intro p e s m args below meth c ls hC hr hlk hnm hM hl
  have hl : lv_has ls 5 [(0, .ref mo), (1, .int st), (2, .int f9), (3, .int n9)] := hl
  have hx := hC.1
  have hb := hC.2.1
  have hw := hC.2.2.2.2.1
  obtain ⟨hS, hS0, hB, hB0, hL, hL0, hP, hP0, hwb, hwl⟩ := id hW
  refine lv_iconst (v := 0) hx hb dX8_canPermit_0 (by decide) ?_
  refine lv_istore (lv' := [(4, .int 0), (0, .ref mo), (1, .int st), (2, .int f9), (3, .int n9)]) hx hb dX8_canPermit_1 hl (by decide) rfl (fun ls hl => ?_)
  have lp_3 : ∀ (r : Nat) (k : Nat) (H : Heap) (locs : List Loc) (ls : Array Slot), (k + r = L) → (fi (fun k => cpP w L st f9 n9 k) L 0 = fi (fun k => cpP w L st f9 n9 k) r k) → me_at D z0 (mq tb mo F w av od sv sl nz ip ot M0) n s H locs → lv_has ls 5 [(0, .ref mo), (1, .int st), (2, .int f9), (3, .int n9), (4, .int (nI k))] → W p l e (({ frames := 3, cells := 0, slots := 0, locals := 64 } : Room)) s m args below meth c H locs 0 0 (MQ below (me_Qi D z0 (b1 (fi (fun k => cpP w L st f9 n9 k) L 0 = -1 ∧ P < 10)) (mq tb mo F w av od sv sl nz ip ot M0) n) args s 0 0 (me_A z0)) (F0 m 3 ls []) := by
    intro r
    refine Nat.strongRecOn r ?_
    intro r ih_3 k H locs ls hk hq hM hl
    refine lv_iload hx hb dX8_canPermit_3 (lv_at hl 4 rfl) ?_
    refine lv_aload_n hx hb dX8_canPermit_5 rfl (lv_at hl 0 rfl) ?_
    refine fg_X8_13 hC hM mq_F rfl dX8_canPermit_6 ?_
    refine lv_bipush (v := 6) hx hb dX8_canPermit_9 (by decide) ?_
    refine me_iald (k := 6) hC hM mq_w (nx_c 6) (by omega) (by decide) dX8_canPermit_11 ?_
    refine lv_icmp_ge (tgt := 44) hx hb dX8_canPermit_12 (by decide) (fun c_1 => ?_) (fun c_1 => ?_)
    · have c_1 := (br_le hL rfl (by omega) (by omega)).mp c_1
      refine lv_aload_n hx hb dX8_canPermit_44 rfl (lv_at hl 0 rfl) ?_
      refine fg_X8_13 hC hM mq_F rfl dX8_canPermit_45 ?_
      refine lv_iconst (v := 5) hx hb dX8_canPermit_48 (by decide) ?_
      refine me_iald (k := 5) hC hM mq_w (nx_c 5) (by omega) (by decide) dX8_canPermit_49 ?_
      refine lv_bipush (v := 10) hx hb dX8_canPermit_50 (by decide) ?_
      refine lv_icmp_ge (tgt := 59) hx hb dX8_canPermit_52 (by decide) (fun c_2 => ?_) (fun c_2 => ?_)
      · have c_2 := (br_le (nx_c 10) hP (by omega) (by omega)).mp c_2
        refine lv_iconst (v := 0) hx hb dX8_canPermit_59 (by decide) ?_
        exact me_zret hC hr hlk hM (by rw [hq, show r = 0 by omega]; exact b1_f (fun z => absurd z.2 (by omega))) (by first | decide | simp) (rfl) (rfl) dX8_canPermit_60
      · have c_2 := (not_congr (br_le (nx_c 10) hP (by omega) (by omega))).mp c_2
        refine lv_iconst (v := 1) hx hb dX8_canPermit_55 (by decide) ?_
        refine lv_goto (tgt := 60) hx hb dX8_canPermit_56 (by decide) ?_
        exact me_zret hC hr hlk hM (by rw [hq, show r = 0 by omega]; exact b1_t ⟨rfl, by omega⟩) (by first | decide | simp) (rfl) (rfl) dX8_canPermit_60
    · have c_1 := (not_congr (br_le hL rfl (by omega) (by omega))).mp c_1
      obtain ⟨r1, rfl⟩ : ∃ r1, r = r1 + 1 := ⟨r - 1, by omega⟩
      refine lv_aload_n hx hb dX8_canPermit_15 rfl (lv_at hl 0 rfl) ?_
      refine lv_iload hx hb dX8_canPermit_16 (lv_at hl 4 rfl) ?_
      refine lv_iload_n hx hb dX8_canPermit_18 rfl (lv_at hl 2 rfl) ?_
      refine lv_iload_n hx hb dX8_canPermit_19 rfl (lv_at hl 3 rfl) ?_
      refine me_callVi (As := [.int (nI k), .int f9, .int n9]) (rest := []) hC hl.1 hM (c_X8_meets l D tb X z0 n mo F w av od sv sl nz ip ot M0 k f9 n9 (by omega) hZ) (kv_X8_138 hw rfl rfl ⟨Nat.le_of_ble_eq_true rfl, Nat.le_of_ble_eq_true rfl⟩) rfl rfl mq_F rfl (Nat.le_of_ble_eq_true rfl) dX8_canPermit_20 ⟨Nat.le_of_ble_eq_true rfl, Nat.le_of_ble_eq_true rfl⟩ (fun H locs hM => ?_)
      refine lv_if_eq (tgt := 38) hx hb dX8_canPermit_23 (by decide) (fun c_3 => ?_) (fun c_3 => ?_)
      · have c_3 := b1_0.mp c_3
        refine lv_iinc (v := nI (k + 1)) (lv' := [(4, .int (nI (k + 1))), (0, .ref mo), (1, .int st), (2, .int f9), (3, .int n9)]) hx hb dX8_canPermit_38 hl (k := 4) rfl (nx_add rfl rfl) (by decide) rfl (fun ls hl => ?_)
        refine lv_goto (tgt := 3) hx hb dX8_canPermit_41 (by decide) ?_
        exact ih_3 r1 (by omega) (k + 1) _ _ _ (by omega) (hq.trans (fi_f (P := fun k => cpP w L st f9 n9 k) (k := k) (fun z => c_3 z.1))) hM (lv_sub hl [1, 2, 3, 4, 0] rfl)
      · have c_3 := b1_n0.mp c_3
        refine lv_aload_n hx hb dX8_canPermit_26 rfl (lv_at hl 0 rfl) ?_
        refine lv_iload hx hb dX8_canPermit_27 (lv_at hl 4 rfl) ?_
        refine me_callVi (As := [.int (nI k)]) (rest := []) hC hl.1 hM (c_X8_loanStreet l D tb X z0 n mo F w av od sv sl nz ip ot M0 S B L P k hW (by omega)) (kv_X8_112 hw rfl rfl ⟨Nat.le_of_ble_eq_true rfl, Nat.le_of_ble_eq_true rfl⟩) rfl rfl mq_F rfl (Nat.le_of_ble_eq_true rfl) dX8_canPermit_29 ⟨Nat.le_of_ble_eq_true rfl, Nat.le_of_ble_eq_true rfl⟩ (fun H locs hM => ?_)
        refine lv_iload_n hx hb dX8_canPermit_32 rfl (lv_at hl 1 rfl) ?_
        refine lv_icmp_ne (tgt := 38) hx hb dX8_canPermit_33 (by decide) (fun c_4 => ?_) (fun c_4 => ?_)
        · refine lv_iinc (v := nI (k + 1)) (lv' := [(4, .int (nI (k + 1))), (0, .ref mo), (1, .int st), (2, .int f9), (3, .int n9)]) hx hb dX8_canPermit_38 hl (k := 4) rfl (nx_add rfl rfl) (by decide) rfl (fun ls hl => ?_)
          refine lv_goto (tgt := 3) hx hb dX8_canPermit_41 (by decide) ?_
          exact ih_3 r1 (by omega) (k + 1) _ _ _ (by omega) (hq.trans (fi_f (P := fun k => cpP w L st f9 n9 k) (k := k) (fun z => c_4 z.2))) hM (lv_sub hl [1, 2, 3, 4, 0] rfl)
        · refine lv_iconst (v := 0) hx hb dX8_canPermit_36 (by decide) ?_
          exact me_zret hC hr hlk hM (by rw [hq, fi_t (P := fun k => cpP w L st f9 n9 k) (k := k) (show cpP w L st f9 n9 k from ⟨c_3, c_4⟩)]; exact b1_f (fun z => nI_nm1 (show k < 2 ^ 31 by omega) z.1)) (by first | decide | simp) (rfl) (rfl) dX8_canPermit_37
  exact lp_3 L 0 _ _ _ (by omega) rfl hM (lv_sub hl [1, 2, 3, 4, 0] rfl)
set_option maxHeartbeats 4000000 in
theorem c_X8_builds (l : Launch) (D : va_G) (tb : Nat → ClassId) (X : State → Prop) (z0 n : Nat) (mo : Nat) (F w av od sv sl nz ip ot : Nat → Int32) (M0 : me_M) (S : Nat) (x1 x2 : Int32)  (hS : w 3 = nI S) (h9 : S < 8) : Met l yX8_builds (.code yX8_builds cX8_builds 4 none :: ws_all) ({ frames := 1, cells := 0, slots := 0, locals := 22 } : Room) (me_Pc [.ref mo, .int x1, .int x2] D tb X z0 (mq tb mo F w av od sv sl nz ip ot M0) n) (me_Qv D z0 (mq tb mo F (bdW w sl S x1 x2) av od sv sl nz ip ot M0) n) 0 0 (me_A z0) := by
  refine me_open (by decide) (Nat.le_of_ble_eq_true rfl) ?_
  intro p e s m args below meth c ls hC hr hlk hnm hM hl
  have hl : lv_has ls 4 [(0, .ref mo), (1, .int x1), (2, .int x2)] := hl
  have hx := hC.1
  have hb := hC.2.1
  have hw := hC.2.2.2.2.1
  refine lv_aload_n hx hb dX8_builds_0 rfl (lv_at hl 0 rfl) ?_
  refine fg_X8_13 hC hM mq_F rfl dX8_builds_1 ?_
  refine lv_iconst (v := 3) hx hb dX8_builds_4 (by decide) ?_
  refine me_iald (k := 3) hC hM mq_w (nx_c 3) (by omega) (by decide) dX8_builds_5 ?_
  refine me_stk (st2 := [.int (nI S)]) (by rw [hS]) ?_
  refine me_callSi (As := [.int (nI S)]) (rest := []) hC hl.1 hM (c_X8_s l D tb X z0 n _ S ) (ks_X8_71 hw rfl rfl ⟨Nat.le_of_ble_eq_true rfl, Nat.le_of_ble_eq_true rfl⟩) rfl rfl (Nat.le_of_ble_eq_true rfl) dX8_builds_6 ⟨Nat.le_of_ble_eq_true rfl, Nat.le_of_ble_eq_true rfl⟩ (fun H locs hM => ?_)
  refine lv_istore_n (lv' := [(3, .int (nI (9 + 10 * S))), (0, .ref mo), (1, .int x1), (2, .int x2)]) hx hb dX8_builds_9 rfl hl (by decide) rfl (fun ls hl => ?_)
  refine lv_aload_n hx hb dX8_builds_10 rfl (lv_at hl 1 rfl) ?_
  refine fg_X8_13 hC hM mq_F rfl dX8_builds_11 ?_
  refine lv_iload_n hx hb dX8_builds_14 rfl (lv_at hl 0 rfl) ?_
  refine lv_iconst (v := 0) hx hb dX8_builds_15 (by decide) ?_
  refine lv_iadd hx hb dX8_builds_16 ?_
  refine lv_iload_n hx hb dX8_builds_17 rfl (lv_at hl 2 rfl) ?_
  refine me_iast (k := 9 + 10 * S) (M2 := mq tb mo F (upd w (9 + 10 * S) x1) av od sv sl nz ip ot M0) hC hM mq_w (nx_z rfl) (by omega) (by decide) mq_w_w dX8_builds_18 (fun H locs hM => ?_)
  refine lv_aload_n hx hb dX8_builds_19 rfl (lv_at hl 1 rfl) ?_
  refine fg_X8_13 hC hM mq_F rfl dX8_builds_20 ?_
  refine lv_iload_n hx hb dX8_builds_23 rfl (lv_at hl 0 rfl) ?_
  refine lv_iconst (v := 1) hx hb dX8_builds_24 (by decide) ?_
  refine lv_iadd hx hb dX8_builds_25 ?_
  refine lv_iload_n hx hb dX8_builds_26 rfl (lv_at hl 3 rfl) ?_
  refine me_iast (k := 9 + 10 * S + 1) (M2 := mq tb mo F (upd (upd w (9 + 10 * S) x1) (9 + 10 * S + 1) x2) av od sv sl nz ip ot M0) hC hM mq_w (nx_add rfl (show (1 : Int32) = nI 1 from rfl)) (by omega) (by decide) mq_w_w dX8_builds_27 (fun H locs hM => ?_)
  refine lv_aload_n hx hb dX8_builds_28 rfl (lv_at hl 1 rfl) ?_
  refine fg_X8_13 hC hM mq_F rfl dX8_builds_29 ?_
  refine lv_iload_n hx hb dX8_builds_32 rfl (lv_at hl 0 rfl) ?_
  refine lv_iconst (v := 2) hx hb dX8_builds_33 (by decide) ?_
  refine lv_iadd hx hb dX8_builds_34 ?_
  refine lv_iconst (v := 0) hx hb dX8_builds_35 (by decide) ?_
  refine me_iast (k := 9 + 10 * S + 2) (M2 := mq tb mo F (upd (upd (upd w (9 + 10 * S) x1) (9 + 10 * S + 1) x2) (9 + 10 * S + 2) 0) av od sv sl nz ip ot M0) hC hM mq_w (nx_add rfl (nx_c 2)) (by omega) (by decide) mq_w_w dX8_builds_36 (fun H locs hM => ?_)
  refine lv_aload_n hx hb dX8_builds_37 rfl (lv_at hl 1 rfl) ?_
  refine fg_X8_13 hC hM mq_F rfl dX8_builds_38 ?_
  refine lv_iload_n hx hb dX8_builds_41 rfl (lv_at hl 0 rfl) ?_
  refine lv_iconst (v := 3) hx hb dX8_builds_42 (by decide) ?_
  refine lv_iadd hx hb dX8_builds_43 ?_
  refine lv_iconst (v := 0) hx hb dX8_builds_44 (by decide) ?_
  refine me_iast (k := 9 + 10 * S + 3) (M2 := mq tb mo F (upd (upd (upd (upd w (9 + 10 * S) x1) (9 + 10 * S + 1) x2) (9 + 10 * S + 2) 0) (9 + 10 * S + 3) 0) av od sv sl nz ip ot M0) hC hM mq_w (nx_add rfl (nx_c 3)) (by omega) (by decide) mq_w_w dX8_builds_45 (fun H locs hM => ?_)
  refine lv_aload_n hx hb dX8_builds_46 rfl (lv_at hl 1 rfl) ?_
  refine lv_iload_n hx hb dX8_builds_47 rfl (lv_at hl 0 rfl) ?_
  refine lv_iconst (v := 4) hx hb dX8_builds_48 (by decide) ?_
  refine lv_iadd hx hb dX8_builds_49 ?_
  refine me_stk (st2 := [.int (nI (9 + 10 * S + 4)), .ref mo]) (by rw [(nx_add rfl (nx_c 4))]) ?_
  refine me_callVv (As := [.int (nI (9 + 10 * S + 4))]) (rest := []) hC hl.1 hM (c_X8_names l D tb X z0 n mo F (upd (upd (upd (upd w (9 + 10 * S) x1) (9 + 10 * S + 1) x2) (9 + 10 * S + 2) 0) (9 + 10 * S + 3) 0) av od sv sl nz ip ot M0 (9 + 10 * S + 4) (by omega)) (kv_X8_81 hw rfl rfl ⟨Nat.le_of_ble_eq_true rfl, Nat.le_of_ble_eq_true rfl⟩) rfl rfl mq_F rfl (Nat.le_of_ble_eq_true rfl) dX8_builds_50 ⟨Nat.le_of_ble_eq_true rfl, Nat.le_of_ble_eq_true rfl⟩ (fun H locs hM => ?_)
  refine lv_aload_n hx hb dX8_builds_53 rfl (lv_at hl 1 rfl) ?_
  refine fg_X8_13 hC hM mq_F rfl dX8_builds_54 ?_
  refine lv_iconst (v := 3) hx hb dX8_builds_57 (by decide) ?_
  refine lv_dup2_11 hx hb dX8_builds_58 rfl rfl ?_
  refine me_iald (k := 3) hC hM mq_w (nx_c 3) (by omega) (by decide) dX8_builds_59 ?_
  refine lv_iconst (v := 1) hx hb dX8_builds_60 (by decide) ?_
  refine lv_iadd hx hb dX8_builds_61 ?_
  refine me_iast (k := 3) (M2 := mq tb mo F (upd (cq (upd (upd (upd (upd w (9 + 10 * S) x1) (9 + 10 * S + 1) x2) (9 + 10 * S + 2) 0) (9 + 10 * S + 3) 0) sl (9 + 10 * S + 4) 6) 3 (((cq (upd (upd (upd (upd w (9 + 10 * S) x1) (9 + 10 * S + 1) x2) (9 + 10 * S + 2) 0) (9 + 10 * S + 3) 0) sl (9 + 10 * S + 4) 6) 3) + 1)) av od sv sl nz ip ot M0) hC hM mq_w (nx_c 3) (by omega) (by decide) mq_w_w dX8_builds_62 (fun H locs hM => ?_)
  exact me_vret hC hr hlk hM (rfl) (rfl) dX8_builds_63
set_option maxHeartbeats 4000000 in
theorem c_X8_comes (l : Launch) (D : va_G) (tb : Nat → ClassId) (X : State → Prop) (z0 n : Nat) (mo : Nat) (F w av od sv sl nz ip ot : Nat → Int32) (M0 : me_M) (B : Nat) (x1 x2 x3 : Int32)  (hB : w 4 = nI B) (h9 : B < 12) : Met l yX8_comes (.code yX8_comes cX8_comes 5 none :: ws_all) ({ frames := 1, cells := 0, slots := 0, locals := 22 } : Room) (me_Pc [.ref mo, .int x1, .int x2, .int x3] D tb X z0 (mq tb mo F w av od sv sl nz ip ot M0) n) (me_Qv D z0 (mq tb mo F (cmW w sl B x1 x2 x3) av od sv sl nz ip ot M0) n) 0 0 (me_A z0) := by
  refine me_open (by decide) (Nat.le_of_ble_eq_true rfl) ?_
  intro p e s m args below meth c ls hC hr hlk hnm hM hl
  have hl : lv_has ls 5 [(0, .ref mo), (1, .int x1), (2, .int x2), (3, .int x3)] := hl
  have hx := hC.1
  have hb := hC.2.1
  have hw := hC.2.2.2.2.1
  refine lv_aload_n hx hb dX8_comes_0 rfl (lv_at hl 0 rfl) ?_
  refine fg_X8_13 hC hM mq_F rfl dX8_comes_1 ?_
  refine lv_iconst (v := 4) hx hb dX8_comes_4 (by decide) ?_
  refine me_iald (k := 4) hC hM mq_w (nx_c 4) (by omega) (by decide) dX8_comes_5 ?_
  refine me_stk (st2 := [.int (nI B)]) (by rw [hB]) ?_
  refine me_callSi (As := [.int (nI B)]) (rest := []) hC hl.1 hM (c_X8_b l D tb X z0 n _ B ) (ks_X8_78 hw rfl rfl ⟨Nat.le_of_ble_eq_true rfl, Nat.le_of_ble_eq_true rfl⟩) rfl rfl (Nat.le_of_ble_eq_true rfl) dX8_comes_6 ⟨Nat.le_of_ble_eq_true rfl, Nat.le_of_ble_eq_true rfl⟩ (fun H locs hM => ?_)
  refine lv_istore (lv' := [(4, .int (nI (89 + 11 * B))), (0, .ref mo), (1, .int x1), (2, .int x2), (3, .int x3)]) hx hb dX8_comes_9 hl (by decide) rfl (fun ls hl => ?_)
  refine lv_aload_n hx hb dX8_comes_11 rfl (lv_at hl 1 rfl) ?_
  refine fg_X8_13 hC hM mq_F rfl dX8_comes_12 ?_
  refine lv_iload hx hb dX8_comes_15 (lv_at hl 0 rfl) ?_
  refine lv_iconst (v := 0) hx hb dX8_comes_17 (by decide) ?_
  refine lv_iadd hx hb dX8_comes_18 ?_
  refine lv_iload_n hx hb dX8_comes_19 rfl (lv_at hl 2 rfl) ?_
  refine me_iast (k := 89 + 11 * B) (M2 := mq tb mo F (upd w (89 + 11 * B) x1) av od sv sl nz ip ot M0) hC hM mq_w (nx_z rfl) (by omega) (by decide) mq_w_w dX8_comes_20 (fun H locs hM => ?_)
  refine lv_aload_n hx hb dX8_comes_21 rfl (lv_at hl 1 rfl) ?_
  refine fg_X8_13 hC hM mq_F rfl dX8_comes_22 ?_
  refine lv_iload hx hb dX8_comes_25 (lv_at hl 0 rfl) ?_
  refine lv_iconst (v := 1) hx hb dX8_comes_27 (by decide) ?_
  refine lv_iadd hx hb dX8_comes_28 ?_
  refine lv_iload_n hx hb dX8_comes_29 rfl (lv_at hl 3 rfl) ?_
  refine me_iast (k := 89 + 11 * B + 1) (M2 := mq tb mo F (upd (upd w (89 + 11 * B) x1) (89 + 11 * B + 1) x2) av od sv sl nz ip ot M0) hC hM mq_w (nx_add rfl (show (1 : Int32) = nI 1 from rfl)) (by omega) (by decide) mq_w_w dX8_comes_30 (fun H locs hM => ?_)
  refine lv_aload_n hx hb dX8_comes_31 rfl (lv_at hl 1 rfl) ?_
  refine fg_X8_13 hC hM mq_F rfl dX8_comes_32 ?_
  refine lv_iload hx hb dX8_comes_35 (lv_at hl 0 rfl) ?_
  refine lv_iconst (v := 2) hx hb dX8_comes_37 (by decide) ?_
  refine lv_iadd hx hb dX8_comes_38 ?_
  refine lv_iload_n hx hb dX8_comes_39 rfl (lv_at hl 4 rfl) ?_
  refine me_iast (k := 89 + 11 * B + 2) (M2 := mq tb mo F (upd (upd (upd w (89 + 11 * B) x1) (89 + 11 * B + 1) x2) (89 + 11 * B + 2) x3) av od sv sl nz ip ot M0) hC hM mq_w (nx_add rfl (nx_c 2)) (by omega) (by decide) mq_w_w dX8_comes_40 (fun H locs hM => ?_)
  refine lv_aload_n hx hb dX8_comes_41 rfl (lv_at hl 1 rfl) ?_
  refine fg_X8_13 hC hM mq_F rfl dX8_comes_42 ?_
  refine lv_iload hx hb dX8_comes_45 (lv_at hl 0 rfl) ?_
  refine lv_iconst (v := 3) hx hb dX8_comes_47 (by decide) ?_
  refine lv_iadd hx hb dX8_comes_48 ?_
  refine lv_iconst (v := 0) hx hb dX8_comes_49 (by decide) ?_
  refine me_iast (k := 89 + 11 * B + 3) (M2 := mq tb mo F (upd (upd (upd (upd w (89 + 11 * B) x1) (89 + 11 * B + 1) x2) (89 + 11 * B + 2) x3) (89 + 11 * B + 3) 0) av od sv sl nz ip ot M0) hC hM mq_w (nx_add rfl (nx_c 3)) (by omega) (by decide) mq_w_w dX8_comes_50 (fun H locs hM => ?_)
  refine lv_aload_n hx hb dX8_comes_51 rfl (lv_at hl 1 rfl) ?_
  refine fg_X8_13 hC hM mq_F rfl dX8_comes_52 ?_
  refine lv_iload hx hb dX8_comes_55 (lv_at hl 0 rfl) ?_
  refine lv_iconst (v := 4) hx hb dX8_comes_57 (by decide) ?_
  refine lv_iadd hx hb dX8_comes_58 ?_
  refine lv_iconst (v := 0) hx hb dX8_comes_59 (by decide) ?_
  refine me_iast (k := 89 + 11 * B + 4) (M2 := mq tb mo F (upd (upd (upd (upd (upd w (89 + 11 * B) x1) (89 + 11 * B + 1) x2) (89 + 11 * B + 2) x3) (89 + 11 * B + 3) 0) (89 + 11 * B + 4) 0) av od sv sl nz ip ot M0) hC hM mq_w (nx_add rfl (nx_c 4)) (by omega) (by decide) mq_w_w dX8_comes_60 (fun H locs hM => ?_)
  refine lv_aload_n hx hb dX8_comes_61 rfl (lv_at hl 1 rfl) ?_
  refine lv_iload hx hb dX8_comes_62 (lv_at hl 0 rfl) ?_
  refine lv_iconst (v := 5) hx hb dX8_comes_64 (by decide) ?_
  refine lv_iadd hx hb dX8_comes_65 ?_
  refine me_stk (st2 := [.int (nI (89 + 11 * B + 5)), .ref mo]) (by rw [(nx_add rfl (nx_c 5))]) ?_
  refine me_callVv (As := [.int (nI (89 + 11 * B + 5))]) (rest := []) hC hl.1 hM (c_X8_names l D tb X z0 n mo F (upd (upd (upd (upd (upd w (89 + 11 * B) x1) (89 + 11 * B + 1) x2) (89 + 11 * B + 2) x3) (89 + 11 * B + 3) 0) (89 + 11 * B + 4) 0) av od sv sl nz ip ot M0 (89 + 11 * B + 5) (by omega)) (kv_X8_81 hw rfl rfl ⟨Nat.le_of_ble_eq_true rfl, Nat.le_of_ble_eq_true rfl⟩) rfl rfl mq_F rfl (Nat.le_of_ble_eq_true rfl) dX8_comes_66 ⟨Nat.le_of_ble_eq_true rfl, Nat.le_of_ble_eq_true rfl⟩ (fun H locs hM => ?_)
  refine lv_aload_n hx hb dX8_comes_69 rfl (lv_at hl 1 rfl) ?_
  refine fg_X8_13 hC hM mq_F rfl dX8_comes_70 ?_
  refine lv_bipush (v := 7) hx hb dX8_comes_73 (by decide) ?_
  refine lv_dup2_11 hx hb dX8_comes_75 rfl rfl ?_
  refine me_iald (k := 7) hC hM mq_w (nx_c 7) (by omega) (by decide) dX8_comes_76 ?_
  refine lv_iload_n hx hb dX8_comes_77 rfl (lv_at hl 4 rfl) ?_
  refine lv_iadd hx hb dX8_comes_78 ?_
  refine me_iast (k := 7) (M2 := mq tb mo F (upd (cq (upd (upd (upd (upd (upd w (89 + 11 * B) x1) (89 + 11 * B + 1) x2) (89 + 11 * B + 2) x3) (89 + 11 * B + 3) 0) (89 + 11 * B + 4) 0) sl (89 + 11 * B + 5) 6) 7 (((cq (upd (upd (upd (upd (upd w (89 + 11 * B) x1) (89 + 11 * B + 1) x2) (89 + 11 * B + 2) x3) (89 + 11 * B + 3) 0) (89 + 11 * B + 4) 0) sl (89 + 11 * B + 5) 6) 7) + x3)) av od sv sl nz ip ot M0) hC hM mq_w (nx_c 7) (by omega) (by decide) mq_w_w dX8_comes_79 (fun H locs hM => ?_)
  refine lv_aload_n hx hb dX8_comes_80 rfl (lv_at hl 1 rfl) ?_
  refine fg_X8_13 hC hM mq_F rfl dX8_comes_81 ?_
  refine lv_iconst (v := 4) hx hb dX8_comes_84 (by decide) ?_
  refine lv_dup2_11 hx hb dX8_comes_85 rfl rfl ?_
  refine me_iald (k := 4) hC hM mq_w (nx_c 4) (by omega) (by decide) dX8_comes_86 ?_
  refine me_evi (y := (cq (upd (upd (upd (upd (upd w (89 + 11 * B) x1) (89 + 11 * B + 1) x2) (89 + 11 * B + 2) x3) (89 + 11 * B + 3) 0) (89 + 11 * B + 4) 0) sl (89 + 11 * B + 5) 6) 4) (upd_n (by omega)) ?_
  refine lv_iconst (v := 1) hx hb dX8_comes_87 (by decide) ?_
  refine lv_iadd hx hb dX8_comes_88 ?_
  refine me_iast (k := 4) (M2 := mq tb mo F (upd (upd (cq (upd (upd (upd (upd (upd w (89 + 11 * B) x1) (89 + 11 * B + 1) x2) (89 + 11 * B + 2) x3) (89 + 11 * B + 3) 0) (89 + 11 * B + 4) 0) sl (89 + 11 * B + 5) 6) 7 (((cq (upd (upd (upd (upd (upd w (89 + 11 * B) x1) (89 + 11 * B + 1) x2) (89 + 11 * B + 2) x3) (89 + 11 * B + 3) 0) (89 + 11 * B + 4) 0) sl (89 + 11 * B + 5) 6) 7) + x3)) 4 (((cq (upd (upd (upd (upd (upd w (89 + 11 * B) x1) (89 + 11 * B + 1) x2) (89 + 11 * B + 2) x3) (89 + 11 * B + 3) 0) (89 + 11 * B + 4) 0) sl (89 + 11 * B + 5) 6) 4) + 1)) av od sv sl nz ip ot M0) hC hM mq_w (nx_c 4) (by omega) (by decide) mq_w_w dX8_comes_89 (fun H locs hM => ?_)
  exact me_vret hC hr hlk hM (rfl) (rfl) dX8_comes_90
set_option maxHeartbeats 4000000 in
theorem c_X8_lends (l : Launch) (D : va_G) (tb : Nat → ClassId) (X : State → Prop) (z0 n : Nat) (mo : Nat) (F w av od sv sl nz ip ot : Nat → Int32) (M0 : me_M) (S B L P : Nat) (T : Nat) (b s0 n9 : Nat)  (hO : ok1 S B L P T w) (hb9 : b < B) (h9 : L < 30) : Met l yX8_lends (.code yX8_lends cX8_lends 5 none :: ws_all) ({ frames := 3, cells := 0, slots := 0, locals := 64 } : Room) (me_Pc [.ref mo, .int (nI b), .int (nI s0), .int (nI n9)] D tb X z0 (mq tb mo F w av od sv sl nz ip ot M0) n) (me_Qv D z0 (mq tb mo F (adF w L b s0 n9) av od sv sl nz ip ot M0) n) 0 0 (me_A z0) := by
  refine me_open (by decide) (Nat.le_of_ble_eq_true rfl) ?_
  intro p e s m args below meth c ls hC hr hlk hnm hM hl
  have hl : lv_has ls 5 [(0, .ref mo), (1, .int (nI b)), (2, .int (nI s0)), (3, .int (nI n9))] := hl
  have hx := hC.1
  have hb := hC.2.1
  have hw := hC.2.2.2.2.1
  obtain ⟨hW, hZ, hT⟩ := id hO
  obtain ⟨hS, hS0, hB, hB0, hL, hL0, hP, hP0, hwb, hwl⟩ := id hW
  refine lv_iconst (v := 0) hx hb dX8_lends_0 (by decide) ?_
  refine lv_istore (lv' := [(4, .int 0), (0, .ref mo), (1, .int (nI b)), (2, .int (nI s0)), (3, .int (nI n9))]) hx hb dX8_lends_1 hl (by decide) rfl (fun ls hl => ?_)
  have lp_3 : ∀ (r : Nat) (k : Nat) (w1 : Nat → Int32) (H : Heap) (locs : List Loc) (ls : Array Slot), (k + r = L) → (it (alS (nI s0) (nI n9)) L 0 w = it (alS (nI s0) (nI n9)) r k w1) → (ok1 S B L P T w1) → me_at D z0 (mq tb mo F w1 av od sv sl nz ip ot M0) n s H locs → lv_has ls 5 [(0, .ref mo), (1, .int (nI b)), (2, .int (nI s0)), (3, .int (nI n9)), (4, .int (nI k))] → W p l e (({ frames := 3, cells := 0, slots := 0, locals := 64 } : Room)) s m args below meth c H locs 0 0 (MQ below (me_Qv D z0 (mq tb mo F (adF w L b s0 n9) av od sv sl nz ip ot M0) n) args s 0 0 (me_A z0)) (F0 m 3 ls []) := by
    intro r
    refine Nat.strongRecOn r ?_
    intro r ih_3 k w1 H locs ls hk hq hO1 hM hl
    obtain ⟨hW1, hZ1, hT1⟩ := id hO1
    obtain ⟨hS, hS0, hB, hB0, hL, hL0, hP, hP0, hwb, hwl⟩ := id hW1
    refine lv_iload hx hb dX8_lends_3 (lv_at hl 4 rfl) ?_
    refine lv_aload_n hx hb dX8_lends_5 rfl (lv_at hl 0 rfl) ?_
    refine fg_X8_13 hC hM mq_F rfl dX8_lends_6 ?_
    refine lv_bipush (v := 6) hx hb dX8_lends_9 (by decide) ?_
    refine me_iald (k := 6) hC hM mq_w (nx_c 6) (by omega) (by decide) dX8_lends_11 ?_
    refine lv_icmp_ge (tgt := 38) hx hb dX8_lends_12 (by decide) (fun c_1 => ?_) (fun c_1 => ?_)
    · have c_1 := (br_le hL rfl (by omega) (by omega)).mp c_1
      obtain rfl : r = 0 := by omega
      have hq : adA w L s0 n9 = w1 := hq
      refine lv_aload_n hx hb dX8_lends_38 rfl (lv_at hl 0 rfl) ?_
      refine fg_X8_13 hC hM mq_F rfl dX8_lends_39 ?_
      refine lv_bipush (v := 6) hx hb dX8_lends_42 (by decide) ?_
      refine me_iald (k := 6) hC hM mq_w (nx_c 6) (by omega) (by decide) dX8_lends_44 ?_
      refine me_stk (st2 := [.int (nI L)]) (by rw [hL]) ?_
      refine me_callSi (As := [.int (nI L)]) (rest := []) hC hl.1 hM (c_X8_l l D tb X z0 n _ L ) (ks_X8_93 hw rfl rfl ⟨Nat.le_of_ble_eq_true rfl, Nat.le_of_ble_eq_true rfl⟩) rfl rfl (Nat.le_of_ble_eq_true rfl) dX8_lends_45 ⟨Nat.le_of_ble_eq_true rfl, Nat.le_of_ble_eq_true rfl⟩ (fun H locs hM => ?_)
      refine lv_istore (lv' := [(4, .int (nI (261 + 5 * L))), (0, .ref mo), (1, .int (nI b)), (2, .int (nI s0)), (3, .int (nI n9))]) hx hb dX8_lends_48 hl (by decide) rfl (fun ls hl => ?_)
      refine lv_aload_n hx hb dX8_lends_50 rfl (lv_at hl 1 rfl) ?_
      refine fg_X8_13 hC hM mq_F rfl dX8_lends_51 ?_
      refine lv_iload hx hb dX8_lends_54 (lv_at hl 0 rfl) ?_
      refine lv_iconst (v := 0) hx hb dX8_lends_56 (by decide) ?_
      refine lv_iadd hx hb dX8_lends_57 ?_
      refine lv_iload_n hx hb dX8_lends_58 rfl (lv_at hl 2 rfl) ?_
      refine me_iast (k := 261 + 5 * L) (M2 := mq tb mo F (upd w1 (261 + 5 * L) (nI b)) av od sv sl nz ip ot M0) hC hM mq_w (nx_z rfl) (by omega) (by decide) mq_w_w dX8_lends_59 (fun H locs hM => ?_)
      refine lv_aload_n hx hb dX8_lends_60 rfl (lv_at hl 1 rfl) ?_
      refine fg_X8_13 hC hM mq_F rfl dX8_lends_61 ?_
      refine lv_iload hx hb dX8_lends_64 (lv_at hl 0 rfl) ?_
      refine lv_iconst (v := 1) hx hb dX8_lends_66 (by decide) ?_
      refine lv_iadd hx hb dX8_lends_67 ?_
      refine lv_iload_n hx hb dX8_lends_68 rfl (lv_at hl 3 rfl) ?_
      refine me_iast (k := 261 + 5 * L + 1) (M2 := mq tb mo F (upd (upd w1 (261 + 5 * L) (nI b)) (261 + 5 * L + 1) (nI s0)) av od sv sl nz ip ot M0) hC hM mq_w (nx_add rfl (show (1 : Int32) = nI 1 from rfl)) (by omega) (by decide) mq_w_w dX8_lends_69 (fun H locs hM => ?_)
      refine lv_aload_n hx hb dX8_lends_70 rfl (lv_at hl 1 rfl) ?_
      refine fg_X8_13 hC hM mq_F rfl dX8_lends_71 ?_
      refine lv_iload hx hb dX8_lends_74 (lv_at hl 0 rfl) ?_
      refine lv_iconst (v := 2) hx hb dX8_lends_76 (by decide) ?_
      refine lv_iadd hx hb dX8_lends_77 ?_
      refine lv_iload_n hx hb dX8_lends_78 rfl (lv_at hl 4 rfl) ?_
      refine me_iast (k := 261 + 5 * L + 2) (M2 := mq tb mo F (upd (upd (upd w1 (261 + 5 * L) (nI b)) (261 + 5 * L + 1) (nI s0)) (261 + 5 * L + 2) (nI n9)) av od sv sl nz ip ot M0) hC hM mq_w (nx_add rfl (nx_c 2)) (by omega) (by decide) mq_w_w dX8_lends_79 (fun H locs hM => ?_)
      refine lv_aload_n hx hb dX8_lends_80 rfl (lv_at hl 1 rfl) ?_
      refine fg_X8_13 hC hM mq_F rfl dX8_lends_81 ?_
      refine lv_iload hx hb dX8_lends_84 (lv_at hl 0 rfl) ?_
      refine lv_iconst (v := 3) hx hb dX8_lends_86 (by decide) ?_
      refine lv_iadd hx hb dX8_lends_87 ?_
      have hkb_ := hwb b (by omega)
      have hW2 : wf (upd (upd (upd w1 (261 + 5 * L) (nI b)) (261 + 5 * L + 1) (nI s0)) (261 + 5 * L + 2) (nI n9)) S B L P := wf_upd (wf_upd (wf_upd hW1 (by omega) (fun b hb => by omega) (fun j hj => by omega)) (by omega) (fun b hb => by omega) (fun j hj => by omega)) (by omega) (fun b hb => by omega) (fun j hj => by omega)
      refine lv_aload_n hx hb dX8_lends_88 rfl (lv_at hl 1 rfl) ?_
      refine lv_iload_n hx hb dX8_lends_89 rfl (lv_at hl 2 rfl) ?_
      refine lv_iload_n hx hb dX8_lends_90 rfl (lv_at hl 4 rfl) ?_
      refine me_callVi (As := [.int (nI b), .int (nI n9)]) (rest := [.int ((nI (261 + 5 * L)) + 3), .ref (mo + 2)]) hC hl.1 hM (c_X8_priceFor l D tb X z0 n mo F (upd (upd (upd w1 (261 + 5 * L) (nI b)) (261 + 5 * L + 1) (nI s0)) (261 + 5 * L + 2) (nI n9)) av od sv sl nz ip ot M0 S B L P b (nI n9) hW2 (by omega)) (kv_X8_135 hw rfl rfl ⟨Nat.le_of_ble_eq_true rfl, Nat.le_of_ble_eq_true rfl⟩) rfl rfl mq_F rfl (Nat.le_of_ble_eq_true rfl) dX8_lends_91 ⟨Nat.le_of_ble_eq_true rfl, Nat.le_of_ble_eq_true rfl⟩ (fun H locs hM => ?_)
      refine me_evi (y := prF w1 b (nI n9)) (prF_upd3 (by omega) (by omega) (by omega) (by omega) (by omega)) ?_
      refine me_iast (k := 261 + 5 * L + 3) (M2 := mq tb mo F (upd (upd (upd (upd w1 (261 + 5 * L) (nI b)) (261 + 5 * L + 1) (nI s0)) (261 + 5 * L + 2) (nI n9)) (261 + 5 * L + 3) (prF w1 b (nI n9))) av od sv sl nz ip ot M0) hC hM mq_w (nx_add rfl (nx_c 3)) (by omega) (by decide) mq_w_w dX8_lends_94 (fun H locs hM => ?_)
      refine lv_aload_n hx hb dX8_lends_95 rfl (lv_at hl 1 rfl) ?_
      refine fg_X8_13 hC hM mq_F rfl dX8_lends_96 ?_
      refine lv_iload hx hb dX8_lends_99 (lv_at hl 0 rfl) ?_
      refine lv_iconst (v := 4) hx hb dX8_lends_101 (by decide) ?_
      refine lv_iadd hx hb dX8_lends_102 ?_
      refine lv_iconst (v := 0) hx hb dX8_lends_103 (by decide) ?_
      refine me_iast (k := 261 + 5 * L + 4) (M2 := mq tb mo F (upd (upd (upd (upd (upd w1 (261 + 5 * L) (nI b)) (261 + 5 * L + 1) (nI s0)) (261 + 5 * L + 2) (nI n9)) (261 + 5 * L + 3) (prF w1 b (nI n9))) (261 + 5 * L + 4) 0) av od sv sl nz ip ot M0) hC hM mq_w (nx_add rfl (nx_c 4)) (by omega) (by decide) mq_w_w dX8_lends_104 (fun H locs hM => ?_)
      refine lv_aload_n hx hb dX8_lends_105 rfl (lv_at hl 1 rfl) ?_
      refine fg_X8_13 hC hM mq_F rfl dX8_lends_106 ?_
      refine lv_iload_n hx hb dX8_lends_109 rfl (lv_at hl 2 rfl) ?_
      refine me_callSi (As := [.int (nI b)]) (rest := [.ref (mo + 2)]) hC hl.1 hM (c_X8_b l D tb X z0 n _ b ) (ks_X8_78 hw rfl rfl ⟨Nat.le_of_ble_eq_true rfl, Nat.le_of_ble_eq_true rfl⟩) rfl rfl (Nat.le_of_ble_eq_true rfl) dX8_lends_110 ⟨Nat.le_of_ble_eq_true rfl, Nat.le_of_ble_eq_true rfl⟩ (fun H locs hM => ?_)
      refine lv_iconst (v := 2) hx hb dX8_lends_113 (by decide) ?_
      refine lv_iadd hx hb dX8_lends_114 ?_
      refine lv_dup2_11 hx hb dX8_lends_115 rfl rfl ?_
      refine me_iald (k := 89 + 11 * b + 2) hC hM mq_w (nx_add rfl (nx_c 2)) (by omega) (by decide) dX8_lends_116 ?_
      refine me_evi (y := w1 (89 + 11 * b + 2)) ((upd_n (by omega)).trans ((upd_n (by omega)).trans ((upd_n (by omega)).trans ((upd_n (by omega)).trans (upd_n (by omega)))))) ?_
      refine lv_aload_n hx hb dX8_lends_117 rfl (lv_at hl 1 rfl) ?_
      refine fg_X8_13 hC hM mq_F rfl dX8_lends_118 ?_
      refine lv_iload hx hb dX8_lends_121 (lv_at hl 0 rfl) ?_
      refine lv_iconst (v := 3) hx hb dX8_lends_123 (by decide) ?_
      refine lv_iadd hx hb dX8_lends_124 ?_
      refine me_iald (k := 261 + 5 * L + 3) hC hM mq_w (nx_add rfl (nx_c 3)) (by omega) (by decide) dX8_lends_125 ?_
      refine me_evi (y := prF w1 b (nI n9)) ((upd_n (by omega)).trans (upd_s _ _ _)) ?_
      refine lv_isub hx hb dX8_lends_126 ?_
      refine me_iast (k := 89 + 11 * b + 2) (M2 := mq tb mo F (upd (upd (upd (upd (upd (upd w1 (261 + 5 * L) (nI b)) (261 + 5 * L + 1) (nI s0)) (261 + 5 * L + 2) (nI n9)) (261 + 5 * L + 3) (prF w1 b (nI n9))) (261 + 5 * L + 4) 0) (89 + 11 * b + 2) ((w1 (89 + 11 * b + 2)) - (prF w1 b (nI n9)))) av od sv sl nz ip ot M0) hC hM mq_w (nx_add rfl (nx_c 2)) (by omega) (by decide) mq_w_w dX8_lends_127 (fun H locs hM => ?_)
      refine lv_aload_n hx hb dX8_lends_128 rfl (lv_at hl 1 rfl) ?_
      refine fg_X8_13 hC hM mq_F rfl dX8_lends_129 ?_
      refine lv_bipush (v := 6) hx hb dX8_lends_132 (by decide) ?_
      refine lv_dup2_11 hx hb dX8_lends_134 rfl rfl ?_
      refine me_iald (k := 6) hC hM mq_w (nx_c 6) (by omega) (by decide) dX8_lends_135 ?_
      refine me_evi (y := w1 6) ((upd_n (by omega)).trans ((upd_n (by omega)).trans ((upd_n (by omega)).trans ((upd_n (by omega)).trans ((upd_n (by omega)).trans (upd_n (by omega))))))) ?_
      refine lv_iconst (v := 1) hx hb dX8_lends_136 (by decide) ?_
      refine lv_iadd hx hb dX8_lends_137 ?_
      refine me_iast (k := 6) (M2 := mq tb mo F (upd (upd (upd (upd (upd (upd (upd w1 (261 + 5 * L) (nI b)) (261 + 5 * L + 1) (nI s0)) (261 + 5 * L + 2) (nI n9)) (261 + 5 * L + 3) (prF w1 b (nI n9))) (261 + 5 * L + 4) 0) (89 + 11 * b + 2) ((w1 (89 + 11 * b + 2)) - (prF w1 b (nI n9)))) 6 ((w1 6) + 1)) av od sv sl nz ip ot M0) hC hM mq_w (nx_c 6) (by omega) (by decide) mq_w_w dX8_lends_138 (fun H locs hM => ?_)
      exact me_vret hC hr hlk hM (by unfold adF; rw [hq]) (rfl) dX8_lends_139
    · have c_1 := (not_congr (br_le hL rfl (by omega) (by omega))).mp c_1
      obtain ⟨r1, rfl⟩ : ∃ r1, r = r1 + 1 := ⟨r - 1, by omega⟩
      refine lv_aload_n hx hb dX8_lends_15 rfl (lv_at hl 0 rfl) ?_
      refine lv_iload hx hb dX8_lends_16 (lv_at hl 4 rfl) ?_
      refine lv_iload_n hx hb dX8_lends_18 rfl (lv_at hl 2 rfl) ?_
      refine lv_iload_n hx hb dX8_lends_19 rfl (lv_at hl 3 rfl) ?_
      refine me_callVi (As := [.int (nI k), .int (nI s0), .int (nI n9)]) (rest := []) hC hl.1 hM (c_X8_meets l D tb X z0 n mo F w1 av od sv sl nz ip ot M0 k (nI s0) (nI n9) (by omega) hZ1) (kv_X8_138 hw rfl rfl ⟨Nat.le_of_ble_eq_true rfl, Nat.le_of_ble_eq_true rfl⟩) rfl rfl mq_F rfl (Nat.le_of_ble_eq_true rfl) dX8_lends_20 ⟨Nat.le_of_ble_eq_true rfl, Nat.le_of_ble_eq_true rfl⟩ (fun H locs hM => ?_)
      refine lv_if_eq (tgt := 32) hx hb dX8_lends_23 (by decide) (fun c_2 => ?_) (fun c_2 => ?_)
      · have c_2 := b1_0.mp c_2
        refine lv_iinc (v := nI (k + 1)) (lv' := [(4, .int (nI (k + 1))), (0, .ref mo), (1, .int (nI b)), (2, .int (nI s0)), (3, .int (nI n9))]) hx hb dX8_lends_32 hl (k := 4) rfl (nx_add rfl rfl) (by decide) rfl (fun ls hl => ?_)
        refine lv_goto (tgt := 3) hx hb dX8_lends_35 (by decide) ?_
        exact ih_3 r1 (by omega) (k + 1) ((alS (nI s0) (nI n9)) k w1) _ _ _ (by omega) hq (ok_al hO1 (by omega)) (hM.eq (by rw [show alS (nI s0) (nI n9) k w1 = _ from if_neg c_2])) (lv_sub hl [1, 2, 3, 4, 0] rfl)
      · have c_2 := b1_n0.mp c_2
        refine lv_aload_n hx hb dX8_lends_26 rfl (lv_at hl 0 rfl) ?_
        refine lv_iload hx hb dX8_lends_27 (lv_at hl 4 rfl) ?_
        refine me_callVv (As := [.int (nI k)]) (rest := []) hC hl.1 hM (c_X8_cancels l D tb X z0 n mo F w1 av od sv sl nz ip ot M0 S B L P k hW1 (by omega)) (kv_X8_141 hw rfl rfl ⟨Nat.le_of_ble_eq_true rfl, Nat.le_of_ble_eq_true rfl⟩) rfl rfl mq_F rfl (Nat.le_of_ble_eq_true rfl) dX8_lends_29 ⟨Nat.le_of_ble_eq_true rfl, Nat.le_of_ble_eq_true rfl⟩ (fun H locs hM => ?_)
        refine lv_iinc (v := nI (k + 1)) (lv' := [(4, .int (nI (k + 1))), (0, .ref mo), (1, .int (nI b)), (2, .int (nI s0)), (3, .int (nI n9))]) hx hb dX8_lends_32 hl (k := 4) rfl (nx_add rfl rfl) (by decide) rfl (fun ls hl => ?_)
        refine lv_goto (tgt := 3) hx hb dX8_lends_35 (by decide) ?_
        exact ih_3 r1 (by omega) (k + 1) ((alS (nI s0) (nI n9)) k w1) _ _ _ (by omega) hq (ok_al hO1 (by omega)) (hM.eq (by rw [show alS (nI s0) (nI n9) k w1 = _ from if_pos c_2])) (lv_sub hl [1, 2, 3, 4, 0] rfl)
  exact lp_3 L 0 w _ _ _ (by omega) rfl hO hM (lv_sub hl [1, 2, 3, 4, 0] rfl)
set_option maxHeartbeats 4000000 in
theorem c_X8_begins (l : Launch) (D : va_G) (tb : Nat → ClassId) (X : State → Prop) (z0 n : Nat) (mo : Nat) (F w av od sv sl nz ip ot : Nat → Int32) (M0 : me_M) (S B L P : Nat) (T : Nat)  (hO : ok1 S B L P T w) : Met l yX8_begins (.code yX8_begins cX8_begins 2 none :: ws_all) ({ frames := 1, cells := 0, slots := 0, locals := 20 } : Room) (me_Pc [.ref mo] D tb X z0 (mq tb mo F w av od sv sl nz ip ot M0) n) (me_Qv D z0 (mq tb mo F (it bgS L 0 w) av od sv sl nz ip ot M0) n) 0 0 (me_A z0) := by
  refine me_open (by decide) (Nat.le_of_ble_eq_true rfl) ?_
  intro p e s m args below meth c ls hC hr hlk hnm hM hl
  have hl : lv_has ls 2 [(0, .ref mo)] := hl
  have hx := hC.1
  have hb := hC.2.1
  have hw := hC.2.2.2.2.1
  obtain ⟨hW, hZ, hT⟩ := id hO
  obtain ⟨hS, hS0, hB, hB0, hL, hL0, hP, hP0, hwb, hwl⟩ := id hW
  refine lv_iconst (v := 0) hx hb dX8_begins_0 (by decide) ?_
  refine lv_istore_n (lv' := [(1, .int 0), (0, .ref mo)]) hx hb dX8_begins_1 rfl hl (by decide) rfl (fun ls hl => ?_)
  have lp_2 : ∀ (r : Nat) (k : Nat) (w1 : Nat → Int32) (H : Heap) (locs : List Loc) (ls : Array Slot), (k + r = L) → (it bgS L 0 w = it bgS r k w1) → (ok1 S B L P T w1) → me_at D z0 (mq tb mo F w1 av od sv sl nz ip ot M0) n s H locs → lv_has ls 2 [(0, .ref mo), (1, .int (nI k))] → W p l e (({ frames := 1, cells := 0, slots := 0, locals := 20 } : Room)) s m args below meth c H locs 0 0 (MQ below (me_Qv D z0 (mq tb mo F (it bgS L 0 w) av od sv sl nz ip ot M0) n) args s 0 0 (me_A z0)) (F0 m 2 ls []) := by
    intro r
    refine Nat.strongRecOn r ?_
    intro r ih_2 k w1 H locs ls hk hq hO1 hM hl
    obtain ⟨hW1, hZ1, hT1⟩ := id hO1
    obtain ⟨hS, hS0, hB, hB0, hL, hL0, hP, hP0, hwb, hwl⟩ := id hW1
    refine lv_iload_n hx hb dX8_begins_2 rfl (lv_at hl 1 rfl) ?_
    refine lv_aload_n hx hb dX8_begins_3 rfl (lv_at hl 0 rfl) ?_
    refine fg_X8_13 hC hM mq_F rfl dX8_begins_4 ?_
    refine lv_bipush (v := 6) hx hb dX8_begins_7 (by decide) ?_
    refine me_iald (k := 6) hC hM mq_w (nx_c 6) (by omega) (by decide) dX8_begins_9 ?_
    refine lv_icmp_ge (tgt := 65) hx hb dX8_begins_10 (by decide) (fun c_1 => ?_) (fun c_1 => ?_)
    · have c_1 := (br_le hL rfl (by omega) (by omega)).mp c_1
      exact me_vret hC hr hlk hM (by rw [hq, show r = 0 by omega]; rfl) (rfl) dX8_begins_65
    · have c_1 := (not_congr (br_le hL rfl (by omega) (by omega))).mp c_1
      obtain ⟨r1, rfl⟩ : ∃ r1, r = r1 + 1 := ⟨r - 1, by omega⟩
      refine lv_aload_n hx hb dX8_begins_13 rfl (lv_at hl 0 rfl) ?_
      refine fg_X8_13 hC hM mq_F rfl dX8_begins_14 ?_
      refine lv_iload_n hx hb dX8_begins_17 rfl (lv_at hl 1 rfl) ?_
      refine me_callSi (As := [.int (nI k)]) (rest := [.ref (mo + 2)]) hC hl.1 hM (c_X8_l l D tb X z0 n _ k ) (ks_X8_93 hw rfl rfl ⟨Nat.le_of_ble_eq_true rfl, Nat.le_of_ble_eq_true rfl⟩) rfl rfl (Nat.le_of_ble_eq_true rfl) dX8_begins_18 ⟨Nat.le_of_ble_eq_true rfl, Nat.le_of_ble_eq_true rfl⟩ (fun H locs hM => ?_)
      refine lv_iconst (v := 4) hx hb dX8_begins_21 (by decide) ?_
      refine lv_iadd hx hb dX8_begins_22 ?_
      refine me_iald (k := 261 + 5 * k + 4) hC hM mq_w (nx_add rfl (nx_c 4)) (by omega) (by decide) dX8_begins_23 ?_
      refine lv_if_ne (tgt := 59) hx hb dX8_begins_24 (by decide) (fun c_2 => ?_) (fun c_2 => ?_)
      · refine lv_iinc (v := nI (k + 1)) (lv' := [(1, .int (nI (k + 1))), (0, .ref mo)]) hx hb dX8_begins_59 hl (k := 1) rfl (nx_add rfl rfl) (by decide) rfl (fun ls hl => ?_)
        refine lv_goto (tgt := 2) hx hb dX8_begins_62 (by decide) ?_
        exact ih_2 r1 (by omega) (k + 1) (bgS k w1) _ _ _ (by omega) hq (ok_bg hO1 (by omega)) (hM.eq (by rw [show bgS k w1 = _ from if_neg (fun z => c_2 z.1)])) (lv_sub hl [1, 0] rfl)
      · refine lv_aload_n hx hb dX8_begins_27 rfl (lv_at hl 0 rfl) ?_
        refine fg_X8_13 hC hM mq_F rfl dX8_begins_28 ?_
        refine lv_iload_n hx hb dX8_begins_31 rfl (lv_at hl 1 rfl) ?_
        refine me_callSi (As := [.int (nI k)]) (rest := [.ref (mo + 2)]) hC hl.1 hM (c_X8_l l D tb X z0 n _ k ) (ks_X8_93 hw rfl rfl ⟨Nat.le_of_ble_eq_true rfl, Nat.le_of_ble_eq_true rfl⟩) rfl rfl (Nat.le_of_ble_eq_true rfl) dX8_begins_32 ⟨Nat.le_of_ble_eq_true rfl, Nat.le_of_ble_eq_true rfl⟩ (fun H locs hM => ?_)
        refine lv_iconst (v := 1) hx hb dX8_begins_35 (by decide) ?_
        refine lv_iadd hx hb dX8_begins_36 ?_
        refine me_iald (k := 261 + 5 * k + 1) hC hM mq_w (nx_add rfl (show (1 : Int32) = nI 1 from rfl)) (by omega) (by decide) dX8_begins_37 ?_
        refine lv_aload_n hx hb dX8_begins_38 rfl (lv_at hl 0 rfl) ?_
        refine fg_X8_13 hC hM mq_F rfl dX8_begins_39 ?_
        refine lv_iconst (v := 2) hx hb dX8_begins_42 (by decide) ?_
        refine me_iald (k := 2) hC hM mq_w (nx_c 2) (by omega) (by decide) dX8_begins_43 ?_
        refine lv_icmp_ne (tgt := 59) hx hb dX8_begins_44 (by decide) (fun c_3 => ?_) (fun c_3 => ?_)
        · refine lv_iinc (v := nI (k + 1)) (lv' := [(1, .int (nI (k + 1))), (0, .ref mo)]) hx hb dX8_begins_59 hl (k := 1) rfl (nx_add rfl rfl) (by decide) rfl (fun ls hl => ?_)
          refine lv_goto (tgt := 2) hx hb dX8_begins_62 (by decide) ?_
          exact ih_2 r1 (by omega) (k + 1) (bgS k w1) _ _ _ (by omega) hq (ok_bg hO1 (by omega)) (hM.eq (by rw [show bgS k w1 = _ from if_neg (fun z => c_3 z.2)])) (lv_sub hl [1, 0] rfl)
        · refine lv_aload_n hx hb dX8_begins_47 rfl (lv_at hl 0 rfl) ?_
          refine fg_X8_13 hC hM mq_F rfl dX8_begins_48 ?_
          refine lv_iload_n hx hb dX8_begins_51 rfl (lv_at hl 1 rfl) ?_
          refine me_callSi (As := [.int (nI k)]) (rest := [.ref (mo + 2)]) hC hl.1 hM (c_X8_l l D tb X z0 n _ k ) (ks_X8_93 hw rfl rfl ⟨Nat.le_of_ble_eq_true rfl, Nat.le_of_ble_eq_true rfl⟩) rfl rfl (Nat.le_of_ble_eq_true rfl) dX8_begins_52 ⟨Nat.le_of_ble_eq_true rfl, Nat.le_of_ble_eq_true rfl⟩ (fun H locs hM => ?_)
          refine lv_iconst (v := 4) hx hb dX8_begins_55 (by decide) ?_
          refine lv_iadd hx hb dX8_begins_56 ?_
          refine lv_iconst (v := 1) hx hb dX8_begins_57 (by decide) ?_
          refine me_iast (k := 261 + 5 * k + 4) (M2 := mq tb mo F (upd w1 (261 + 5 * k + 4) 1) av od sv sl nz ip ot M0) hC hM mq_w (nx_add rfl (nx_c 4)) (by omega) (by decide) mq_w_w dX8_begins_58 (fun H locs hM => ?_)
          refine lv_iinc (v := nI (k + 1)) (lv' := [(1, .int (nI (k + 1))), (0, .ref mo)]) hx hb dX8_begins_59 hl (k := 1) rfl (nx_add rfl rfl) (by decide) rfl (fun ls hl => ?_)
          refine lv_goto (tgt := 2) hx hb dX8_begins_62 (by decide) ?_
          exact ih_2 r1 (by omega) (k + 1) (bgS k w1) _ _ _ (by omega) hq (ok_bg hO1 (by omega)) (hM.eq (by rw [show bgS k w1 = _ from if_pos ⟨c_2, c_3⟩])) (lv_sub hl [1, 0] rfl)
  exact lp_2 L 0 w _ _ _ (by omega) rfl hO hM (lv_sub hl [1, 0] rfl)
set_option maxHeartbeats 4000000 in
theorem c_X8_sounds (l : Launch) (D : va_G) (tb : Nat → ClassId) (X : State → Prop) (z0 n : Nat) (mo : Nat) (F w av od sv sl nz ip ot : Nat → Int32) (M0 : me_M) (S B L P : Nat) (T : Nat)  (hO : ok1 S B L P T w) (hT0 : T ≤ 10200) : Met l yX8_sounds (.code yX8_sounds cX8_sounds 3 none :: ws_all) ({ frames := 5, cells := 0, slots := 0, locals := 109 } : Room) (me_Pc [.ref mo] D tb X z0 (mq tb mo F w av od sv sl nz ip ot M0) n) (me_Qv D z0 (mq tb mo F ((soM S L P w nz).1) av od sv sl ((soM S L P w nz).2) ip ot M0) n) 0 0 (me_A z0) := by
  refine me_open (by decide) (Nat.le_of_ble_eq_true rfl) ?_
  intro p e s m args below meth c ls hC hr hlk hnm hM hl
  have hl : lv_has ls 3 [(0, .ref mo)] := hl
  have hx := hC.1
  have hb := hC.2.1
  have hw := hC.2.2.2.2.1
  obtain ⟨hW, hZ, hT⟩ := id hO
  obtain ⟨hS, hS0, hB, hB0, hL, hL0, hP, hP0, hwb, hwl⟩ := id hW
  refine lv_aload_n hx hb dX8_sounds_0 rfl (lv_at hl 0 rfl) ?_
  refine lv_aload_n hx hb dX8_sounds_1 rfl (lv_at hl 0 rfl) ?_
  refine fg_X8_13 hC hM mq_F rfl dX8_sounds_2 ?_
  refine lv_iconst (v := 2) hx hb dX8_sounds_5 (by decide) ?_
  refine me_iald (k := 2) hC hM mq_w (nx_c 2) (by omega) (by decide) dX8_sounds_6 ?_
  refine me_stk (st2 := [.int (nI T), .ref mo]) (by rw [hT]) ?_
  refine me_callVi (As := [.int (nI T)]) (rest := []) hC hl.1 hM (c_X8_holderAt l D tb X z0 n mo F w av od sv sl nz ip ot M0 L T hL hL0 (by omega) hZ) (kv_X8_109 hw rfl rfl ⟨Nat.le_of_ble_eq_true rfl, Nat.le_of_ble_eq_true rfl⟩) rfl rfl mq_F rfl (Nat.le_of_ble_eq_true rfl) dX8_sounds_7 ⟨Nat.le_of_ble_eq_true rfl, Nat.le_of_ble_eq_true rfl⟩ (fun H locs hM => ?_)
  refine lv_istore_n (lv' := [(1, .int (hoF w L (nI T))), (0, .ref mo)]) hx hb dX8_sounds_10 rfl hl (by decide) rfl (fun ls hl => ?_)
  refine lv_iconst (v := 0) hx hb dX8_sounds_11 (by decide) ?_
  refine lv_istore_n (lv' := [(2, .int 0), (1, .int (hoF w L (nI T))), (0, .ref mo)]) hx hb dX8_sounds_12 rfl hl (by decide) rfl (fun ls hl => ?_)
  have lp_13 : ∀ (r : Nat) (k : Nat) (w1 : Nat → Int32) (nz1 : Nat → Int32) (H : Heap) (locs : List Loc) (ls : Array Slot), (k + r = S) → (it (smS L P (hoF w L (nI T)) (nI T)) S 0 (w, nz) = it (smS L P (hoF w L (nI T)) (nI T)) r k (w1, nz1)) → (ok1 S B L P T w1) → me_at D z0 (mq tb mo F w1 av od sv sl nz1 ip ot M0) n s H locs → lv_has ls 3 [(0, .ref mo), (1, .int (hoF w L (nI T))), (2, .int (nI k))] → W p l e (({ frames := 5, cells := 0, slots := 0, locals := 109 } : Room)) s m args below meth c H locs 0 0 (MQ below (me_Qv D z0 (mq tb mo F ((soM S L P w nz).1) av od sv sl ((soM S L P w nz).2) ip ot M0) n) args s 0 0 (me_A z0)) (F0 m 13 ls []) := by
    intro r
    refine Nat.strongRecOn r ?_
    intro r ih_13 k w1 nz1 H locs ls hk hq hO1 hM hl
    obtain ⟨hW1, hZ1, hT1⟩ := id hO1
    obtain ⟨hS, hS0, hB, hB0, hL, hL0, hP, hP0, hwb, hwl⟩ := id hW1
    refine lv_iload_n hx hb dX8_sounds_13 rfl (lv_at hl 2 rfl) ?_
    refine lv_aload_n hx hb dX8_sounds_14 rfl (lv_at hl 0 rfl) ?_
    refine fg_X8_13 hC hM mq_F rfl dX8_sounds_15 ?_
    refine lv_iconst (v := 3) hx hb dX8_sounds_18 (by decide) ?_
    refine me_iald (k := 3) hC hM mq_w (nx_c 3) (by omega) (by decide) dX8_sounds_19 ?_
    refine lv_icmp_ge (tgt := 99) hx hb dX8_sounds_20 (by decide) (fun c_1 => ?_) (fun c_1 => ?_)
    · have c_1 := (br_le hS rfl (by omega) (by omega)).mp c_1
      exact me_vret hC hr hlk hM (by unfold soM; rw [hT, hq, show r = 0 by omega]; rfl) (rfl) dX8_sounds_99
    · have c_1 := (not_congr (br_le hS rfl (by omega) (by omega))).mp c_1
      obtain ⟨r1, rfl⟩ : ∃ r1, r = r1 + 1 := ⟨r - 1, by omega⟩
      refine lv_aload_n hx hb dX8_sounds_23 rfl (lv_at hl 0 rfl) ?_
      refine fg_X8_28 hC hM mq_F rfl dX8_sounds_24 ?_
      refine lv_iload_n hx hb dX8_sounds_27 rfl (lv_at hl 2 rfl) ?_
      refine lv_aload_n hx hb dX8_sounds_28 rfl (lv_at hl 0 rfl) ?_
      refine lv_iload_n hx hb dX8_sounds_29 rfl (lv_at hl 2 rfl) ?_
      refine lv_aload_n hx hb dX8_sounds_30 rfl (lv_at hl 0 rfl) ?_
      refine fg_X8_13 hC hM mq_F rfl dX8_sounds_31 ?_
      refine lv_iconst (v := 2) hx hb dX8_sounds_34 (by decide) ?_
      refine me_iald (k := 2) hC hM mq_w (nx_c 2) (by omega) (by decide) dX8_sounds_35 ?_
      refine me_stk (st2 := [.int (nI T), .int (nI k), .ref mo, .int (nI k), .ref (mo + 7)]) (by rw [hT1]) ?_
      refine me_callVi (As := [.int (nI k), .int (nI T)]) (rest := [.int (nI k), .ref (mo + 7)]) hC hl.1 hM (c_X8_plannedNoise l D tb X z0 n mo F w1 av od sv sl nz1 ip ot M0 S B L P k T hW1 hZ1 (by omega) (by omega)) (kv_X8_144 hw rfl rfl ⟨Nat.le_of_ble_eq_true rfl, Nat.le_of_ble_eq_true rfl⟩) rfl rfl mq_F rfl (Nat.le_of_ble_eq_true rfl) dX8_sounds_36 ⟨Nat.le_of_ble_eq_true rfl, Nat.le_of_ble_eq_true rfl⟩ (fun H locs hM => ?_)
      refine me_iast (k := k) (M2 := mq tb mo F w1 av od sv sl (upd nz1 (k) (noF w1 L P k (nI T))) ip ot M0) hC hM mq_nz rfl (by omega) (by decide) mq_w_nz dX8_sounds_39 (fun H locs hM => ?_)
      refine lv_aload_n hx hb dX8_sounds_40 rfl (lv_at hl 0 rfl) ?_
      refine fg_X8_13 hC hM mq_F rfl dX8_sounds_41 ?_
      refine lv_iload_n hx hb dX8_sounds_44 rfl (lv_at hl 2 rfl) ?_
      refine me_callSi (As := [.int (nI k)]) (rest := [.ref (mo + 2)]) hC hl.1 hM (c_X8_s l D tb X z0 n _ k ) (ks_X8_71 hw rfl rfl ⟨Nat.le_of_ble_eq_true rfl, Nat.le_of_ble_eq_true rfl⟩) rfl rfl (Nat.le_of_ble_eq_true rfl) dX8_sounds_45 ⟨Nat.le_of_ble_eq_true rfl, Nat.le_of_ble_eq_true rfl⟩ (fun H locs hM => ?_)
      refine lv_iconst (v := 2) hx hb dX8_sounds_48 (by decide) ?_
      refine lv_iadd hx hb dX8_sounds_49 ?_
      refine lv_dup2_11 hx hb dX8_sounds_50 rfl rfl ?_
      refine me_iald (k := 9 + 10 * k + 2) hC hM mq_w (nx_add rfl (nx_c 2)) (by omega) (by decide) dX8_sounds_51 ?_
      refine lv_aload_n hx hb dX8_sounds_52 rfl (lv_at hl 0 rfl) ?_
      refine fg_X8_28 hC hM mq_F rfl dX8_sounds_53 ?_
      refine lv_iload_n hx hb dX8_sounds_56 rfl (lv_at hl 2 rfl) ?_
      refine me_iald (k := k) hC hM mq_nz rfl (by omega) (by decide) dX8_sounds_57 ?_
      refine me_evi (y := noF w1 L P k (nI T)) (upd_s _ _ _) ?_
      refine lv_iadd hx hb dX8_sounds_58 ?_
      refine me_iast (k := 9 + 10 * k + 2) (M2 := mq tb mo F (upd w1 (9 + 10 * k + 2) ((w1 (9 + 10 * k + 2)) + (noF w1 L P k (nI T)))) av od sv sl (upd nz1 (k) (noF w1 L P k (nI T))) ip ot M0) hC hM mq_w (nx_add rfl (nx_c 2)) (by omega) (by decide) mq_w_w dX8_sounds_59 (fun H locs hM => ?_)
      refine lv_aload_n hx hb dX8_sounds_60 rfl (lv_at hl 0 rfl) ?_
      refine fg_X8_13 hC hM mq_F rfl dX8_sounds_61 ?_
      refine lv_iload_n hx hb dX8_sounds_64 rfl (lv_at hl 2 rfl) ?_
      refine me_callSi (As := [.int (nI k)]) (rest := [.ref (mo + 2)]) hC hl.1 hM (c_X8_s l D tb X z0 n _ k ) (ks_X8_71 hw rfl rfl ⟨Nat.le_of_ble_eq_true rfl, Nat.le_of_ble_eq_true rfl⟩) rfl rfl (Nat.le_of_ble_eq_true rfl) dX8_sounds_65 ⟨Nat.le_of_ble_eq_true rfl, Nat.le_of_ble_eq_true rfl⟩ (fun H locs hM => ?_)
      refine lv_iconst (v := 3) hx hb dX8_sounds_68 (by decide) ?_
      refine lv_iadd hx hb dX8_sounds_69 ?_
      refine lv_dup2_11 hx hb dX8_sounds_70 rfl rfl ?_
      refine me_iald (k := 9 + 10 * k + 3) hC hM mq_w (nx_add rfl (nx_c 3)) (by omega) (by decide) dX8_sounds_71 ?_
      refine me_evi (y := w1 (9 + 10 * k + 3)) (upd_n (by omega)) ?_
      refine lv_iload_n hx hb dX8_sounds_72 rfl (lv_at hl 1 rfl) ?_
      refine lv_iconst (v := (-1)) hx hb dX8_sounds_73 (by decide) ?_
      refine lv_icmp_eq (tgt := 90) hx hb dX8_sounds_74 (by decide) (fun c_2 => ?_) (fun c_2 => ?_)
      · refine lv_iconst (v := 0) hx hb dX8_sounds_90 (by decide) ?_
        refine lv_iadd hx hb dX8_sounds_91 ?_
        refine me_iast (k := 9 + 10 * k + 3) (M2 := mq tb mo F (upd (upd w1 (9 + 10 * k + 2) ((w1 (9 + 10 * k + 2)) + (noF w1 L P k (nI T)))) (9 + 10 * k + 3) ((w1 (9 + 10 * k + 3)) + 0)) av od sv sl (upd nz1 (k) (noF w1 L P k (nI T))) ip ot M0) hC hM mq_w (nx_add rfl (nx_c 3)) (by omega) (by decide) mq_w_w dX8_sounds_92 (fun H locs hM => ?_)
        refine lv_iinc (v := nI (k + 1)) (lv' := [(2, .int (nI (k + 1))), (0, .ref mo), (1, .int (hoF w L (nI T)))]) hx hb dX8_sounds_93 hl (k := 2) rfl (nx_add rfl rfl) (by decide) rfl (fun ls hl => ?_)
        refine lv_goto (tgt := 13) hx hb dX8_sounds_96 (by decide) ?_
        exact ih_13 r1 (by omega) (k + 1) (smW L P (hoF w L (nI T)) (nI T) k w1) (smN L P (nI T) k w1 nz1) _ _ _ (by omega) hq (ok_sm hO1 (by omega)) (hM.eq (by unfold smW smN; rw [if_neg (fun z => z.1 c_2)])) (lv_sub hl [1, 2, 0] rfl)
      · obtain ⟨kk, hkk0, hkk, -⟩ := hoF_le w L (nI T) (by omega) c_2
        have hct : (hoF w L (nI T)).toNatClampNeg = kk := by rw [hkk]; exact nI_clamp (by omega)
        have hkl_ := hwl kk hkk0
        have hW4 : wf (upd w1 (9 + 10 * k + 2) (w1 (9 + 10 * k + 2) + noF w1 L P k (nI T))) S B L P := wf_upd hW1 (by omega) (fun b hb => by omega) (fun j hj => by omega)
        refine lv_aload_n hx hb dX8_sounds_77 rfl (lv_at hl 0 rfl) ?_
        refine lv_iload_n hx hb dX8_sounds_78 rfl (lv_at hl 1 rfl) ?_
        refine me_stk (st2 := [.int (nI kk), .ref mo, .int (w1 (9 + 10 * k + 3)), .int ((nI (9 + 10 * k)) + 3), .ref (mo + 2)]) (by rw [hkk]) ?_
        refine me_callVi (As := [.int (nI kk)]) (rest := [.int (w1 (9 + 10 * k + 3)), .int ((nI (9 + 10 * k)) + 3), .ref (mo + 2)]) hC hl.1 hM (c_X8_loanStreet l D tb X z0 n mo F (upd w1 (9 + 10 * k + 2) ((w1 (9 + 10 * k + 2)) + (noF w1 L P k (nI T)))) av od sv sl (upd nz1 (k) (noF w1 L P k (nI T))) ip ot M0 S B L P kk hW4 (by omega)) (kv_X8_112 hw rfl rfl ⟨Nat.le_of_ble_eq_true rfl, Nat.le_of_ble_eq_true rfl⟩) rfl rfl mq_F rfl (Nat.le_of_ble_eq_true rfl) dX8_sounds_79 ⟨Nat.le_of_ble_eq_true rfl, Nat.le_of_ble_eq_true rfl⟩ (fun H locs hM => ?_)
        refine me_evi (y := w1 (89 + 11 * ow w1 kk)) (by rw [show ow (upd w1 (9 + 10 * k + 2) (w1 (9 + 10 * k + 2) + noF w1 L P k (nI T))) kk = ow w1 kk from by unfold ow; rw [upd_n (by omega)]]; exact upd_n (by omega)) ?_
        refine lv_iload_n hx hb dX8_sounds_82 rfl (lv_at hl 2 rfl) ?_
        refine lv_icmp_ne (tgt := 90) hx hb dX8_sounds_83 (by decide) (fun c_3 => ?_) (fun c_3 => ?_)
        · refine lv_iconst (v := 0) hx hb dX8_sounds_90 (by decide) ?_
          refine lv_iadd hx hb dX8_sounds_91 ?_
          refine me_iast (k := 9 + 10 * k + 3) (M2 := mq tb mo F (upd (upd w1 (9 + 10 * k + 2) ((w1 (9 + 10 * k + 2)) + (noF w1 L P k (nI T)))) (9 + 10 * k + 3) ((w1 (9 + 10 * k + 3)) + 0)) av od sv sl (upd nz1 (k) (noF w1 L P k (nI T))) ip ot M0) hC hM mq_w (nx_add rfl (nx_c 3)) (by omega) (by decide) mq_w_w dX8_sounds_92 (fun H locs hM => ?_)
          refine lv_iinc (v := nI (k + 1)) (lv' := [(2, .int (nI (k + 1))), (0, .ref mo), (1, .int (hoF w L (nI T)))]) hx hb dX8_sounds_93 hl (k := 2) rfl (nx_add rfl rfl) (by decide) rfl (fun ls hl => ?_)
          refine lv_goto (tgt := 13) hx hb dX8_sounds_96 (by decide) ?_
          exact ih_13 r1 (by omega) (k + 1) (smW L P (hoF w L (nI T)) (nI T) k w1) (smN L P (nI T) k w1 nz1) _ _ _ (by omega) hq (ok_sm hO1 (by omega)) (hM.eq (by unfold smW smN; rw [if_neg (fun z => c_3 (by rw [hct] at z; exact z.2))])) (lv_sub hl [1, 2, 0] rfl)
        · refine lv_iconst (v := 1) hx hb dX8_sounds_86 (by decide) ?_
          refine lv_goto (tgt := 91) hx hb dX8_sounds_87 (by decide) ?_
          refine lv_iadd hx hb dX8_sounds_91 ?_
          refine me_iast (k := 9 + 10 * k + 3) (M2 := mq tb mo F (upd (upd w1 (9 + 10 * k + 2) ((w1 (9 + 10 * k + 2)) + (noF w1 L P k (nI T)))) (9 + 10 * k + 3) ((w1 (9 + 10 * k + 3)) + 1)) av od sv sl (upd nz1 (k) (noF w1 L P k (nI T))) ip ot M0) hC hM mq_w (nx_add rfl (nx_c 3)) (by omega) (by decide) mq_w_w dX8_sounds_92 (fun H locs hM => ?_)
          refine lv_iinc (v := nI (k + 1)) (lv' := [(2, .int (nI (k + 1))), (0, .ref mo), (1, .int (hoF w L (nI T)))]) hx hb dX8_sounds_93 hl (k := 2) rfl (nx_add rfl rfl) (by decide) rfl (fun ls hl => ?_)
          refine lv_goto (tgt := 13) hx hb dX8_sounds_96 (by decide) ?_
          exact ih_13 r1 (by omega) (k + 1) (smW L P (hoF w L (nI T)) (nI T) k w1) (smN L P (nI T) k w1 nz1) _ _ _ (by omega) hq (ok_sm hO1 (by omega)) (hM.eq (by unfold smW smN; rw [if_pos ⟨c_2, by rw [hct]; exact c_3⟩])) (lv_sub hl [1, 2, 0] rfl)
  exact lp_13 S 0 w nz _ _ _ (by omega) rfl hO hM (lv_sub hl [2, 1, 0] rfl)
set_option maxHeartbeats 4000000 in
theorem c_X8_feels (l : Launch) (D : va_G) (tb : Nat → ClassId) (X : State → Prop) (z0 n : Nat) (mo : Nat) (F w av od sv sl nz ip ot : Nat → Int32) (M0 : me_M) (S B L P : Nat) (k : Nat)  (hW : wf w S B L P) (hk : k < B) : Met l yX8_feels (.code yX8_feels cX8_feels 4 none :: ws_all) ({ frames := 2, cells := 0, slots := 0, locals := 41 } : Room) (me_Pc [.ref mo, .int (nI k)] D tb X z0 (mq tb mo F w av od sv sl nz ip ot M0) n) (me_Qv D z0 (mq tb mo F (feS nz k w) av od sv sl nz ip ot M0) n) 0 0 (me_A z0) := by
  refine me_open (by decide) (Nat.le_of_ble_eq_true rfl) ?_
  intro p e s m args below meth c ls hC hr hlk hnm hM hl
  have hl : lv_has ls 4 [(0, .ref mo), (1, .int (nI k))] := hl
  have hx := hC.1
  have hb := hC.2.1
  have hw := hC.2.2.2.2.1
  obtain ⟨hS, hS0, hB, hB0, hL, hL0, hP, hP0, hwb, hwl⟩ := id hW
  have hkb_ := hwb k (by omega)
  refine lv_iload_n hx hb dX8_feels_0 rfl (lv_at hl 1 rfl) ?_
  refine me_callSi (As := [.int (nI k)]) (rest := []) hC hl.1 hM (c_X8_b l D tb X z0 n _ k ) (ks_X8_78 hw rfl rfl ⟨Nat.le_of_ble_eq_true rfl, Nat.le_of_ble_eq_true rfl⟩) rfl rfl (Nat.le_of_ble_eq_true rfl) dX8_feels_1 ⟨Nat.le_of_ble_eq_true rfl, Nat.le_of_ble_eq_true rfl⟩ (fun H locs hM => ?_)
  refine lv_istore_n (lv' := [(2, .int (nI (89 + 11 * k))), (0, .ref mo), (1, .int (nI k))]) hx hb dX8_feels_4 rfl hl (by decide) rfl (fun ls hl => ?_)
  refine lv_aload_n hx hb dX8_feels_5 rfl (lv_at hl 1 rfl) ?_
  refine fg_X8_28 hC hM mq_F rfl dX8_feels_6 ?_
  refine lv_aload_n hx hb dX8_feels_9 rfl (lv_at hl 1 rfl) ?_
  refine lv_iload_n hx hb dX8_feels_10 rfl (lv_at hl 2 rfl) ?_
  refine me_callVi (As := [.int (nI k)]) (rest := [.ref (mo + 7)]) hC hl.1 hM (c_X8_homeOf l D tb X z0 n mo F w av od sv sl nz ip ot M0 k (by omega)) (kv_X8_106 hw rfl rfl ⟨Nat.le_of_ble_eq_true rfl, Nat.le_of_ble_eq_true rfl⟩) rfl rfl mq_F rfl (Nat.le_of_ble_eq_true rfl) dX8_feels_11 ⟨Nat.le_of_ble_eq_true rfl, Nat.le_of_ble_eq_true rfl⟩ (fun H locs hM => ?_)
  refine me_iald (k := hm w k) hC hM mq_nz (hwb k (by omega)).1 (by omega) (by decide) dX8_feels_14 ?_
  refine lv_istore_n (lv' := [(3, .int (nz (hm w k))), (2, .int (nI (89 + 11 * k))), (0, .ref mo), (1, .int (nI k))]) hx hb dX8_feels_15 rfl hl (by decide) rfl (fun ls hl => ?_)
  refine lv_aload_n hx hb dX8_feels_16 rfl (lv_at hl 2 rfl) ?_
  refine fg_X8_13 hC hM mq_F rfl dX8_feels_17 ?_
  refine lv_iload_n hx hb dX8_feels_20 rfl (lv_at hl 1 rfl) ?_
  refine lv_iconst (v := 3) hx hb dX8_feels_21 (by decide) ?_
  refine lv_iadd hx hb dX8_feels_22 ?_
  refine lv_dup2_11 hx hb dX8_feels_23 rfl rfl ?_
  refine me_iald (k := 89 + 11 * k + 3) hC hM mq_w (nx_add rfl (nx_c 3)) (by omega) (by decide) dX8_feels_24 ?_
  refine lv_iload_n hx hb dX8_feels_25 rfl (lv_at hl 0 rfl) ?_
  refine lv_if_ne (tgt := 33) hx hb dX8_feels_26 (by decide) (fun c_1 => ?_) (fun c_1 => ?_)
  · refine lv_iconst (v := 0) hx hb dX8_feels_33 (by decide) ?_
    refine lv_iadd hx hb dX8_feels_34 ?_
    refine me_iast (k := 89 + 11 * k + 3) (M2 := mq tb mo F (upd w (89 + 11 * k + 3) ((w (89 + 11 * k + 3)) + 0)) av od sv sl nz ip ot M0) hC hM mq_w (nx_add rfl (nx_c 3)) (by omega) (by decide) mq_w_w dX8_feels_35 (fun H locs hM => ?_)
    have hM := hM.eq (M2 := mq tb mo F (fe1 (nz (hm w k)) k w) av od sv sl nz ip ot M0) (by unfold fe1; rw [if_neg c_1])
    refine lv_aload_n hx hb dX8_feels_36 rfl (lv_at hl 2 rfl) ?_
    refine fg_X8_13 hC hM mq_F rfl dX8_feels_37 ?_
    refine lv_iload_n hx hb dX8_feels_40 rfl (lv_at hl 1 rfl) ?_
    refine lv_iconst (v := 3) hx hb dX8_feels_41 (by decide) ?_
    refine lv_iadd hx hb dX8_feels_42 ?_
    refine me_iald (k := 89 + 11 * k + 3) hC hM mq_w (nx_add rfl (nx_c 3)) (by omega) (by decide) dX8_feels_43 ?_
    refine lv_bipush (v := 6) hx hb dX8_feels_44 (by decide) ?_
    refine lv_icmp_ne (tgt := 85) hx hb dX8_feels_46 (by decide) (fun c_2 => ?_) (fun c_2 => ?_)
    · have hM := hM.eq (M2 := mq tb mo F (fe2 k (fe1 (nz (hm w k)) k w)) av od sv sl nz ip ot M0) (by unfold fe2; rw [if_neg c_2])
      refine lv_aload_n hx hb dX8_feels_85 rfl (lv_at hl 2 rfl) ?_
      refine fg_X8_13 hC hM mq_F rfl dX8_feels_86 ?_
      refine lv_iload_n hx hb dX8_feels_89 rfl (lv_at hl 1 rfl) ?_
      refine lv_iconst (v := 4) hx hb dX8_feels_90 (by decide) ?_
      refine lv_iadd hx hb dX8_feels_91 ?_
      refine lv_dup2_11 hx hb dX8_feels_92 rfl rfl ?_
      refine me_iald (k := 89 + 11 * k + 4) hC hM mq_w (nx_add rfl (nx_c 4)) (by omega) (by decide) dX8_feels_93 ?_
      refine lv_iload_n hx hb dX8_feels_94 rfl (lv_at hl 0 rfl) ?_
      refine lv_bipush (v := 80) hx hb dX8_feels_95 (by decide) ?_
      refine lv_icmp_lt (tgt := 104) hx hb dX8_feels_97 (by decide) (fun c_3 => ?_) (fun c_3 => ?_)
      · have c_3q := Int32.not_le.mpr c_3
        refine lv_iconst (v := 0) hx hb dX8_feels_104 (by decide) ?_
        refine lv_iadd hx hb dX8_feels_105 ?_
        refine me_iast (k := 89 + 11 * k + 4) (M2 := mq tb mo F (upd (fe2 k (fe1 (nz (hm w k)) k w)) (89 + 11 * k + 4) (((fe2 k (fe1 (nz (hm w k)) k w)) (89 + 11 * k + 4)) + 0)) av od sv sl nz ip ot M0) hC hM mq_w (nx_add rfl (nx_c 4)) (by omega) (by decide) mq_w_w dX8_feels_106 (fun H locs hM => ?_)
        have hM := hM.eq (M2 := mq tb mo F (fe3 (nz (hm w k)) k (fe2 k (fe1 (nz (hm w k)) k w))) av od sv sl nz ip ot M0) (by unfold fe3; rw [if_pos c_3])
        refine lv_aload_n hx hb dX8_feels_107 rfl (lv_at hl 2 rfl) ?_
        refine fg_X8_13 hC hM mq_F rfl dX8_feels_108 ?_
        refine lv_iload_n hx hb dX8_feels_111 rfl (lv_at hl 1 rfl) ?_
        refine lv_iconst (v := 4) hx hb dX8_feels_112 (by decide) ?_
        refine lv_iadd hx hb dX8_feels_113 ?_
        refine me_iald (k := 89 + 11 * k + 4) hC hM mq_w (nx_add rfl (nx_c 4)) (by omega) (by decide) dX8_feels_114 ?_
        refine lv_bipush (v := 12) hx hb dX8_feels_115 (by decide) ?_
        refine lv_icmp_ne (tgt := 158) hx hb dX8_feels_117 (by decide) (fun c_4 => ?_) (fun c_4 => ?_)
        · exact me_vret hC hr hlk hM (by unfold feS fe4; rw [if_neg c_4]) (rfl) dX8_feels_158
        · refine lv_aload_n hx hb dX8_feels_120 rfl (lv_at hl 2 rfl) ?_
          refine fg_X8_13 hC hM mq_F rfl dX8_feels_121 ?_
          refine lv_iload_n hx hb dX8_feels_124 rfl (lv_at hl 1 rfl) ?_
          refine lv_iconst (v := 4) hx hb dX8_feels_125 (by decide) ?_
          refine lv_iadd hx hb dX8_feels_126 ?_
          refine lv_iconst (v := 0) hx hb dX8_feels_127 (by decide) ?_
          refine me_iast (k := 89 + 11 * k + 4) (M2 := mq tb mo F (upd (fe3 (nz (hm w k)) k (fe2 k (fe1 (nz (hm w k)) k w))) (89 + 11 * k + 4) 0) av od sv sl nz ip ot M0) hC hM mq_w (nx_add rfl (nx_c 4)) (by omega) (by decide) mq_w_w dX8_feels_128 (fun H locs hM => ?_)
          refine lv_aload_n hx hb dX8_feels_129 rfl (lv_at hl 2 rfl) ?_
          refine fg_X8_13 hC hM mq_F rfl dX8_feels_130 ?_
          refine lv_iload_n hx hb dX8_feels_133 rfl (lv_at hl 1 rfl) ?_
          refine lv_iconst (v := 1) hx hb dX8_feels_134 (by decide) ?_
          refine lv_iadd hx hb dX8_feels_135 ?_
          refine lv_dup2_11 hx hb dX8_feels_136 rfl rfl ?_
          refine me_iald (k := 89 + 11 * k + 1) hC hM mq_w (nx_add rfl (show (1 : Int32) = nI 1 from rfl)) (by omega) (by decide) dX8_feels_137 ?_
          refine me_evi (y := (fe3 (nz (hm w k)) k (fe2 k (fe1 (nz (hm w k)) k w))) (89 + 11 * k + 1)) (upd_n (by omega)) ?_
          refine lv_aload_n hx hb dX8_feels_138 rfl (lv_at hl 2 rfl) ?_
          refine fg_X8_13 hC hM mq_F rfl dX8_feels_139 ?_
          refine lv_iload_n hx hb dX8_feels_142 rfl (lv_at hl 1 rfl) ?_
          refine lv_iconst (v := 1) hx hb dX8_feels_143 (by decide) ?_
          refine lv_iadd hx hb dX8_feels_144 ?_
          refine me_iald (k := 89 + 11 * k + 1) hC hM mq_w (nx_add rfl (show (1 : Int32) = nI 1 from rfl)) (by omega) (by decide) dX8_feels_145 ?_
          refine me_evi (y := (fe3 (nz (hm w k)) k (fe2 k (fe1 (nz (hm w k)) k w))) (89 + 11 * k + 1)) (upd_n (by omega)) ?_
          refine lv_bipush (v := 9) hx hb dX8_feels_146 (by decide) ?_
          refine lv_icmp_ge (tgt := 155) hx hb dX8_feels_148 (by decide) (fun c_5 => ?_) (fun c_5 => ?_)
          · have c_5q := c_5
            have c_5 := Int32.not_lt.mpr c_5
            refine lv_iconst (v := 0) hx hb dX8_feels_155 (by decide) ?_
            refine lv_iadd hx hb dX8_feels_156 ?_
            refine me_iast (k := 89 + 11 * k + 1) (M2 := mq tb mo F (upd (upd (fe3 (nz (hm w k)) k (fe2 k (fe1 (nz (hm w k)) k w))) (89 + 11 * k + 4) 0) (89 + 11 * k + 1) (((fe3 (nz (hm w k)) k (fe2 k (fe1 (nz (hm w k)) k w))) (89 + 11 * k + 1)) + 0)) av od sv sl nz ip ot M0) hC hM mq_w (nx_add rfl (show (1 : Int32) = nI 1 from rfl)) (by omega) (by decide) mq_w_w dX8_feels_157 (fun H locs hM => ?_)
            exact me_vret hC hr hlk hM (by unfold feS fe4; rw [if_pos c_4, if_neg c_5]) (rfl) dX8_feels_158
          · have c_5q := c_5
            have c_5 := Int32.not_le.mp c_5
            refine lv_iconst (v := 1) hx hb dX8_feels_151 (by decide) ?_
            refine lv_goto (tgt := 156) hx hb dX8_feels_152 (by decide) ?_
            refine lv_iadd hx hb dX8_feels_156 ?_
            refine me_iast (k := 89 + 11 * k + 1) (M2 := mq tb mo F (upd (upd (fe3 (nz (hm w k)) k (fe2 k (fe1 (nz (hm w k)) k w))) (89 + 11 * k + 4) 0) (89 + 11 * k + 1) (((fe3 (nz (hm w k)) k (fe2 k (fe1 (nz (hm w k)) k w))) (89 + 11 * k + 1)) + 1)) av od sv sl nz ip ot M0) hC hM mq_w (nx_add rfl (show (1 : Int32) = nI 1 from rfl)) (by omega) (by decide) mq_w_w dX8_feels_157 (fun H locs hM => ?_)
            exact me_vret hC hr hlk hM (by unfold feS fe4; rw [if_pos c_4, if_pos c_5]) (rfl) dX8_feels_158
      · have c_3q := Int32.not_lt.mp c_3
        refine lv_iconst (v := 1) hx hb dX8_feels_100 (by decide) ?_
        refine lv_goto (tgt := 105) hx hb dX8_feels_101 (by decide) ?_
        refine lv_iadd hx hb dX8_feels_105 ?_
        refine me_iast (k := 89 + 11 * k + 4) (M2 := mq tb mo F (upd (fe2 k (fe1 (nz (hm w k)) k w)) (89 + 11 * k + 4) (((fe2 k (fe1 (nz (hm w k)) k w)) (89 + 11 * k + 4)) + 1)) av od sv sl nz ip ot M0) hC hM mq_w (nx_add rfl (nx_c 4)) (by omega) (by decide) mq_w_w dX8_feels_106 (fun H locs hM => ?_)
        have hM := hM.eq (M2 := mq tb mo F (fe3 (nz (hm w k)) k (fe2 k (fe1 (nz (hm w k)) k w))) av od sv sl nz ip ot M0) (by unfold fe3; rw [if_neg c_3])
        refine lv_aload_n hx hb dX8_feels_107 rfl (lv_at hl 2 rfl) ?_
        refine fg_X8_13 hC hM mq_F rfl dX8_feels_108 ?_
        refine lv_iload_n hx hb dX8_feels_111 rfl (lv_at hl 1 rfl) ?_
        refine lv_iconst (v := 4) hx hb dX8_feels_112 (by decide) ?_
        refine lv_iadd hx hb dX8_feels_113 ?_
        refine me_iald (k := 89 + 11 * k + 4) hC hM mq_w (nx_add rfl (nx_c 4)) (by omega) (by decide) dX8_feels_114 ?_
        refine lv_bipush (v := 12) hx hb dX8_feels_115 (by decide) ?_
        refine lv_icmp_ne (tgt := 158) hx hb dX8_feels_117 (by decide) (fun c_6 => ?_) (fun c_6 => ?_)
        · exact me_vret hC hr hlk hM (by unfold feS fe4; rw [if_neg c_6]) (rfl) dX8_feels_158
        · refine lv_aload_n hx hb dX8_feels_120 rfl (lv_at hl 2 rfl) ?_
          refine fg_X8_13 hC hM mq_F rfl dX8_feels_121 ?_
          refine lv_iload_n hx hb dX8_feels_124 rfl (lv_at hl 1 rfl) ?_
          refine lv_iconst (v := 4) hx hb dX8_feels_125 (by decide) ?_
          refine lv_iadd hx hb dX8_feels_126 ?_
          refine lv_iconst (v := 0) hx hb dX8_feels_127 (by decide) ?_
          refine me_iast (k := 89 + 11 * k + 4) (M2 := mq tb mo F (upd (fe3 (nz (hm w k)) k (fe2 k (fe1 (nz (hm w k)) k w))) (89 + 11 * k + 4) 0) av od sv sl nz ip ot M0) hC hM mq_w (nx_add rfl (nx_c 4)) (by omega) (by decide) mq_w_w dX8_feels_128 (fun H locs hM => ?_)
          refine lv_aload_n hx hb dX8_feels_129 rfl (lv_at hl 2 rfl) ?_
          refine fg_X8_13 hC hM mq_F rfl dX8_feels_130 ?_
          refine lv_iload_n hx hb dX8_feels_133 rfl (lv_at hl 1 rfl) ?_
          refine lv_iconst (v := 1) hx hb dX8_feels_134 (by decide) ?_
          refine lv_iadd hx hb dX8_feels_135 ?_
          refine lv_dup2_11 hx hb dX8_feels_136 rfl rfl ?_
          refine me_iald (k := 89 + 11 * k + 1) hC hM mq_w (nx_add rfl (show (1 : Int32) = nI 1 from rfl)) (by omega) (by decide) dX8_feels_137 ?_
          refine me_evi (y := (fe3 (nz (hm w k)) k (fe2 k (fe1 (nz (hm w k)) k w))) (89 + 11 * k + 1)) (upd_n (by omega)) ?_
          refine lv_aload_n hx hb dX8_feels_138 rfl (lv_at hl 2 rfl) ?_
          refine fg_X8_13 hC hM mq_F rfl dX8_feels_139 ?_
          refine lv_iload_n hx hb dX8_feels_142 rfl (lv_at hl 1 rfl) ?_
          refine lv_iconst (v := 1) hx hb dX8_feels_143 (by decide) ?_
          refine lv_iadd hx hb dX8_feels_144 ?_
          refine me_iald (k := 89 + 11 * k + 1) hC hM mq_w (nx_add rfl (show (1 : Int32) = nI 1 from rfl)) (by omega) (by decide) dX8_feels_145 ?_
          refine me_evi (y := (fe3 (nz (hm w k)) k (fe2 k (fe1 (nz (hm w k)) k w))) (89 + 11 * k + 1)) (upd_n (by omega)) ?_
          refine lv_bipush (v := 9) hx hb dX8_feels_146 (by decide) ?_
          refine lv_icmp_ge (tgt := 155) hx hb dX8_feels_148 (by decide) (fun c_7 => ?_) (fun c_7 => ?_)
          · have c_7q := c_7
            have c_7 := Int32.not_lt.mpr c_7
            refine lv_iconst (v := 0) hx hb dX8_feels_155 (by decide) ?_
            refine lv_iadd hx hb dX8_feels_156 ?_
            refine me_iast (k := 89 + 11 * k + 1) (M2 := mq tb mo F (upd (upd (fe3 (nz (hm w k)) k (fe2 k (fe1 (nz (hm w k)) k w))) (89 + 11 * k + 4) 0) (89 + 11 * k + 1) (((fe3 (nz (hm w k)) k (fe2 k (fe1 (nz (hm w k)) k w))) (89 + 11 * k + 1)) + 0)) av od sv sl nz ip ot M0) hC hM mq_w (nx_add rfl (show (1 : Int32) = nI 1 from rfl)) (by omega) (by decide) mq_w_w dX8_feels_157 (fun H locs hM => ?_)
            exact me_vret hC hr hlk hM (by unfold feS fe4; rw [if_pos c_6, if_neg c_7]) (rfl) dX8_feels_158
          · have c_7q := c_7
            have c_7 := Int32.not_le.mp c_7
            refine lv_iconst (v := 1) hx hb dX8_feels_151 (by decide) ?_
            refine lv_goto (tgt := 156) hx hb dX8_feels_152 (by decide) ?_
            refine lv_iadd hx hb dX8_feels_156 ?_
            refine me_iast (k := 89 + 11 * k + 1) (M2 := mq tb mo F (upd (upd (fe3 (nz (hm w k)) k (fe2 k (fe1 (nz (hm w k)) k w))) (89 + 11 * k + 4) 0) (89 + 11 * k + 1) (((fe3 (nz (hm w k)) k (fe2 k (fe1 (nz (hm w k)) k w))) (89 + 11 * k + 1)) + 1)) av od sv sl nz ip ot M0) hC hM mq_w (nx_add rfl (show (1 : Int32) = nI 1 from rfl)) (by omega) (by decide) mq_w_w dX8_feels_157 (fun H locs hM => ?_)
            exact me_vret hC hr hlk hM (by unfold feS fe4; rw [if_pos c_6, if_pos c_7]) (rfl) dX8_feels_158
    · refine lv_aload_n hx hb dX8_feels_49 rfl (lv_at hl 2 rfl) ?_
      refine fg_X8_13 hC hM mq_F rfl dX8_feels_50 ?_
      refine lv_iload_n hx hb dX8_feels_53 rfl (lv_at hl 1 rfl) ?_
      refine lv_iconst (v := 3) hx hb dX8_feels_54 (by decide) ?_
      refine lv_iadd hx hb dX8_feels_55 ?_
      refine lv_iconst (v := 0) hx hb dX8_feels_56 (by decide) ?_
      refine me_iast (k := 89 + 11 * k + 3) (M2 := mq tb mo F (upd (fe1 (nz (hm w k)) k w) (89 + 11 * k + 3) 0) av od sv sl nz ip ot M0) hC hM mq_w (nx_add rfl (nx_c 3)) (by omega) (by decide) mq_w_w dX8_feels_57 (fun H locs hM => ?_)
      refine lv_aload_n hx hb dX8_feels_58 rfl (lv_at hl 2 rfl) ?_
      refine fg_X8_13 hC hM mq_F rfl dX8_feels_59 ?_
      refine lv_iload_n hx hb dX8_feels_62 rfl (lv_at hl 1 rfl) ?_
      refine lv_iconst (v := 1) hx hb dX8_feels_63 (by decide) ?_
      refine lv_iadd hx hb dX8_feels_64 ?_
      refine lv_dup2_11 hx hb dX8_feels_65 rfl rfl ?_
      refine me_iald (k := 89 + 11 * k + 1) hC hM mq_w (nx_add rfl (show (1 : Int32) = nI 1 from rfl)) (by omega) (by decide) dX8_feels_66 ?_
      refine me_evi (y := (fe1 (nz (hm w k)) k w) (89 + 11 * k + 1)) (upd_n (by omega)) ?_
      refine lv_aload_n hx hb dX8_feels_67 rfl (lv_at hl 2 rfl) ?_
      refine fg_X8_13 hC hM mq_F rfl dX8_feels_68 ?_
      refine lv_iload_n hx hb dX8_feels_71 rfl (lv_at hl 1 rfl) ?_
      refine lv_iconst (v := 1) hx hb dX8_feels_72 (by decide) ?_
      refine lv_iadd hx hb dX8_feels_73 ?_
      refine me_iald (k := 89 + 11 * k + 1) hC hM mq_w (nx_add rfl (show (1 : Int32) = nI 1 from rfl)) (by omega) (by decide) dX8_feels_74 ?_
      refine me_evi (y := (fe1 (nz (hm w k)) k w) (89 + 11 * k + 1)) (upd_n (by omega)) ?_
      refine lv_if_le (tgt := 82) hx hb dX8_feels_75 (by decide) (fun c_8 => ?_) (fun c_8 => ?_)
      · have c_8q := c_8
        have c_8 := Int32.not_lt.mpr c_8
        refine lv_iconst (v := 0) hx hb dX8_feels_82 (by decide) ?_
        refine lv_isub hx hb dX8_feels_83 ?_
        refine me_iast (k := 89 + 11 * k + 1) (M2 := mq tb mo F (upd (upd (fe1 (nz (hm w k)) k w) (89 + 11 * k + 3) 0) (89 + 11 * k + 1) (((fe1 (nz (hm w k)) k w) (89 + 11 * k + 1)) - 0)) av od sv sl nz ip ot M0) hC hM mq_w (nx_add rfl (show (1 : Int32) = nI 1 from rfl)) (by omega) (by decide) mq_w_w dX8_feels_84 (fun H locs hM => ?_)
        have hM := hM.eq (M2 := mq tb mo F (fe2 k (fe1 (nz (hm w k)) k w)) av od sv sl nz ip ot M0) (by unfold fe2; rw [if_pos c_2, if_neg c_8])
        refine lv_aload_n hx hb dX8_feels_85 rfl (lv_at hl 2 rfl) ?_
        refine fg_X8_13 hC hM mq_F rfl dX8_feels_86 ?_
        refine lv_iload_n hx hb dX8_feels_89 rfl (lv_at hl 1 rfl) ?_
        refine lv_iconst (v := 4) hx hb dX8_feels_90 (by decide) ?_
        refine lv_iadd hx hb dX8_feels_91 ?_
        refine lv_dup2_11 hx hb dX8_feels_92 rfl rfl ?_
        refine me_iald (k := 89 + 11 * k + 4) hC hM mq_w (nx_add rfl (nx_c 4)) (by omega) (by decide) dX8_feels_93 ?_
        refine lv_iload_n hx hb dX8_feels_94 rfl (lv_at hl 0 rfl) ?_
        refine lv_bipush (v := 80) hx hb dX8_feels_95 (by decide) ?_
        refine lv_icmp_lt (tgt := 104) hx hb dX8_feels_97 (by decide) (fun c_9 => ?_) (fun c_9 => ?_)
        · have c_9q := Int32.not_le.mpr c_9
          refine lv_iconst (v := 0) hx hb dX8_feels_104 (by decide) ?_
          refine lv_iadd hx hb dX8_feels_105 ?_
          refine me_iast (k := 89 + 11 * k + 4) (M2 := mq tb mo F (upd (fe2 k (fe1 (nz (hm w k)) k w)) (89 + 11 * k + 4) (((fe2 k (fe1 (nz (hm w k)) k w)) (89 + 11 * k + 4)) + 0)) av od sv sl nz ip ot M0) hC hM mq_w (nx_add rfl (nx_c 4)) (by omega) (by decide) mq_w_w dX8_feels_106 (fun H locs hM => ?_)
          have hM := hM.eq (M2 := mq tb mo F (fe3 (nz (hm w k)) k (fe2 k (fe1 (nz (hm w k)) k w))) av od sv sl nz ip ot M0) (by unfold fe3; rw [if_pos c_9])
          refine lv_aload_n hx hb dX8_feels_107 rfl (lv_at hl 2 rfl) ?_
          refine fg_X8_13 hC hM mq_F rfl dX8_feels_108 ?_
          refine lv_iload_n hx hb dX8_feels_111 rfl (lv_at hl 1 rfl) ?_
          refine lv_iconst (v := 4) hx hb dX8_feels_112 (by decide) ?_
          refine lv_iadd hx hb dX8_feels_113 ?_
          refine me_iald (k := 89 + 11 * k + 4) hC hM mq_w (nx_add rfl (nx_c 4)) (by omega) (by decide) dX8_feels_114 ?_
          refine lv_bipush (v := 12) hx hb dX8_feels_115 (by decide) ?_
          refine lv_icmp_ne (tgt := 158) hx hb dX8_feels_117 (by decide) (fun c_10 => ?_) (fun c_10 => ?_)
          · exact me_vret hC hr hlk hM (by unfold feS fe4; rw [if_neg c_10]) (rfl) dX8_feels_158
          · refine lv_aload_n hx hb dX8_feels_120 rfl (lv_at hl 2 rfl) ?_
            refine fg_X8_13 hC hM mq_F rfl dX8_feels_121 ?_
            refine lv_iload_n hx hb dX8_feels_124 rfl (lv_at hl 1 rfl) ?_
            refine lv_iconst (v := 4) hx hb dX8_feels_125 (by decide) ?_
            refine lv_iadd hx hb dX8_feels_126 ?_
            refine lv_iconst (v := 0) hx hb dX8_feels_127 (by decide) ?_
            refine me_iast (k := 89 + 11 * k + 4) (M2 := mq tb mo F (upd (fe3 (nz (hm w k)) k (fe2 k (fe1 (nz (hm w k)) k w))) (89 + 11 * k + 4) 0) av od sv sl nz ip ot M0) hC hM mq_w (nx_add rfl (nx_c 4)) (by omega) (by decide) mq_w_w dX8_feels_128 (fun H locs hM => ?_)
            refine lv_aload_n hx hb dX8_feels_129 rfl (lv_at hl 2 rfl) ?_
            refine fg_X8_13 hC hM mq_F rfl dX8_feels_130 ?_
            refine lv_iload_n hx hb dX8_feels_133 rfl (lv_at hl 1 rfl) ?_
            refine lv_iconst (v := 1) hx hb dX8_feels_134 (by decide) ?_
            refine lv_iadd hx hb dX8_feels_135 ?_
            refine lv_dup2_11 hx hb dX8_feels_136 rfl rfl ?_
            refine me_iald (k := 89 + 11 * k + 1) hC hM mq_w (nx_add rfl (show (1 : Int32) = nI 1 from rfl)) (by omega) (by decide) dX8_feels_137 ?_
            refine me_evi (y := (fe3 (nz (hm w k)) k (fe2 k (fe1 (nz (hm w k)) k w))) (89 + 11 * k + 1)) (upd_n (by omega)) ?_
            refine lv_aload_n hx hb dX8_feels_138 rfl (lv_at hl 2 rfl) ?_
            refine fg_X8_13 hC hM mq_F rfl dX8_feels_139 ?_
            refine lv_iload_n hx hb dX8_feels_142 rfl (lv_at hl 1 rfl) ?_
            refine lv_iconst (v := 1) hx hb dX8_feels_143 (by decide) ?_
            refine lv_iadd hx hb dX8_feels_144 ?_
            refine me_iald (k := 89 + 11 * k + 1) hC hM mq_w (nx_add rfl (show (1 : Int32) = nI 1 from rfl)) (by omega) (by decide) dX8_feels_145 ?_
            refine me_evi (y := (fe3 (nz (hm w k)) k (fe2 k (fe1 (nz (hm w k)) k w))) (89 + 11 * k + 1)) (upd_n (by omega)) ?_
            refine lv_bipush (v := 9) hx hb dX8_feels_146 (by decide) ?_
            refine lv_icmp_ge (tgt := 155) hx hb dX8_feels_148 (by decide) (fun c_11 => ?_) (fun c_11 => ?_)
            · have c_11q := c_11
              have c_11 := Int32.not_lt.mpr c_11
              refine lv_iconst (v := 0) hx hb dX8_feels_155 (by decide) ?_
              refine lv_iadd hx hb dX8_feels_156 ?_
              refine me_iast (k := 89 + 11 * k + 1) (M2 := mq tb mo F (upd (upd (fe3 (nz (hm w k)) k (fe2 k (fe1 (nz (hm w k)) k w))) (89 + 11 * k + 4) 0) (89 + 11 * k + 1) (((fe3 (nz (hm w k)) k (fe2 k (fe1 (nz (hm w k)) k w))) (89 + 11 * k + 1)) + 0)) av od sv sl nz ip ot M0) hC hM mq_w (nx_add rfl (show (1 : Int32) = nI 1 from rfl)) (by omega) (by decide) mq_w_w dX8_feels_157 (fun H locs hM => ?_)
              exact me_vret hC hr hlk hM (by unfold feS fe4; rw [if_pos c_10, if_neg c_11]) (rfl) dX8_feels_158
            · have c_11q := c_11
              have c_11 := Int32.not_le.mp c_11
              refine lv_iconst (v := 1) hx hb dX8_feels_151 (by decide) ?_
              refine lv_goto (tgt := 156) hx hb dX8_feels_152 (by decide) ?_
              refine lv_iadd hx hb dX8_feels_156 ?_
              refine me_iast (k := 89 + 11 * k + 1) (M2 := mq tb mo F (upd (upd (fe3 (nz (hm w k)) k (fe2 k (fe1 (nz (hm w k)) k w))) (89 + 11 * k + 4) 0) (89 + 11 * k + 1) (((fe3 (nz (hm w k)) k (fe2 k (fe1 (nz (hm w k)) k w))) (89 + 11 * k + 1)) + 1)) av od sv sl nz ip ot M0) hC hM mq_w (nx_add rfl (show (1 : Int32) = nI 1 from rfl)) (by omega) (by decide) mq_w_w dX8_feels_157 (fun H locs hM => ?_)
              exact me_vret hC hr hlk hM (by unfold feS fe4; rw [if_pos c_10, if_pos c_11]) (rfl) dX8_feels_158
        · have c_9q := Int32.not_lt.mp c_9
          refine lv_iconst (v := 1) hx hb dX8_feels_100 (by decide) ?_
          refine lv_goto (tgt := 105) hx hb dX8_feels_101 (by decide) ?_
          refine lv_iadd hx hb dX8_feels_105 ?_
          refine me_iast (k := 89 + 11 * k + 4) (M2 := mq tb mo F (upd (fe2 k (fe1 (nz (hm w k)) k w)) (89 + 11 * k + 4) (((fe2 k (fe1 (nz (hm w k)) k w)) (89 + 11 * k + 4)) + 1)) av od sv sl nz ip ot M0) hC hM mq_w (nx_add rfl (nx_c 4)) (by omega) (by decide) mq_w_w dX8_feels_106 (fun H locs hM => ?_)
          have hM := hM.eq (M2 := mq tb mo F (fe3 (nz (hm w k)) k (fe2 k (fe1 (nz (hm w k)) k w))) av od sv sl nz ip ot M0) (by unfold fe3; rw [if_neg c_9])
          refine lv_aload_n hx hb dX8_feels_107 rfl (lv_at hl 2 rfl) ?_
          refine fg_X8_13 hC hM mq_F rfl dX8_feels_108 ?_
          refine lv_iload_n hx hb dX8_feels_111 rfl (lv_at hl 1 rfl) ?_
          refine lv_iconst (v := 4) hx hb dX8_feels_112 (by decide) ?_
          refine lv_iadd hx hb dX8_feels_113 ?_
          refine me_iald (k := 89 + 11 * k + 4) hC hM mq_w (nx_add rfl (nx_c 4)) (by omega) (by decide) dX8_feels_114 ?_
          refine lv_bipush (v := 12) hx hb dX8_feels_115 (by decide) ?_
          refine lv_icmp_ne (tgt := 158) hx hb dX8_feels_117 (by decide) (fun c_12 => ?_) (fun c_12 => ?_)
          · exact me_vret hC hr hlk hM (by unfold feS fe4; rw [if_neg c_12]) (rfl) dX8_feels_158
          · refine lv_aload_n hx hb dX8_feels_120 rfl (lv_at hl 2 rfl) ?_
            refine fg_X8_13 hC hM mq_F rfl dX8_feels_121 ?_
            refine lv_iload_n hx hb dX8_feels_124 rfl (lv_at hl 1 rfl) ?_
            refine lv_iconst (v := 4) hx hb dX8_feels_125 (by decide) ?_
            refine lv_iadd hx hb dX8_feels_126 ?_
            refine lv_iconst (v := 0) hx hb dX8_feels_127 (by decide) ?_
            refine me_iast (k := 89 + 11 * k + 4) (M2 := mq tb mo F (upd (fe3 (nz (hm w k)) k (fe2 k (fe1 (nz (hm w k)) k w))) (89 + 11 * k + 4) 0) av od sv sl nz ip ot M0) hC hM mq_w (nx_add rfl (nx_c 4)) (by omega) (by decide) mq_w_w dX8_feels_128 (fun H locs hM => ?_)
            refine lv_aload_n hx hb dX8_feels_129 rfl (lv_at hl 2 rfl) ?_
            refine fg_X8_13 hC hM mq_F rfl dX8_feels_130 ?_
            refine lv_iload_n hx hb dX8_feels_133 rfl (lv_at hl 1 rfl) ?_
            refine lv_iconst (v := 1) hx hb dX8_feels_134 (by decide) ?_
            refine lv_iadd hx hb dX8_feels_135 ?_
            refine lv_dup2_11 hx hb dX8_feels_136 rfl rfl ?_
            refine me_iald (k := 89 + 11 * k + 1) hC hM mq_w (nx_add rfl (show (1 : Int32) = nI 1 from rfl)) (by omega) (by decide) dX8_feels_137 ?_
            refine me_evi (y := (fe3 (nz (hm w k)) k (fe2 k (fe1 (nz (hm w k)) k w))) (89 + 11 * k + 1)) (upd_n (by omega)) ?_
            refine lv_aload_n hx hb dX8_feels_138 rfl (lv_at hl 2 rfl) ?_
            refine fg_X8_13 hC hM mq_F rfl dX8_feels_139 ?_
            refine lv_iload_n hx hb dX8_feels_142 rfl (lv_at hl 1 rfl) ?_
            refine lv_iconst (v := 1) hx hb dX8_feels_143 (by decide) ?_
            refine lv_iadd hx hb dX8_feels_144 ?_
            refine me_iald (k := 89 + 11 * k + 1) hC hM mq_w (nx_add rfl (show (1 : Int32) = nI 1 from rfl)) (by omega) (by decide) dX8_feels_145 ?_
            refine me_evi (y := (fe3 (nz (hm w k)) k (fe2 k (fe1 (nz (hm w k)) k w))) (89 + 11 * k + 1)) (upd_n (by omega)) ?_
            refine lv_bipush (v := 9) hx hb dX8_feels_146 (by decide) ?_
            refine lv_icmp_ge (tgt := 155) hx hb dX8_feels_148 (by decide) (fun c_13 => ?_) (fun c_13 => ?_)
            · have c_13q := c_13
              have c_13 := Int32.not_lt.mpr c_13
              refine lv_iconst (v := 0) hx hb dX8_feels_155 (by decide) ?_
              refine lv_iadd hx hb dX8_feels_156 ?_
              refine me_iast (k := 89 + 11 * k + 1) (M2 := mq tb mo F (upd (upd (fe3 (nz (hm w k)) k (fe2 k (fe1 (nz (hm w k)) k w))) (89 + 11 * k + 4) 0) (89 + 11 * k + 1) (((fe3 (nz (hm w k)) k (fe2 k (fe1 (nz (hm w k)) k w))) (89 + 11 * k + 1)) + 0)) av od sv sl nz ip ot M0) hC hM mq_w (nx_add rfl (show (1 : Int32) = nI 1 from rfl)) (by omega) (by decide) mq_w_w dX8_feels_157 (fun H locs hM => ?_)
              exact me_vret hC hr hlk hM (by unfold feS fe4; rw [if_pos c_12, if_neg c_13]) (rfl) dX8_feels_158
            · have c_13q := c_13
              have c_13 := Int32.not_le.mp c_13
              refine lv_iconst (v := 1) hx hb dX8_feels_151 (by decide) ?_
              refine lv_goto (tgt := 156) hx hb dX8_feels_152 (by decide) ?_
              refine lv_iadd hx hb dX8_feels_156 ?_
              refine me_iast (k := 89 + 11 * k + 1) (M2 := mq tb mo F (upd (upd (fe3 (nz (hm w k)) k (fe2 k (fe1 (nz (hm w k)) k w))) (89 + 11 * k + 4) 0) (89 + 11 * k + 1) (((fe3 (nz (hm w k)) k (fe2 k (fe1 (nz (hm w k)) k w))) (89 + 11 * k + 1)) + 1)) av od sv sl nz ip ot M0) hC hM mq_w (nx_add rfl (show (1 : Int32) = nI 1 from rfl)) (by omega) (by decide) mq_w_w dX8_feels_157 (fun H locs hM => ?_)
              exact me_vret hC hr hlk hM (by unfold feS fe4; rw [if_pos c_12, if_pos c_13]) (rfl) dX8_feels_158
      · have c_8q := c_8
        have c_8 := Int32.not_le.mp c_8
        refine lv_iconst (v := 1) hx hb dX8_feels_78 (by decide) ?_
        refine lv_goto (tgt := 83) hx hb dX8_feels_79 (by decide) ?_
        refine lv_isub hx hb dX8_feels_83 ?_
        refine me_iast (k := 89 + 11 * k + 1) (M2 := mq tb mo F (upd (upd (fe1 (nz (hm w k)) k w) (89 + 11 * k + 3) 0) (89 + 11 * k + 1) (((fe1 (nz (hm w k)) k w) (89 + 11 * k + 1)) - 1)) av od sv sl nz ip ot M0) hC hM mq_w (nx_add rfl (show (1 : Int32) = nI 1 from rfl)) (by omega) (by decide) mq_w_w dX8_feels_84 (fun H locs hM => ?_)
        have hM := hM.eq (M2 := mq tb mo F (fe2 k (fe1 (nz (hm w k)) k w)) av od sv sl nz ip ot M0) (by unfold fe2; rw [if_pos c_2, if_pos c_8])
        refine lv_aload_n hx hb dX8_feels_85 rfl (lv_at hl 2 rfl) ?_
        refine fg_X8_13 hC hM mq_F rfl dX8_feels_86 ?_
        refine lv_iload_n hx hb dX8_feels_89 rfl (lv_at hl 1 rfl) ?_
        refine lv_iconst (v := 4) hx hb dX8_feels_90 (by decide) ?_
        refine lv_iadd hx hb dX8_feels_91 ?_
        refine lv_dup2_11 hx hb dX8_feels_92 rfl rfl ?_
        refine me_iald (k := 89 + 11 * k + 4) hC hM mq_w (nx_add rfl (nx_c 4)) (by omega) (by decide) dX8_feels_93 ?_
        refine lv_iload_n hx hb dX8_feels_94 rfl (lv_at hl 0 rfl) ?_
        refine lv_bipush (v := 80) hx hb dX8_feels_95 (by decide) ?_
        refine lv_icmp_lt (tgt := 104) hx hb dX8_feels_97 (by decide) (fun c_14 => ?_) (fun c_14 => ?_)
        · have c_14q := Int32.not_le.mpr c_14
          refine lv_iconst (v := 0) hx hb dX8_feels_104 (by decide) ?_
          refine lv_iadd hx hb dX8_feels_105 ?_
          refine me_iast (k := 89 + 11 * k + 4) (M2 := mq tb mo F (upd (fe2 k (fe1 (nz (hm w k)) k w)) (89 + 11 * k + 4) (((fe2 k (fe1 (nz (hm w k)) k w)) (89 + 11 * k + 4)) + 0)) av od sv sl nz ip ot M0) hC hM mq_w (nx_add rfl (nx_c 4)) (by omega) (by decide) mq_w_w dX8_feels_106 (fun H locs hM => ?_)
          have hM := hM.eq (M2 := mq tb mo F (fe3 (nz (hm w k)) k (fe2 k (fe1 (nz (hm w k)) k w))) av od sv sl nz ip ot M0) (by unfold fe3; rw [if_pos c_14])
          refine lv_aload_n hx hb dX8_feels_107 rfl (lv_at hl 2 rfl) ?_
          refine fg_X8_13 hC hM mq_F rfl dX8_feels_108 ?_
          refine lv_iload_n hx hb dX8_feels_111 rfl (lv_at hl 1 rfl) ?_
          refine lv_iconst (v := 4) hx hb dX8_feels_112 (by decide) ?_
          refine lv_iadd hx hb dX8_feels_113 ?_
          refine me_iald (k := 89 + 11 * k + 4) hC hM mq_w (nx_add rfl (nx_c 4)) (by omega) (by decide) dX8_feels_114 ?_
          refine lv_bipush (v := 12) hx hb dX8_feels_115 (by decide) ?_
          refine lv_icmp_ne (tgt := 158) hx hb dX8_feels_117 (by decide) (fun c_15 => ?_) (fun c_15 => ?_)
          · exact me_vret hC hr hlk hM (by unfold feS fe4; rw [if_neg c_15]) (rfl) dX8_feels_158
          · refine lv_aload_n hx hb dX8_feels_120 rfl (lv_at hl 2 rfl) ?_
            refine fg_X8_13 hC hM mq_F rfl dX8_feels_121 ?_
            refine lv_iload_n hx hb dX8_feels_124 rfl (lv_at hl 1 rfl) ?_
            refine lv_iconst (v := 4) hx hb dX8_feels_125 (by decide) ?_
            refine lv_iadd hx hb dX8_feels_126 ?_
            refine lv_iconst (v := 0) hx hb dX8_feels_127 (by decide) ?_
            refine me_iast (k := 89 + 11 * k + 4) (M2 := mq tb mo F (upd (fe3 (nz (hm w k)) k (fe2 k (fe1 (nz (hm w k)) k w))) (89 + 11 * k + 4) 0) av od sv sl nz ip ot M0) hC hM mq_w (nx_add rfl (nx_c 4)) (by omega) (by decide) mq_w_w dX8_feels_128 (fun H locs hM => ?_)
            refine lv_aload_n hx hb dX8_feels_129 rfl (lv_at hl 2 rfl) ?_
            refine fg_X8_13 hC hM mq_F rfl dX8_feels_130 ?_
            refine lv_iload_n hx hb dX8_feels_133 rfl (lv_at hl 1 rfl) ?_
            refine lv_iconst (v := 1) hx hb dX8_feels_134 (by decide) ?_
            refine lv_iadd hx hb dX8_feels_135 ?_
            refine lv_dup2_11 hx hb dX8_feels_136 rfl rfl ?_
            refine me_iald (k := 89 + 11 * k + 1) hC hM mq_w (nx_add rfl (show (1 : Int32) = nI 1 from rfl)) (by omega) (by decide) dX8_feels_137 ?_
            refine me_evi (y := (fe3 (nz (hm w k)) k (fe2 k (fe1 (nz (hm w k)) k w))) (89 + 11 * k + 1)) (upd_n (by omega)) ?_
            refine lv_aload_n hx hb dX8_feels_138 rfl (lv_at hl 2 rfl) ?_
            refine fg_X8_13 hC hM mq_F rfl dX8_feels_139 ?_
            refine lv_iload_n hx hb dX8_feels_142 rfl (lv_at hl 1 rfl) ?_
            refine lv_iconst (v := 1) hx hb dX8_feels_143 (by decide) ?_
            refine lv_iadd hx hb dX8_feels_144 ?_
            refine me_iald (k := 89 + 11 * k + 1) hC hM mq_w (nx_add rfl (show (1 : Int32) = nI 1 from rfl)) (by omega) (by decide) dX8_feels_145 ?_
            refine me_evi (y := (fe3 (nz (hm w k)) k (fe2 k (fe1 (nz (hm w k)) k w))) (89 + 11 * k + 1)) (upd_n (by omega)) ?_
            refine lv_bipush (v := 9) hx hb dX8_feels_146 (by decide) ?_
            refine lv_icmp_ge (tgt := 155) hx hb dX8_feels_148 (by decide) (fun c_16 => ?_) (fun c_16 => ?_)
            · have c_16q := c_16
              have c_16 := Int32.not_lt.mpr c_16
              refine lv_iconst (v := 0) hx hb dX8_feels_155 (by decide) ?_
              refine lv_iadd hx hb dX8_feels_156 ?_
              refine me_iast (k := 89 + 11 * k + 1) (M2 := mq tb mo F (upd (upd (fe3 (nz (hm w k)) k (fe2 k (fe1 (nz (hm w k)) k w))) (89 + 11 * k + 4) 0) (89 + 11 * k + 1) (((fe3 (nz (hm w k)) k (fe2 k (fe1 (nz (hm w k)) k w))) (89 + 11 * k + 1)) + 0)) av od sv sl nz ip ot M0) hC hM mq_w (nx_add rfl (show (1 : Int32) = nI 1 from rfl)) (by omega) (by decide) mq_w_w dX8_feels_157 (fun H locs hM => ?_)
              exact me_vret hC hr hlk hM (by unfold feS fe4; rw [if_pos c_15, if_neg c_16]) (rfl) dX8_feels_158
            · have c_16q := c_16
              have c_16 := Int32.not_le.mp c_16
              refine lv_iconst (v := 1) hx hb dX8_feels_151 (by decide) ?_
              refine lv_goto (tgt := 156) hx hb dX8_feels_152 (by decide) ?_
              refine lv_iadd hx hb dX8_feels_156 ?_
              refine me_iast (k := 89 + 11 * k + 1) (M2 := mq tb mo F (upd (upd (fe3 (nz (hm w k)) k (fe2 k (fe1 (nz (hm w k)) k w))) (89 + 11 * k + 4) 0) (89 + 11 * k + 1) (((fe3 (nz (hm w k)) k (fe2 k (fe1 (nz (hm w k)) k w))) (89 + 11 * k + 1)) + 1)) av od sv sl nz ip ot M0) hC hM mq_w (nx_add rfl (show (1 : Int32) = nI 1 from rfl)) (by omega) (by decide) mq_w_w dX8_feels_157 (fun H locs hM => ?_)
              exact me_vret hC hr hlk hM (by unfold feS fe4; rw [if_pos c_15, if_pos c_16]) (rfl) dX8_feels_158
        · have c_14q := Int32.not_lt.mp c_14
          refine lv_iconst (v := 1) hx hb dX8_feels_100 (by decide) ?_
          refine lv_goto (tgt := 105) hx hb dX8_feels_101 (by decide) ?_
          refine lv_iadd hx hb dX8_feels_105 ?_
          refine me_iast (k := 89 + 11 * k + 4) (M2 := mq tb mo F (upd (fe2 k (fe1 (nz (hm w k)) k w)) (89 + 11 * k + 4) (((fe2 k (fe1 (nz (hm w k)) k w)) (89 + 11 * k + 4)) + 1)) av od sv sl nz ip ot M0) hC hM mq_w (nx_add rfl (nx_c 4)) (by omega) (by decide) mq_w_w dX8_feels_106 (fun H locs hM => ?_)
          have hM := hM.eq (M2 := mq tb mo F (fe3 (nz (hm w k)) k (fe2 k (fe1 (nz (hm w k)) k w))) av od sv sl nz ip ot M0) (by unfold fe3; rw [if_neg c_14])
          refine lv_aload_n hx hb dX8_feels_107 rfl (lv_at hl 2 rfl) ?_
          refine fg_X8_13 hC hM mq_F rfl dX8_feels_108 ?_
          refine lv_iload_n hx hb dX8_feels_111 rfl (lv_at hl 1 rfl) ?_
          refine lv_iconst (v := 4) hx hb dX8_feels_112 (by decide) ?_
          refine lv_iadd hx hb dX8_feels_113 ?_
          refine me_iald (k := 89 + 11 * k + 4) hC hM mq_w (nx_add rfl (nx_c 4)) (by omega) (by decide) dX8_feels_114 ?_
          refine lv_bipush (v := 12) hx hb dX8_feels_115 (by decide) ?_
          refine lv_icmp_ne (tgt := 158) hx hb dX8_feels_117 (by decide) (fun c_17 => ?_) (fun c_17 => ?_)
          · exact me_vret hC hr hlk hM (by unfold feS fe4; rw [if_neg c_17]) (rfl) dX8_feels_158
          · refine lv_aload_n hx hb dX8_feels_120 rfl (lv_at hl 2 rfl) ?_
            refine fg_X8_13 hC hM mq_F rfl dX8_feels_121 ?_
            refine lv_iload_n hx hb dX8_feels_124 rfl (lv_at hl 1 rfl) ?_
            refine lv_iconst (v := 4) hx hb dX8_feels_125 (by decide) ?_
            refine lv_iadd hx hb dX8_feels_126 ?_
            refine lv_iconst (v := 0) hx hb dX8_feels_127 (by decide) ?_
            refine me_iast (k := 89 + 11 * k + 4) (M2 := mq tb mo F (upd (fe3 (nz (hm w k)) k (fe2 k (fe1 (nz (hm w k)) k w))) (89 + 11 * k + 4) 0) av od sv sl nz ip ot M0) hC hM mq_w (nx_add rfl (nx_c 4)) (by omega) (by decide) mq_w_w dX8_feels_128 (fun H locs hM => ?_)
            refine lv_aload_n hx hb dX8_feels_129 rfl (lv_at hl 2 rfl) ?_
            refine fg_X8_13 hC hM mq_F rfl dX8_feels_130 ?_
            refine lv_iload_n hx hb dX8_feels_133 rfl (lv_at hl 1 rfl) ?_
            refine lv_iconst (v := 1) hx hb dX8_feels_134 (by decide) ?_
            refine lv_iadd hx hb dX8_feels_135 ?_
            refine lv_dup2_11 hx hb dX8_feels_136 rfl rfl ?_
            refine me_iald (k := 89 + 11 * k + 1) hC hM mq_w (nx_add rfl (show (1 : Int32) = nI 1 from rfl)) (by omega) (by decide) dX8_feels_137 ?_
            refine me_evi (y := (fe3 (nz (hm w k)) k (fe2 k (fe1 (nz (hm w k)) k w))) (89 + 11 * k + 1)) (upd_n (by omega)) ?_
            refine lv_aload_n hx hb dX8_feels_138 rfl (lv_at hl 2 rfl) ?_
            refine fg_X8_13 hC hM mq_F rfl dX8_feels_139 ?_
            refine lv_iload_n hx hb dX8_feels_142 rfl (lv_at hl 1 rfl) ?_
            refine lv_iconst (v := 1) hx hb dX8_feels_143 (by decide) ?_
            refine lv_iadd hx hb dX8_feels_144 ?_
            refine me_iald (k := 89 + 11 * k + 1) hC hM mq_w (nx_add rfl (show (1 : Int32) = nI 1 from rfl)) (by omega) (by decide) dX8_feels_145 ?_
            refine me_evi (y := (fe3 (nz (hm w k)) k (fe2 k (fe1 (nz (hm w k)) k w))) (89 + 11 * k + 1)) (upd_n (by omega)) ?_
            refine lv_bipush (v := 9) hx hb dX8_feels_146 (by decide) ?_
            refine lv_icmp_ge (tgt := 155) hx hb dX8_feels_148 (by decide) (fun c_18 => ?_) (fun c_18 => ?_)
            · have c_18q := c_18
              have c_18 := Int32.not_lt.mpr c_18
              refine lv_iconst (v := 0) hx hb dX8_feels_155 (by decide) ?_
              refine lv_iadd hx hb dX8_feels_156 ?_
              refine me_iast (k := 89 + 11 * k + 1) (M2 := mq tb mo F (upd (upd (fe3 (nz (hm w k)) k (fe2 k (fe1 (nz (hm w k)) k w))) (89 + 11 * k + 4) 0) (89 + 11 * k + 1) (((fe3 (nz (hm w k)) k (fe2 k (fe1 (nz (hm w k)) k w))) (89 + 11 * k + 1)) + 0)) av od sv sl nz ip ot M0) hC hM mq_w (nx_add rfl (show (1 : Int32) = nI 1 from rfl)) (by omega) (by decide) mq_w_w dX8_feels_157 (fun H locs hM => ?_)
              exact me_vret hC hr hlk hM (by unfold feS fe4; rw [if_pos c_17, if_neg c_18]) (rfl) dX8_feels_158
            · have c_18q := c_18
              have c_18 := Int32.not_le.mp c_18
              refine lv_iconst (v := 1) hx hb dX8_feels_151 (by decide) ?_
              refine lv_goto (tgt := 156) hx hb dX8_feels_152 (by decide) ?_
              refine lv_iadd hx hb dX8_feels_156 ?_
              refine me_iast (k := 89 + 11 * k + 1) (M2 := mq tb mo F (upd (upd (fe3 (nz (hm w k)) k (fe2 k (fe1 (nz (hm w k)) k w))) (89 + 11 * k + 4) 0) (89 + 11 * k + 1) (((fe3 (nz (hm w k)) k (fe2 k (fe1 (nz (hm w k)) k w))) (89 + 11 * k + 1)) + 1)) av od sv sl nz ip ot M0) hC hM mq_w (nx_add rfl (show (1 : Int32) = nI 1 from rfl)) (by omega) (by decide) mq_w_w dX8_feels_157 (fun H locs hM => ?_)
              exact me_vret hC hr hlk hM (by unfold feS fe4; rw [if_pos c_17, if_pos c_18]) (rfl) dX8_feels_158
  · refine lv_iconst (v := 1) hx hb dX8_feels_29 (by decide) ?_
    refine lv_goto (tgt := 34) hx hb dX8_feels_30 (by decide) ?_
    refine lv_iadd hx hb dX8_feels_34 ?_
    refine me_iast (k := 89 + 11 * k + 3) (M2 := mq tb mo F (upd w (89 + 11 * k + 3) ((w (89 + 11 * k + 3)) + 1)) av od sv sl nz ip ot M0) hC hM mq_w (nx_add rfl (nx_c 3)) (by omega) (by decide) mq_w_w dX8_feels_35 (fun H locs hM => ?_)
    have hM := hM.eq (M2 := mq tb mo F (fe1 (nz (hm w k)) k w) av od sv sl nz ip ot M0) (by unfold fe1; rw [if_pos c_1])
    refine lv_aload_n hx hb dX8_feels_36 rfl (lv_at hl 2 rfl) ?_
    refine fg_X8_13 hC hM mq_F rfl dX8_feels_37 ?_
    refine lv_iload_n hx hb dX8_feels_40 rfl (lv_at hl 1 rfl) ?_
    refine lv_iconst (v := 3) hx hb dX8_feels_41 (by decide) ?_
    refine lv_iadd hx hb dX8_feels_42 ?_
    refine me_iald (k := 89 + 11 * k + 3) hC hM mq_w (nx_add rfl (nx_c 3)) (by omega) (by decide) dX8_feels_43 ?_
    refine lv_bipush (v := 6) hx hb dX8_feels_44 (by decide) ?_
    refine lv_icmp_ne (tgt := 85) hx hb dX8_feels_46 (by decide) (fun c_19 => ?_) (fun c_19 => ?_)
    · have hM := hM.eq (M2 := mq tb mo F (fe2 k (fe1 (nz (hm w k)) k w)) av od sv sl nz ip ot M0) (by unfold fe2; rw [if_neg c_19])
      refine lv_aload_n hx hb dX8_feels_85 rfl (lv_at hl 2 rfl) ?_
      refine fg_X8_13 hC hM mq_F rfl dX8_feels_86 ?_
      refine lv_iload_n hx hb dX8_feels_89 rfl (lv_at hl 1 rfl) ?_
      refine lv_iconst (v := 4) hx hb dX8_feels_90 (by decide) ?_
      refine lv_iadd hx hb dX8_feels_91 ?_
      refine lv_dup2_11 hx hb dX8_feels_92 rfl rfl ?_
      refine me_iald (k := 89 + 11 * k + 4) hC hM mq_w (nx_add rfl (nx_c 4)) (by omega) (by decide) dX8_feels_93 ?_
      refine lv_iload_n hx hb dX8_feels_94 rfl (lv_at hl 0 rfl) ?_
      refine lv_bipush (v := 80) hx hb dX8_feels_95 (by decide) ?_
      refine lv_icmp_lt (tgt := 104) hx hb dX8_feels_97 (by decide) (fun c_20 => ?_) (fun c_20 => ?_)
      · have c_20q := Int32.not_le.mpr c_20
        refine lv_iconst (v := 0) hx hb dX8_feels_104 (by decide) ?_
        refine lv_iadd hx hb dX8_feels_105 ?_
        refine me_iast (k := 89 + 11 * k + 4) (M2 := mq tb mo F (upd (fe2 k (fe1 (nz (hm w k)) k w)) (89 + 11 * k + 4) (((fe2 k (fe1 (nz (hm w k)) k w)) (89 + 11 * k + 4)) + 0)) av od sv sl nz ip ot M0) hC hM mq_w (nx_add rfl (nx_c 4)) (by omega) (by decide) mq_w_w dX8_feels_106 (fun H locs hM => ?_)
        have hM := hM.eq (M2 := mq tb mo F (fe3 (nz (hm w k)) k (fe2 k (fe1 (nz (hm w k)) k w))) av od sv sl nz ip ot M0) (by unfold fe3; rw [if_pos c_20])
        refine lv_aload_n hx hb dX8_feels_107 rfl (lv_at hl 2 rfl) ?_
        refine fg_X8_13 hC hM mq_F rfl dX8_feels_108 ?_
        refine lv_iload_n hx hb dX8_feels_111 rfl (lv_at hl 1 rfl) ?_
        refine lv_iconst (v := 4) hx hb dX8_feels_112 (by decide) ?_
        refine lv_iadd hx hb dX8_feels_113 ?_
        refine me_iald (k := 89 + 11 * k + 4) hC hM mq_w (nx_add rfl (nx_c 4)) (by omega) (by decide) dX8_feels_114 ?_
        refine lv_bipush (v := 12) hx hb dX8_feels_115 (by decide) ?_
        refine lv_icmp_ne (tgt := 158) hx hb dX8_feels_117 (by decide) (fun c_21 => ?_) (fun c_21 => ?_)
        · exact me_vret hC hr hlk hM (by unfold feS fe4; rw [if_neg c_21]) (rfl) dX8_feels_158
        · refine lv_aload_n hx hb dX8_feels_120 rfl (lv_at hl 2 rfl) ?_
          refine fg_X8_13 hC hM mq_F rfl dX8_feels_121 ?_
          refine lv_iload_n hx hb dX8_feels_124 rfl (lv_at hl 1 rfl) ?_
          refine lv_iconst (v := 4) hx hb dX8_feels_125 (by decide) ?_
          refine lv_iadd hx hb dX8_feels_126 ?_
          refine lv_iconst (v := 0) hx hb dX8_feels_127 (by decide) ?_
          refine me_iast (k := 89 + 11 * k + 4) (M2 := mq tb mo F (upd (fe3 (nz (hm w k)) k (fe2 k (fe1 (nz (hm w k)) k w))) (89 + 11 * k + 4) 0) av od sv sl nz ip ot M0) hC hM mq_w (nx_add rfl (nx_c 4)) (by omega) (by decide) mq_w_w dX8_feels_128 (fun H locs hM => ?_)
          refine lv_aload_n hx hb dX8_feels_129 rfl (lv_at hl 2 rfl) ?_
          refine fg_X8_13 hC hM mq_F rfl dX8_feels_130 ?_
          refine lv_iload_n hx hb dX8_feels_133 rfl (lv_at hl 1 rfl) ?_
          refine lv_iconst (v := 1) hx hb dX8_feels_134 (by decide) ?_
          refine lv_iadd hx hb dX8_feels_135 ?_
          refine lv_dup2_11 hx hb dX8_feels_136 rfl rfl ?_
          refine me_iald (k := 89 + 11 * k + 1) hC hM mq_w (nx_add rfl (show (1 : Int32) = nI 1 from rfl)) (by omega) (by decide) dX8_feels_137 ?_
          refine me_evi (y := (fe3 (nz (hm w k)) k (fe2 k (fe1 (nz (hm w k)) k w))) (89 + 11 * k + 1)) (upd_n (by omega)) ?_
          refine lv_aload_n hx hb dX8_feels_138 rfl (lv_at hl 2 rfl) ?_
          refine fg_X8_13 hC hM mq_F rfl dX8_feels_139 ?_
          refine lv_iload_n hx hb dX8_feels_142 rfl (lv_at hl 1 rfl) ?_
          refine lv_iconst (v := 1) hx hb dX8_feels_143 (by decide) ?_
          refine lv_iadd hx hb dX8_feels_144 ?_
          refine me_iald (k := 89 + 11 * k + 1) hC hM mq_w (nx_add rfl (show (1 : Int32) = nI 1 from rfl)) (by omega) (by decide) dX8_feels_145 ?_
          refine me_evi (y := (fe3 (nz (hm w k)) k (fe2 k (fe1 (nz (hm w k)) k w))) (89 + 11 * k + 1)) (upd_n (by omega)) ?_
          refine lv_bipush (v := 9) hx hb dX8_feels_146 (by decide) ?_
          refine lv_icmp_ge (tgt := 155) hx hb dX8_feels_148 (by decide) (fun c_22 => ?_) (fun c_22 => ?_)
          · have c_22q := c_22
            have c_22 := Int32.not_lt.mpr c_22
            refine lv_iconst (v := 0) hx hb dX8_feels_155 (by decide) ?_
            refine lv_iadd hx hb dX8_feels_156 ?_
            refine me_iast (k := 89 + 11 * k + 1) (M2 := mq tb mo F (upd (upd (fe3 (nz (hm w k)) k (fe2 k (fe1 (nz (hm w k)) k w))) (89 + 11 * k + 4) 0) (89 + 11 * k + 1) (((fe3 (nz (hm w k)) k (fe2 k (fe1 (nz (hm w k)) k w))) (89 + 11 * k + 1)) + 0)) av od sv sl nz ip ot M0) hC hM mq_w (nx_add rfl (show (1 : Int32) = nI 1 from rfl)) (by omega) (by decide) mq_w_w dX8_feels_157 (fun H locs hM => ?_)
            exact me_vret hC hr hlk hM (by unfold feS fe4; rw [if_pos c_21, if_neg c_22]) (rfl) dX8_feels_158
          · have c_22q := c_22
            have c_22 := Int32.not_le.mp c_22
            refine lv_iconst (v := 1) hx hb dX8_feels_151 (by decide) ?_
            refine lv_goto (tgt := 156) hx hb dX8_feels_152 (by decide) ?_
            refine lv_iadd hx hb dX8_feels_156 ?_
            refine me_iast (k := 89 + 11 * k + 1) (M2 := mq tb mo F (upd (upd (fe3 (nz (hm w k)) k (fe2 k (fe1 (nz (hm w k)) k w))) (89 + 11 * k + 4) 0) (89 + 11 * k + 1) (((fe3 (nz (hm w k)) k (fe2 k (fe1 (nz (hm w k)) k w))) (89 + 11 * k + 1)) + 1)) av od sv sl nz ip ot M0) hC hM mq_w (nx_add rfl (show (1 : Int32) = nI 1 from rfl)) (by omega) (by decide) mq_w_w dX8_feels_157 (fun H locs hM => ?_)
            exact me_vret hC hr hlk hM (by unfold feS fe4; rw [if_pos c_21, if_pos c_22]) (rfl) dX8_feels_158
      · have c_20q := Int32.not_lt.mp c_20
        refine lv_iconst (v := 1) hx hb dX8_feels_100 (by decide) ?_
        refine lv_goto (tgt := 105) hx hb dX8_feels_101 (by decide) ?_
        refine lv_iadd hx hb dX8_feels_105 ?_
        refine me_iast (k := 89 + 11 * k + 4) (M2 := mq tb mo F (upd (fe2 k (fe1 (nz (hm w k)) k w)) (89 + 11 * k + 4) (((fe2 k (fe1 (nz (hm w k)) k w)) (89 + 11 * k + 4)) + 1)) av od sv sl nz ip ot M0) hC hM mq_w (nx_add rfl (nx_c 4)) (by omega) (by decide) mq_w_w dX8_feels_106 (fun H locs hM => ?_)
        have hM := hM.eq (M2 := mq tb mo F (fe3 (nz (hm w k)) k (fe2 k (fe1 (nz (hm w k)) k w))) av od sv sl nz ip ot M0) (by unfold fe3; rw [if_neg c_20])
        refine lv_aload_n hx hb dX8_feels_107 rfl (lv_at hl 2 rfl) ?_
        refine fg_X8_13 hC hM mq_F rfl dX8_feels_108 ?_
        refine lv_iload_n hx hb dX8_feels_111 rfl (lv_at hl 1 rfl) ?_
        refine lv_iconst (v := 4) hx hb dX8_feels_112 (by decide) ?_
        refine lv_iadd hx hb dX8_feels_113 ?_
        refine me_iald (k := 89 + 11 * k + 4) hC hM mq_w (nx_add rfl (nx_c 4)) (by omega) (by decide) dX8_feels_114 ?_
        refine lv_bipush (v := 12) hx hb dX8_feels_115 (by decide) ?_
        refine lv_icmp_ne (tgt := 158) hx hb dX8_feels_117 (by decide) (fun c_23 => ?_) (fun c_23 => ?_)
        · exact me_vret hC hr hlk hM (by unfold feS fe4; rw [if_neg c_23]) (rfl) dX8_feels_158
        · refine lv_aload_n hx hb dX8_feels_120 rfl (lv_at hl 2 rfl) ?_
          refine fg_X8_13 hC hM mq_F rfl dX8_feels_121 ?_
          refine lv_iload_n hx hb dX8_feels_124 rfl (lv_at hl 1 rfl) ?_
          refine lv_iconst (v := 4) hx hb dX8_feels_125 (by decide) ?_
          refine lv_iadd hx hb dX8_feels_126 ?_
          refine lv_iconst (v := 0) hx hb dX8_feels_127 (by decide) ?_
          refine me_iast (k := 89 + 11 * k + 4) (M2 := mq tb mo F (upd (fe3 (nz (hm w k)) k (fe2 k (fe1 (nz (hm w k)) k w))) (89 + 11 * k + 4) 0) av od sv sl nz ip ot M0) hC hM mq_w (nx_add rfl (nx_c 4)) (by omega) (by decide) mq_w_w dX8_feels_128 (fun H locs hM => ?_)
          refine lv_aload_n hx hb dX8_feels_129 rfl (lv_at hl 2 rfl) ?_
          refine fg_X8_13 hC hM mq_F rfl dX8_feels_130 ?_
          refine lv_iload_n hx hb dX8_feels_133 rfl (lv_at hl 1 rfl) ?_
          refine lv_iconst (v := 1) hx hb dX8_feels_134 (by decide) ?_
          refine lv_iadd hx hb dX8_feels_135 ?_
          refine lv_dup2_11 hx hb dX8_feels_136 rfl rfl ?_
          refine me_iald (k := 89 + 11 * k + 1) hC hM mq_w (nx_add rfl (show (1 : Int32) = nI 1 from rfl)) (by omega) (by decide) dX8_feels_137 ?_
          refine me_evi (y := (fe3 (nz (hm w k)) k (fe2 k (fe1 (nz (hm w k)) k w))) (89 + 11 * k + 1)) (upd_n (by omega)) ?_
          refine lv_aload_n hx hb dX8_feels_138 rfl (lv_at hl 2 rfl) ?_
          refine fg_X8_13 hC hM mq_F rfl dX8_feels_139 ?_
          refine lv_iload_n hx hb dX8_feels_142 rfl (lv_at hl 1 rfl) ?_
          refine lv_iconst (v := 1) hx hb dX8_feels_143 (by decide) ?_
          refine lv_iadd hx hb dX8_feels_144 ?_
          refine me_iald (k := 89 + 11 * k + 1) hC hM mq_w (nx_add rfl (show (1 : Int32) = nI 1 from rfl)) (by omega) (by decide) dX8_feels_145 ?_
          refine me_evi (y := (fe3 (nz (hm w k)) k (fe2 k (fe1 (nz (hm w k)) k w))) (89 + 11 * k + 1)) (upd_n (by omega)) ?_
          refine lv_bipush (v := 9) hx hb dX8_feels_146 (by decide) ?_
          refine lv_icmp_ge (tgt := 155) hx hb dX8_feels_148 (by decide) (fun c_24 => ?_) (fun c_24 => ?_)
          · have c_24q := c_24
            have c_24 := Int32.not_lt.mpr c_24
            refine lv_iconst (v := 0) hx hb dX8_feels_155 (by decide) ?_
            refine lv_iadd hx hb dX8_feels_156 ?_
            refine me_iast (k := 89 + 11 * k + 1) (M2 := mq tb mo F (upd (upd (fe3 (nz (hm w k)) k (fe2 k (fe1 (nz (hm w k)) k w))) (89 + 11 * k + 4) 0) (89 + 11 * k + 1) (((fe3 (nz (hm w k)) k (fe2 k (fe1 (nz (hm w k)) k w))) (89 + 11 * k + 1)) + 0)) av od sv sl nz ip ot M0) hC hM mq_w (nx_add rfl (show (1 : Int32) = nI 1 from rfl)) (by omega) (by decide) mq_w_w dX8_feels_157 (fun H locs hM => ?_)
            exact me_vret hC hr hlk hM (by unfold feS fe4; rw [if_pos c_23, if_neg c_24]) (rfl) dX8_feels_158
          · have c_24q := c_24
            have c_24 := Int32.not_le.mp c_24
            refine lv_iconst (v := 1) hx hb dX8_feels_151 (by decide) ?_
            refine lv_goto (tgt := 156) hx hb dX8_feels_152 (by decide) ?_
            refine lv_iadd hx hb dX8_feels_156 ?_
            refine me_iast (k := 89 + 11 * k + 1) (M2 := mq tb mo F (upd (upd (fe3 (nz (hm w k)) k (fe2 k (fe1 (nz (hm w k)) k w))) (89 + 11 * k + 4) 0) (89 + 11 * k + 1) (((fe3 (nz (hm w k)) k (fe2 k (fe1 (nz (hm w k)) k w))) (89 + 11 * k + 1)) + 1)) av od sv sl nz ip ot M0) hC hM mq_w (nx_add rfl (show (1 : Int32) = nI 1 from rfl)) (by omega) (by decide) mq_w_w dX8_feels_157 (fun H locs hM => ?_)
            exact me_vret hC hr hlk hM (by unfold feS fe4; rw [if_pos c_23, if_pos c_24]) (rfl) dX8_feels_158
    · refine lv_aload_n hx hb dX8_feels_49 rfl (lv_at hl 2 rfl) ?_
      refine fg_X8_13 hC hM mq_F rfl dX8_feels_50 ?_
      refine lv_iload_n hx hb dX8_feels_53 rfl (lv_at hl 1 rfl) ?_
      refine lv_iconst (v := 3) hx hb dX8_feels_54 (by decide) ?_
      refine lv_iadd hx hb dX8_feels_55 ?_
      refine lv_iconst (v := 0) hx hb dX8_feels_56 (by decide) ?_
      refine me_iast (k := 89 + 11 * k + 3) (M2 := mq tb mo F (upd (fe1 (nz (hm w k)) k w) (89 + 11 * k + 3) 0) av od sv sl nz ip ot M0) hC hM mq_w (nx_add rfl (nx_c 3)) (by omega) (by decide) mq_w_w dX8_feels_57 (fun H locs hM => ?_)
      refine lv_aload_n hx hb dX8_feels_58 rfl (lv_at hl 2 rfl) ?_
      refine fg_X8_13 hC hM mq_F rfl dX8_feels_59 ?_
      refine lv_iload_n hx hb dX8_feels_62 rfl (lv_at hl 1 rfl) ?_
      refine lv_iconst (v := 1) hx hb dX8_feels_63 (by decide) ?_
      refine lv_iadd hx hb dX8_feels_64 ?_
      refine lv_dup2_11 hx hb dX8_feels_65 rfl rfl ?_
      refine me_iald (k := 89 + 11 * k + 1) hC hM mq_w (nx_add rfl (show (1 : Int32) = nI 1 from rfl)) (by omega) (by decide) dX8_feels_66 ?_
      refine me_evi (y := (fe1 (nz (hm w k)) k w) (89 + 11 * k + 1)) (upd_n (by omega)) ?_
      refine lv_aload_n hx hb dX8_feels_67 rfl (lv_at hl 2 rfl) ?_
      refine fg_X8_13 hC hM mq_F rfl dX8_feels_68 ?_
      refine lv_iload_n hx hb dX8_feels_71 rfl (lv_at hl 1 rfl) ?_
      refine lv_iconst (v := 1) hx hb dX8_feels_72 (by decide) ?_
      refine lv_iadd hx hb dX8_feels_73 ?_
      refine me_iald (k := 89 + 11 * k + 1) hC hM mq_w (nx_add rfl (show (1 : Int32) = nI 1 from rfl)) (by omega) (by decide) dX8_feels_74 ?_
      refine me_evi (y := (fe1 (nz (hm w k)) k w) (89 + 11 * k + 1)) (upd_n (by omega)) ?_
      refine lv_if_le (tgt := 82) hx hb dX8_feels_75 (by decide) (fun c_25 => ?_) (fun c_25 => ?_)
      · have c_25q := c_25
        have c_25 := Int32.not_lt.mpr c_25
        refine lv_iconst (v := 0) hx hb dX8_feels_82 (by decide) ?_
        refine lv_isub hx hb dX8_feels_83 ?_
        refine me_iast (k := 89 + 11 * k + 1) (M2 := mq tb mo F (upd (upd (fe1 (nz (hm w k)) k w) (89 + 11 * k + 3) 0) (89 + 11 * k + 1) (((fe1 (nz (hm w k)) k w) (89 + 11 * k + 1)) - 0)) av od sv sl nz ip ot M0) hC hM mq_w (nx_add rfl (show (1 : Int32) = nI 1 from rfl)) (by omega) (by decide) mq_w_w dX8_feels_84 (fun H locs hM => ?_)
        have hM := hM.eq (M2 := mq tb mo F (fe2 k (fe1 (nz (hm w k)) k w)) av od sv sl nz ip ot M0) (by unfold fe2; rw [if_pos c_19, if_neg c_25])
        refine lv_aload_n hx hb dX8_feels_85 rfl (lv_at hl 2 rfl) ?_
        refine fg_X8_13 hC hM mq_F rfl dX8_feels_86 ?_
        refine lv_iload_n hx hb dX8_feels_89 rfl (lv_at hl 1 rfl) ?_
        refine lv_iconst (v := 4) hx hb dX8_feels_90 (by decide) ?_
        refine lv_iadd hx hb dX8_feels_91 ?_
        refine lv_dup2_11 hx hb dX8_feels_92 rfl rfl ?_
        refine me_iald (k := 89 + 11 * k + 4) hC hM mq_w (nx_add rfl (nx_c 4)) (by omega) (by decide) dX8_feels_93 ?_
        refine lv_iload_n hx hb dX8_feels_94 rfl (lv_at hl 0 rfl) ?_
        refine lv_bipush (v := 80) hx hb dX8_feels_95 (by decide) ?_
        refine lv_icmp_lt (tgt := 104) hx hb dX8_feels_97 (by decide) (fun c_26 => ?_) (fun c_26 => ?_)
        · have c_26q := Int32.not_le.mpr c_26
          refine lv_iconst (v := 0) hx hb dX8_feels_104 (by decide) ?_
          refine lv_iadd hx hb dX8_feels_105 ?_
          refine me_iast (k := 89 + 11 * k + 4) (M2 := mq tb mo F (upd (fe2 k (fe1 (nz (hm w k)) k w)) (89 + 11 * k + 4) (((fe2 k (fe1 (nz (hm w k)) k w)) (89 + 11 * k + 4)) + 0)) av od sv sl nz ip ot M0) hC hM mq_w (nx_add rfl (nx_c 4)) (by omega) (by decide) mq_w_w dX8_feels_106 (fun H locs hM => ?_)
          have hM := hM.eq (M2 := mq tb mo F (fe3 (nz (hm w k)) k (fe2 k (fe1 (nz (hm w k)) k w))) av od sv sl nz ip ot M0) (by unfold fe3; rw [if_pos c_26])
          refine lv_aload_n hx hb dX8_feels_107 rfl (lv_at hl 2 rfl) ?_
          refine fg_X8_13 hC hM mq_F rfl dX8_feels_108 ?_
          refine lv_iload_n hx hb dX8_feels_111 rfl (lv_at hl 1 rfl) ?_
          refine lv_iconst (v := 4) hx hb dX8_feels_112 (by decide) ?_
          refine lv_iadd hx hb dX8_feels_113 ?_
          refine me_iald (k := 89 + 11 * k + 4) hC hM mq_w (nx_add rfl (nx_c 4)) (by omega) (by decide) dX8_feels_114 ?_
          refine lv_bipush (v := 12) hx hb dX8_feels_115 (by decide) ?_
          refine lv_icmp_ne (tgt := 158) hx hb dX8_feels_117 (by decide) (fun c_27 => ?_) (fun c_27 => ?_)
          · exact me_vret hC hr hlk hM (by unfold feS fe4; rw [if_neg c_27]) (rfl) dX8_feels_158
          · refine lv_aload_n hx hb dX8_feels_120 rfl (lv_at hl 2 rfl) ?_
            refine fg_X8_13 hC hM mq_F rfl dX8_feels_121 ?_
            refine lv_iload_n hx hb dX8_feels_124 rfl (lv_at hl 1 rfl) ?_
            refine lv_iconst (v := 4) hx hb dX8_feels_125 (by decide) ?_
            refine lv_iadd hx hb dX8_feels_126 ?_
            refine lv_iconst (v := 0) hx hb dX8_feels_127 (by decide) ?_
            refine me_iast (k := 89 + 11 * k + 4) (M2 := mq tb mo F (upd (fe3 (nz (hm w k)) k (fe2 k (fe1 (nz (hm w k)) k w))) (89 + 11 * k + 4) 0) av od sv sl nz ip ot M0) hC hM mq_w (nx_add rfl (nx_c 4)) (by omega) (by decide) mq_w_w dX8_feels_128 (fun H locs hM => ?_)
            refine lv_aload_n hx hb dX8_feels_129 rfl (lv_at hl 2 rfl) ?_
            refine fg_X8_13 hC hM mq_F rfl dX8_feels_130 ?_
            refine lv_iload_n hx hb dX8_feels_133 rfl (lv_at hl 1 rfl) ?_
            refine lv_iconst (v := 1) hx hb dX8_feels_134 (by decide) ?_
            refine lv_iadd hx hb dX8_feels_135 ?_
            refine lv_dup2_11 hx hb dX8_feels_136 rfl rfl ?_
            refine me_iald (k := 89 + 11 * k + 1) hC hM mq_w (nx_add rfl (show (1 : Int32) = nI 1 from rfl)) (by omega) (by decide) dX8_feels_137 ?_
            refine me_evi (y := (fe3 (nz (hm w k)) k (fe2 k (fe1 (nz (hm w k)) k w))) (89 + 11 * k + 1)) (upd_n (by omega)) ?_
            refine lv_aload_n hx hb dX8_feels_138 rfl (lv_at hl 2 rfl) ?_
            refine fg_X8_13 hC hM mq_F rfl dX8_feels_139 ?_
            refine lv_iload_n hx hb dX8_feels_142 rfl (lv_at hl 1 rfl) ?_
            refine lv_iconst (v := 1) hx hb dX8_feels_143 (by decide) ?_
            refine lv_iadd hx hb dX8_feels_144 ?_
            refine me_iald (k := 89 + 11 * k + 1) hC hM mq_w (nx_add rfl (show (1 : Int32) = nI 1 from rfl)) (by omega) (by decide) dX8_feels_145 ?_
            refine me_evi (y := (fe3 (nz (hm w k)) k (fe2 k (fe1 (nz (hm w k)) k w))) (89 + 11 * k + 1)) (upd_n (by omega)) ?_
            refine lv_bipush (v := 9) hx hb dX8_feels_146 (by decide) ?_
            refine lv_icmp_ge (tgt := 155) hx hb dX8_feels_148 (by decide) (fun c_28 => ?_) (fun c_28 => ?_)
            · have c_28q := c_28
              have c_28 := Int32.not_lt.mpr c_28
              refine lv_iconst (v := 0) hx hb dX8_feels_155 (by decide) ?_
              refine lv_iadd hx hb dX8_feels_156 ?_
              refine me_iast (k := 89 + 11 * k + 1) (M2 := mq tb mo F (upd (upd (fe3 (nz (hm w k)) k (fe2 k (fe1 (nz (hm w k)) k w))) (89 + 11 * k + 4) 0) (89 + 11 * k + 1) (((fe3 (nz (hm w k)) k (fe2 k (fe1 (nz (hm w k)) k w))) (89 + 11 * k + 1)) + 0)) av od sv sl nz ip ot M0) hC hM mq_w (nx_add rfl (show (1 : Int32) = nI 1 from rfl)) (by omega) (by decide) mq_w_w dX8_feels_157 (fun H locs hM => ?_)
              exact me_vret hC hr hlk hM (by unfold feS fe4; rw [if_pos c_27, if_neg c_28]) (rfl) dX8_feels_158
            · have c_28q := c_28
              have c_28 := Int32.not_le.mp c_28
              refine lv_iconst (v := 1) hx hb dX8_feels_151 (by decide) ?_
              refine lv_goto (tgt := 156) hx hb dX8_feels_152 (by decide) ?_
              refine lv_iadd hx hb dX8_feels_156 ?_
              refine me_iast (k := 89 + 11 * k + 1) (M2 := mq tb mo F (upd (upd (fe3 (nz (hm w k)) k (fe2 k (fe1 (nz (hm w k)) k w))) (89 + 11 * k + 4) 0) (89 + 11 * k + 1) (((fe3 (nz (hm w k)) k (fe2 k (fe1 (nz (hm w k)) k w))) (89 + 11 * k + 1)) + 1)) av od sv sl nz ip ot M0) hC hM mq_w (nx_add rfl (show (1 : Int32) = nI 1 from rfl)) (by omega) (by decide) mq_w_w dX8_feels_157 (fun H locs hM => ?_)
              exact me_vret hC hr hlk hM (by unfold feS fe4; rw [if_pos c_27, if_pos c_28]) (rfl) dX8_feels_158
        · have c_26q := Int32.not_lt.mp c_26
          refine lv_iconst (v := 1) hx hb dX8_feels_100 (by decide) ?_
          refine lv_goto (tgt := 105) hx hb dX8_feels_101 (by decide) ?_
          refine lv_iadd hx hb dX8_feels_105 ?_
          refine me_iast (k := 89 + 11 * k + 4) (M2 := mq tb mo F (upd (fe2 k (fe1 (nz (hm w k)) k w)) (89 + 11 * k + 4) (((fe2 k (fe1 (nz (hm w k)) k w)) (89 + 11 * k + 4)) + 1)) av od sv sl nz ip ot M0) hC hM mq_w (nx_add rfl (nx_c 4)) (by omega) (by decide) mq_w_w dX8_feels_106 (fun H locs hM => ?_)
          have hM := hM.eq (M2 := mq tb mo F (fe3 (nz (hm w k)) k (fe2 k (fe1 (nz (hm w k)) k w))) av od sv sl nz ip ot M0) (by unfold fe3; rw [if_neg c_26])
          refine lv_aload_n hx hb dX8_feels_107 rfl (lv_at hl 2 rfl) ?_
          refine fg_X8_13 hC hM mq_F rfl dX8_feels_108 ?_
          refine lv_iload_n hx hb dX8_feels_111 rfl (lv_at hl 1 rfl) ?_
          refine lv_iconst (v := 4) hx hb dX8_feels_112 (by decide) ?_
          refine lv_iadd hx hb dX8_feels_113 ?_
          refine me_iald (k := 89 + 11 * k + 4) hC hM mq_w (nx_add rfl (nx_c 4)) (by omega) (by decide) dX8_feels_114 ?_
          refine lv_bipush (v := 12) hx hb dX8_feels_115 (by decide) ?_
          refine lv_icmp_ne (tgt := 158) hx hb dX8_feels_117 (by decide) (fun c_29 => ?_) (fun c_29 => ?_)
          · exact me_vret hC hr hlk hM (by unfold feS fe4; rw [if_neg c_29]) (rfl) dX8_feels_158
          · refine lv_aload_n hx hb dX8_feels_120 rfl (lv_at hl 2 rfl) ?_
            refine fg_X8_13 hC hM mq_F rfl dX8_feels_121 ?_
            refine lv_iload_n hx hb dX8_feels_124 rfl (lv_at hl 1 rfl) ?_
            refine lv_iconst (v := 4) hx hb dX8_feels_125 (by decide) ?_
            refine lv_iadd hx hb dX8_feels_126 ?_
            refine lv_iconst (v := 0) hx hb dX8_feels_127 (by decide) ?_
            refine me_iast (k := 89 + 11 * k + 4) (M2 := mq tb mo F (upd (fe3 (nz (hm w k)) k (fe2 k (fe1 (nz (hm w k)) k w))) (89 + 11 * k + 4) 0) av od sv sl nz ip ot M0) hC hM mq_w (nx_add rfl (nx_c 4)) (by omega) (by decide) mq_w_w dX8_feels_128 (fun H locs hM => ?_)
            refine lv_aload_n hx hb dX8_feels_129 rfl (lv_at hl 2 rfl) ?_
            refine fg_X8_13 hC hM mq_F rfl dX8_feels_130 ?_
            refine lv_iload_n hx hb dX8_feels_133 rfl (lv_at hl 1 rfl) ?_
            refine lv_iconst (v := 1) hx hb dX8_feels_134 (by decide) ?_
            refine lv_iadd hx hb dX8_feels_135 ?_
            refine lv_dup2_11 hx hb dX8_feels_136 rfl rfl ?_
            refine me_iald (k := 89 + 11 * k + 1) hC hM mq_w (nx_add rfl (show (1 : Int32) = nI 1 from rfl)) (by omega) (by decide) dX8_feels_137 ?_
            refine me_evi (y := (fe3 (nz (hm w k)) k (fe2 k (fe1 (nz (hm w k)) k w))) (89 + 11 * k + 1)) (upd_n (by omega)) ?_
            refine lv_aload_n hx hb dX8_feels_138 rfl (lv_at hl 2 rfl) ?_
            refine fg_X8_13 hC hM mq_F rfl dX8_feels_139 ?_
            refine lv_iload_n hx hb dX8_feels_142 rfl (lv_at hl 1 rfl) ?_
            refine lv_iconst (v := 1) hx hb dX8_feels_143 (by decide) ?_
            refine lv_iadd hx hb dX8_feels_144 ?_
            refine me_iald (k := 89 + 11 * k + 1) hC hM mq_w (nx_add rfl (show (1 : Int32) = nI 1 from rfl)) (by omega) (by decide) dX8_feels_145 ?_
            refine me_evi (y := (fe3 (nz (hm w k)) k (fe2 k (fe1 (nz (hm w k)) k w))) (89 + 11 * k + 1)) (upd_n (by omega)) ?_
            refine lv_bipush (v := 9) hx hb dX8_feels_146 (by decide) ?_
            refine lv_icmp_ge (tgt := 155) hx hb dX8_feels_148 (by decide) (fun c_30 => ?_) (fun c_30 => ?_)
            · have c_30q := c_30
              have c_30 := Int32.not_lt.mpr c_30
              refine lv_iconst (v := 0) hx hb dX8_feels_155 (by decide) ?_
              refine lv_iadd hx hb dX8_feels_156 ?_
              refine me_iast (k := 89 + 11 * k + 1) (M2 := mq tb mo F (upd (upd (fe3 (nz (hm w k)) k (fe2 k (fe1 (nz (hm w k)) k w))) (89 + 11 * k + 4) 0) (89 + 11 * k + 1) (((fe3 (nz (hm w k)) k (fe2 k (fe1 (nz (hm w k)) k w))) (89 + 11 * k + 1)) + 0)) av od sv sl nz ip ot M0) hC hM mq_w (nx_add rfl (show (1 : Int32) = nI 1 from rfl)) (by omega) (by decide) mq_w_w dX8_feels_157 (fun H locs hM => ?_)
              exact me_vret hC hr hlk hM (by unfold feS fe4; rw [if_pos c_29, if_neg c_30]) (rfl) dX8_feels_158
            · have c_30q := c_30
              have c_30 := Int32.not_le.mp c_30
              refine lv_iconst (v := 1) hx hb dX8_feels_151 (by decide) ?_
              refine lv_goto (tgt := 156) hx hb dX8_feels_152 (by decide) ?_
              refine lv_iadd hx hb dX8_feels_156 ?_
              refine me_iast (k := 89 + 11 * k + 1) (M2 := mq tb mo F (upd (upd (fe3 (nz (hm w k)) k (fe2 k (fe1 (nz (hm w k)) k w))) (89 + 11 * k + 4) 0) (89 + 11 * k + 1) (((fe3 (nz (hm w k)) k (fe2 k (fe1 (nz (hm w k)) k w))) (89 + 11 * k + 1)) + 1)) av od sv sl nz ip ot M0) hC hM mq_w (nx_add rfl (show (1 : Int32) = nI 1 from rfl)) (by omega) (by decide) mq_w_w dX8_feels_157 (fun H locs hM => ?_)
              exact me_vret hC hr hlk hM (by unfold feS fe4; rw [if_pos c_29, if_pos c_30]) (rfl) dX8_feels_158
      · have c_25q := c_25
        have c_25 := Int32.not_le.mp c_25
        refine lv_iconst (v := 1) hx hb dX8_feels_78 (by decide) ?_
        refine lv_goto (tgt := 83) hx hb dX8_feels_79 (by decide) ?_
        refine lv_isub hx hb dX8_feels_83 ?_
        refine me_iast (k := 89 + 11 * k + 1) (M2 := mq tb mo F (upd (upd (fe1 (nz (hm w k)) k w) (89 + 11 * k + 3) 0) (89 + 11 * k + 1) (((fe1 (nz (hm w k)) k w) (89 + 11 * k + 1)) - 1)) av od sv sl nz ip ot M0) hC hM mq_w (nx_add rfl (show (1 : Int32) = nI 1 from rfl)) (by omega) (by decide) mq_w_w dX8_feels_84 (fun H locs hM => ?_)
        have hM := hM.eq (M2 := mq tb mo F (fe2 k (fe1 (nz (hm w k)) k w)) av od sv sl nz ip ot M0) (by unfold fe2; rw [if_pos c_19, if_pos c_25])
        refine lv_aload_n hx hb dX8_feels_85 rfl (lv_at hl 2 rfl) ?_
        refine fg_X8_13 hC hM mq_F rfl dX8_feels_86 ?_
        refine lv_iload_n hx hb dX8_feels_89 rfl (lv_at hl 1 rfl) ?_
        refine lv_iconst (v := 4) hx hb dX8_feels_90 (by decide) ?_
        refine lv_iadd hx hb dX8_feels_91 ?_
        refine lv_dup2_11 hx hb dX8_feels_92 rfl rfl ?_
        refine me_iald (k := 89 + 11 * k + 4) hC hM mq_w (nx_add rfl (nx_c 4)) (by omega) (by decide) dX8_feels_93 ?_
        refine lv_iload_n hx hb dX8_feels_94 rfl (lv_at hl 0 rfl) ?_
        refine lv_bipush (v := 80) hx hb dX8_feels_95 (by decide) ?_
        refine lv_icmp_lt (tgt := 104) hx hb dX8_feels_97 (by decide) (fun c_31 => ?_) (fun c_31 => ?_)
        · have c_31q := Int32.not_le.mpr c_31
          refine lv_iconst (v := 0) hx hb dX8_feels_104 (by decide) ?_
          refine lv_iadd hx hb dX8_feels_105 ?_
          refine me_iast (k := 89 + 11 * k + 4) (M2 := mq tb mo F (upd (fe2 k (fe1 (nz (hm w k)) k w)) (89 + 11 * k + 4) (((fe2 k (fe1 (nz (hm w k)) k w)) (89 + 11 * k + 4)) + 0)) av od sv sl nz ip ot M0) hC hM mq_w (nx_add rfl (nx_c 4)) (by omega) (by decide) mq_w_w dX8_feels_106 (fun H locs hM => ?_)
          have hM := hM.eq (M2 := mq tb mo F (fe3 (nz (hm w k)) k (fe2 k (fe1 (nz (hm w k)) k w))) av od sv sl nz ip ot M0) (by unfold fe3; rw [if_pos c_31])
          refine lv_aload_n hx hb dX8_feels_107 rfl (lv_at hl 2 rfl) ?_
          refine fg_X8_13 hC hM mq_F rfl dX8_feels_108 ?_
          refine lv_iload_n hx hb dX8_feels_111 rfl (lv_at hl 1 rfl) ?_
          refine lv_iconst (v := 4) hx hb dX8_feels_112 (by decide) ?_
          refine lv_iadd hx hb dX8_feels_113 ?_
          refine me_iald (k := 89 + 11 * k + 4) hC hM mq_w (nx_add rfl (nx_c 4)) (by omega) (by decide) dX8_feels_114 ?_
          refine lv_bipush (v := 12) hx hb dX8_feels_115 (by decide) ?_
          refine lv_icmp_ne (tgt := 158) hx hb dX8_feels_117 (by decide) (fun c_32 => ?_) (fun c_32 => ?_)
          · exact me_vret hC hr hlk hM (by unfold feS fe4; rw [if_neg c_32]) (rfl) dX8_feels_158
          · refine lv_aload_n hx hb dX8_feels_120 rfl (lv_at hl 2 rfl) ?_
            refine fg_X8_13 hC hM mq_F rfl dX8_feels_121 ?_
            refine lv_iload_n hx hb dX8_feels_124 rfl (lv_at hl 1 rfl) ?_
            refine lv_iconst (v := 4) hx hb dX8_feels_125 (by decide) ?_
            refine lv_iadd hx hb dX8_feels_126 ?_
            refine lv_iconst (v := 0) hx hb dX8_feels_127 (by decide) ?_
            refine me_iast (k := 89 + 11 * k + 4) (M2 := mq tb mo F (upd (fe3 (nz (hm w k)) k (fe2 k (fe1 (nz (hm w k)) k w))) (89 + 11 * k + 4) 0) av od sv sl nz ip ot M0) hC hM mq_w (nx_add rfl (nx_c 4)) (by omega) (by decide) mq_w_w dX8_feels_128 (fun H locs hM => ?_)
            refine lv_aload_n hx hb dX8_feels_129 rfl (lv_at hl 2 rfl) ?_
            refine fg_X8_13 hC hM mq_F rfl dX8_feels_130 ?_
            refine lv_iload_n hx hb dX8_feels_133 rfl (lv_at hl 1 rfl) ?_
            refine lv_iconst (v := 1) hx hb dX8_feels_134 (by decide) ?_
            refine lv_iadd hx hb dX8_feels_135 ?_
            refine lv_dup2_11 hx hb dX8_feels_136 rfl rfl ?_
            refine me_iald (k := 89 + 11 * k + 1) hC hM mq_w (nx_add rfl (show (1 : Int32) = nI 1 from rfl)) (by omega) (by decide) dX8_feels_137 ?_
            refine me_evi (y := (fe3 (nz (hm w k)) k (fe2 k (fe1 (nz (hm w k)) k w))) (89 + 11 * k + 1)) (upd_n (by omega)) ?_
            refine lv_aload_n hx hb dX8_feels_138 rfl (lv_at hl 2 rfl) ?_
            refine fg_X8_13 hC hM mq_F rfl dX8_feels_139 ?_
            refine lv_iload_n hx hb dX8_feels_142 rfl (lv_at hl 1 rfl) ?_
            refine lv_iconst (v := 1) hx hb dX8_feels_143 (by decide) ?_
            refine lv_iadd hx hb dX8_feels_144 ?_
            refine me_iald (k := 89 + 11 * k + 1) hC hM mq_w (nx_add rfl (show (1 : Int32) = nI 1 from rfl)) (by omega) (by decide) dX8_feels_145 ?_
            refine me_evi (y := (fe3 (nz (hm w k)) k (fe2 k (fe1 (nz (hm w k)) k w))) (89 + 11 * k + 1)) (upd_n (by omega)) ?_
            refine lv_bipush (v := 9) hx hb dX8_feels_146 (by decide) ?_
            refine lv_icmp_ge (tgt := 155) hx hb dX8_feels_148 (by decide) (fun c_33 => ?_) (fun c_33 => ?_)
            · have c_33q := c_33
              have c_33 := Int32.not_lt.mpr c_33
              refine lv_iconst (v := 0) hx hb dX8_feels_155 (by decide) ?_
              refine lv_iadd hx hb dX8_feels_156 ?_
              refine me_iast (k := 89 + 11 * k + 1) (M2 := mq tb mo F (upd (upd (fe3 (nz (hm w k)) k (fe2 k (fe1 (nz (hm w k)) k w))) (89 + 11 * k + 4) 0) (89 + 11 * k + 1) (((fe3 (nz (hm w k)) k (fe2 k (fe1 (nz (hm w k)) k w))) (89 + 11 * k + 1)) + 0)) av od sv sl nz ip ot M0) hC hM mq_w (nx_add rfl (show (1 : Int32) = nI 1 from rfl)) (by omega) (by decide) mq_w_w dX8_feels_157 (fun H locs hM => ?_)
              exact me_vret hC hr hlk hM (by unfold feS fe4; rw [if_pos c_32, if_neg c_33]) (rfl) dX8_feels_158
            · have c_33q := c_33
              have c_33 := Int32.not_le.mp c_33
              refine lv_iconst (v := 1) hx hb dX8_feels_151 (by decide) ?_
              refine lv_goto (tgt := 156) hx hb dX8_feels_152 (by decide) ?_
              refine lv_iadd hx hb dX8_feels_156 ?_
              refine me_iast (k := 89 + 11 * k + 1) (M2 := mq tb mo F (upd (upd (fe3 (nz (hm w k)) k (fe2 k (fe1 (nz (hm w k)) k w))) (89 + 11 * k + 4) 0) (89 + 11 * k + 1) (((fe3 (nz (hm w k)) k (fe2 k (fe1 (nz (hm w k)) k w))) (89 + 11 * k + 1)) + 1)) av od sv sl nz ip ot M0) hC hM mq_w (nx_add rfl (show (1 : Int32) = nI 1 from rfl)) (by omega) (by decide) mq_w_w dX8_feels_157 (fun H locs hM => ?_)
              exact me_vret hC hr hlk hM (by unfold feS fe4; rw [if_pos c_32, if_pos c_33]) (rfl) dX8_feels_158
        · have c_31q := Int32.not_lt.mp c_31
          refine lv_iconst (v := 1) hx hb dX8_feels_100 (by decide) ?_
          refine lv_goto (tgt := 105) hx hb dX8_feels_101 (by decide) ?_
          refine lv_iadd hx hb dX8_feels_105 ?_
          refine me_iast (k := 89 + 11 * k + 4) (M2 := mq tb mo F (upd (fe2 k (fe1 (nz (hm w k)) k w)) (89 + 11 * k + 4) (((fe2 k (fe1 (nz (hm w k)) k w)) (89 + 11 * k + 4)) + 1)) av od sv sl nz ip ot M0) hC hM mq_w (nx_add rfl (nx_c 4)) (by omega) (by decide) mq_w_w dX8_feels_106 (fun H locs hM => ?_)
          have hM := hM.eq (M2 := mq tb mo F (fe3 (nz (hm w k)) k (fe2 k (fe1 (nz (hm w k)) k w))) av od sv sl nz ip ot M0) (by unfold fe3; rw [if_neg c_31])
          refine lv_aload_n hx hb dX8_feels_107 rfl (lv_at hl 2 rfl) ?_
          refine fg_X8_13 hC hM mq_F rfl dX8_feels_108 ?_
          refine lv_iload_n hx hb dX8_feels_111 rfl (lv_at hl 1 rfl) ?_
          refine lv_iconst (v := 4) hx hb dX8_feels_112 (by decide) ?_
          refine lv_iadd hx hb dX8_feels_113 ?_
          refine me_iald (k := 89 + 11 * k + 4) hC hM mq_w (nx_add rfl (nx_c 4)) (by omega) (by decide) dX8_feels_114 ?_
          refine lv_bipush (v := 12) hx hb dX8_feels_115 (by decide) ?_
          refine lv_icmp_ne (tgt := 158) hx hb dX8_feels_117 (by decide) (fun c_34 => ?_) (fun c_34 => ?_)
          · exact me_vret hC hr hlk hM (by unfold feS fe4; rw [if_neg c_34]) (rfl) dX8_feels_158
          · refine lv_aload_n hx hb dX8_feels_120 rfl (lv_at hl 2 rfl) ?_
            refine fg_X8_13 hC hM mq_F rfl dX8_feels_121 ?_
            refine lv_iload_n hx hb dX8_feels_124 rfl (lv_at hl 1 rfl) ?_
            refine lv_iconst (v := 4) hx hb dX8_feels_125 (by decide) ?_
            refine lv_iadd hx hb dX8_feels_126 ?_
            refine lv_iconst (v := 0) hx hb dX8_feels_127 (by decide) ?_
            refine me_iast (k := 89 + 11 * k + 4) (M2 := mq tb mo F (upd (fe3 (nz (hm w k)) k (fe2 k (fe1 (nz (hm w k)) k w))) (89 + 11 * k + 4) 0) av od sv sl nz ip ot M0) hC hM mq_w (nx_add rfl (nx_c 4)) (by omega) (by decide) mq_w_w dX8_feels_128 (fun H locs hM => ?_)
            refine lv_aload_n hx hb dX8_feels_129 rfl (lv_at hl 2 rfl) ?_
            refine fg_X8_13 hC hM mq_F rfl dX8_feels_130 ?_
            refine lv_iload_n hx hb dX8_feels_133 rfl (lv_at hl 1 rfl) ?_
            refine lv_iconst (v := 1) hx hb dX8_feels_134 (by decide) ?_
            refine lv_iadd hx hb dX8_feels_135 ?_
            refine lv_dup2_11 hx hb dX8_feels_136 rfl rfl ?_
            refine me_iald (k := 89 + 11 * k + 1) hC hM mq_w (nx_add rfl (show (1 : Int32) = nI 1 from rfl)) (by omega) (by decide) dX8_feels_137 ?_
            refine me_evi (y := (fe3 (nz (hm w k)) k (fe2 k (fe1 (nz (hm w k)) k w))) (89 + 11 * k + 1)) (upd_n (by omega)) ?_
            refine lv_aload_n hx hb dX8_feels_138 rfl (lv_at hl 2 rfl) ?_
            refine fg_X8_13 hC hM mq_F rfl dX8_feels_139 ?_
            refine lv_iload_n hx hb dX8_feels_142 rfl (lv_at hl 1 rfl) ?_
            refine lv_iconst (v := 1) hx hb dX8_feels_143 (by decide) ?_
            refine lv_iadd hx hb dX8_feels_144 ?_
            refine me_iald (k := 89 + 11 * k + 1) hC hM mq_w (nx_add rfl (show (1 : Int32) = nI 1 from rfl)) (by omega) (by decide) dX8_feels_145 ?_
            refine me_evi (y := (fe3 (nz (hm w k)) k (fe2 k (fe1 (nz (hm w k)) k w))) (89 + 11 * k + 1)) (upd_n (by omega)) ?_
            refine lv_bipush (v := 9) hx hb dX8_feels_146 (by decide) ?_
            refine lv_icmp_ge (tgt := 155) hx hb dX8_feels_148 (by decide) (fun c_35 => ?_) (fun c_35 => ?_)
            · have c_35q := c_35
              have c_35 := Int32.not_lt.mpr c_35
              refine lv_iconst (v := 0) hx hb dX8_feels_155 (by decide) ?_
              refine lv_iadd hx hb dX8_feels_156 ?_
              refine me_iast (k := 89 + 11 * k + 1) (M2 := mq tb mo F (upd (upd (fe3 (nz (hm w k)) k (fe2 k (fe1 (nz (hm w k)) k w))) (89 + 11 * k + 4) 0) (89 + 11 * k + 1) (((fe3 (nz (hm w k)) k (fe2 k (fe1 (nz (hm w k)) k w))) (89 + 11 * k + 1)) + 0)) av od sv sl nz ip ot M0) hC hM mq_w (nx_add rfl (show (1 : Int32) = nI 1 from rfl)) (by omega) (by decide) mq_w_w dX8_feels_157 (fun H locs hM => ?_)
              exact me_vret hC hr hlk hM (by unfold feS fe4; rw [if_pos c_34, if_neg c_35]) (rfl) dX8_feels_158
            · have c_35q := c_35
              have c_35 := Int32.not_le.mp c_35
              refine lv_iconst (v := 1) hx hb dX8_feels_151 (by decide) ?_
              refine lv_goto (tgt := 156) hx hb dX8_feels_152 (by decide) ?_
              refine lv_iadd hx hb dX8_feels_156 ?_
              refine me_iast (k := 89 + 11 * k + 1) (M2 := mq tb mo F (upd (upd (fe3 (nz (hm w k)) k (fe2 k (fe1 (nz (hm w k)) k w))) (89 + 11 * k + 4) 0) (89 + 11 * k + 1) (((fe3 (nz (hm w k)) k (fe2 k (fe1 (nz (hm w k)) k w))) (89 + 11 * k + 1)) + 1)) av od sv sl nz ip ot M0) hC hM mq_w (nx_add rfl (show (1 : Int32) = nI 1 from rfl)) (by omega) (by decide) mq_w_w dX8_feels_157 (fun H locs hM => ?_)
              exact me_vret hC hr hlk hM (by unfold feS fe4; rw [if_pos c_34, if_pos c_35]) (rfl) dX8_feels_158
set_option maxHeartbeats 4000000 in
theorem c_X8_closes (l : Launch) (D : va_G) (tb : Nat → ClassId) (X : State → Prop) (z0 n : Nat) (mo : Nat) (F w av od sv sl nz ip ot : Nat → Int32) (M0 : me_M) (S B L P : Nat) (T : Nat)  (hO : ok1 S B L P T w) : Met l yX8_closes (.code yX8_closes cX8_closes 3 (some .int) :: ws_all) ({ frames := 2, cells := 0, slots := 0, locals := 41 } : Room) (me_Pc [.ref mo] D tb X z0 (mq tb mo F w av od sv sl nz ip ot M0) n) (me_Qi D z0 (nI (clN L 0 w)) (mq tb mo F (it clS L 0 w) av od sv sl nz ip ot M0) n) 0 0 (me_A z0) := by
  refine me_open (by decide) (Nat.le_of_ble_eq_true rfl) ?_
  intro p e s m args below meth c ls hC hr hlk hnm hM hl
  have hl : lv_has ls 3 [(0, .ref mo)] := hl
  have hx := hC.1
  have hb := hC.2.1
  have hw := hC.2.2.2.2.1
  obtain ⟨hW, hZ, hT⟩ := id hO
  obtain ⟨hS, hS0, hB, hB0, hL, hL0, hP, hP0, hwb, hwl⟩ := id hW
  refine lv_iconst (v := 0) hx hb dX8_closes_0 (by decide) ?_
  refine lv_istore_n (lv' := [(1, .int 0), (0, .ref mo)]) hx hb dX8_closes_1 rfl hl (by decide) rfl (fun ls hl => ?_)
  refine lv_iconst (v := 0) hx hb dX8_closes_2 (by decide) ?_
  refine lv_istore_n (lv' := [(2, .int 0), (1, .int 0), (0, .ref mo)]) hx hb dX8_closes_3 rfl hl (by decide) rfl (fun ls hl => ?_)
  have lp_4 : ∀ (r : Nat) (k : Nat) (w1 : Nat → Int32) (ct : Nat) (H : Heap) (locs : List Loc) (ls : Array Slot), (k + r = L) → (it clS L 0 w = it clS r k w1) → (ok1 S B L P T w1) → (clN L 0 w = ct + clN r k w1) → me_at D z0 (mq tb mo F w1 av od sv sl nz ip ot M0) n s H locs → lv_has ls 3 [(0, .ref mo), (1, .int (nI ct)), (2, .int (nI k))] → W p l e (({ frames := 2, cells := 0, slots := 0, locals := 41 } : Room)) s m args below meth c H locs 0 0 (MQ below (me_Qi D z0 (nI (clN L 0 w)) (mq tb mo F (it clS L 0 w) av od sv sl nz ip ot M0) n) args s 0 0 (me_A z0)) (F0 m 4 ls []) := by
    intro r
    refine Nat.strongRecOn r ?_
    intro r ih_4 k w1 ct H locs ls hk hq hO1 hc hM hl
    obtain ⟨hW1, hZ1, hT1⟩ := id hO1
    obtain ⟨hS, hS0, hB, hB0, hL, hL0, hP, hP0, hwb, hwl⟩ := id hW1
    refine lv_iload_n hx hb dX8_closes_4 rfl (lv_at hl 2 rfl) ?_
    refine lv_aload_n hx hb dX8_closes_5 rfl (lv_at hl 0 rfl) ?_
    refine fg_X8_13 hC hM mq_F rfl dX8_closes_6 ?_
    refine lv_bipush (v := 6) hx hb dX8_closes_9 (by decide) ?_
    refine me_iald (k := 6) hC hM mq_w (nx_c 6) (by omega) (by decide) dX8_closes_11 ?_
    refine lv_icmp_ge (tgt := 159) hx hb dX8_closes_12 (by decide) (fun c_1 => ?_) (fun c_1 => ?_)
    · have c_1 := (br_le hL rfl (by omega) (by omega)).mp c_1
      refine lv_iload_n hx hb dX8_closes_159 rfl (lv_at hl 1 rfl) ?_
      exact me_iret hC hr hlk hM (by rw [hc, show r = 0 by omega]; rfl) (by rw [hq, show r = 0 by omega]; rfl) (rfl) dX8_closes_160
    · have c_1 := (not_congr (br_le hL rfl (by omega) (by omega))).mp c_1
      obtain ⟨r1, rfl⟩ : ∃ r1, r = r1 + 1 := ⟨r - 1, by omega⟩
      refine lv_aload_n hx hb dX8_closes_15 rfl (lv_at hl 0 rfl) ?_
      refine fg_X8_13 hC hM mq_F rfl dX8_closes_16 ?_
      refine lv_iload_n hx hb dX8_closes_19 rfl (lv_at hl 2 rfl) ?_
      refine me_callSi (As := [.int (nI k)]) (rest := [.ref (mo + 2)]) hC hl.1 hM (c_X8_l l D tb X z0 n _ k ) (ks_X8_93 hw rfl rfl ⟨Nat.le_of_ble_eq_true rfl, Nat.le_of_ble_eq_true rfl⟩) rfl rfl (Nat.le_of_ble_eq_true rfl) dX8_closes_20 ⟨Nat.le_of_ble_eq_true rfl, Nat.le_of_ble_eq_true rfl⟩ (fun H locs hM => ?_)
      refine lv_iconst (v := 4) hx hb dX8_closes_23 (by decide) ?_
      refine lv_iadd hx hb dX8_closes_24 ?_
      refine me_iald (k := 261 + 5 * k + 4) hC hM mq_w (nx_add rfl (nx_c 4)) (by omega) (by decide) dX8_closes_25 ?_
      refine lv_iconst (v := 1) hx hb dX8_closes_26 (by decide) ?_
      refine lv_icmp_ne (tgt := 56) hx hb dX8_closes_27 (by decide) (fun c_2 => ?_) (fun c_2 => ?_)
      · have hM := hM.eq (M2 := mq tb mo F (enS k w1) av od sv sl nz ip ot M0) (by rw [show enS k w1 = _ from if_neg (fun z => c_2 z.1)])
        have hO2 := ok_en hO1 (show k < L by omega)
        have hkl_ := hO2.1.2.2.2.2.2.2.2.2.2 k (by omega)
        have hoo_ := ok_ho hO2 (show k < L by omega)
        refine lv_aload_n hx hb dX8_closes_56 rfl (lv_at hl 0 rfl) ?_
        refine fg_X8_13 hC hM mq_F rfl dX8_closes_57 ?_
        refine lv_iload_n hx hb dX8_closes_60 rfl (lv_at hl 2 rfl) ?_
        refine me_callSi (As := [.int (nI k)]) (rest := [.ref (mo + 2)]) hC hl.1 hM (c_X8_l l D tb X z0 n _ k ) (ks_X8_93 hw rfl rfl ⟨Nat.le_of_ble_eq_true rfl, Nat.le_of_ble_eq_true rfl⟩) rfl rfl (Nat.le_of_ble_eq_true rfl) dX8_closes_61 ⟨Nat.le_of_ble_eq_true rfl, Nat.le_of_ble_eq_true rfl⟩ (fun H locs hM => ?_)
        refine lv_iconst (v := 4) hx hb dX8_closes_64 (by decide) ?_
        refine lv_iadd hx hb dX8_closes_65 ?_
        refine me_iald (k := 261 + 5 * k + 4) hC hM mq_w (nx_add rfl (nx_c 4)) (by omega) (by decide) dX8_closes_66 ?_
        refine lv_iconst (v := 2) hx hb dX8_closes_67 (by decide) ?_
        refine lv_icmp_ne (tgt := 153) hx hb dX8_closes_68 (by decide) (fun c_3 => ?_) (fun c_3 => ?_)
        · refine lv_iinc (v := nI (k + 1)) (lv' := [(2, .int (nI (k + 1))), (0, .ref mo), (1, .int (nI ct))]) hx hb dX8_closes_153 hl (k := 2) rfl (nx_add rfl rfl) (by decide) rfl (fun ls hl => ?_)
          refine lv_goto (tgt := 4) hx hb dX8_closes_156 (by decide) ?_
          exact ih_4 r1 (by omega) (k + 1) (clS k w1) ct _ _ _ (by omega) hq (ok_cl1 hO1 (by omega)) (by rw [hc]; show ct + ((if laP (enS k w1) k then 1 else 0) + clN r1 (k + 1) (clS k w1)) = _; rw [if_neg (fun z => c_3 z.1)]; omega) (hM.eq (by unfold clS; rw [show chS k (enS k w1) = _ from if_neg (fun z => c_3 z.1)])) (lv_sub hl [1, 2, 0] rfl)
        · refine lv_aload_n hx hb dX8_closes_71 rfl (lv_at hl 0 rfl) ?_
          refine lv_iload_n hx hb dX8_closes_72 rfl (lv_at hl 2 rfl) ?_
          refine me_callVi (As := [.int (nI k)]) (rest := []) hC hl.1 hM (c_X8_endOf l D tb X z0 n mo F (enS k w1) av od sv sl nz ip ot M0 k (by omega)) (kv_X8_99 hw rfl rfl ⟨Nat.le_of_ble_eq_true rfl, Nat.le_of_ble_eq_true rfl⟩) rfl rfl mq_F rfl (Nat.le_of_ble_eq_true rfl) dX8_closes_73 ⟨Nat.le_of_ble_eq_true rfl, Nat.le_of_ble_eq_true rfl⟩ (fun H locs hM => ?_)
          refine lv_aload_n hx hb dX8_closes_76 rfl (lv_at hl 0 rfl) ?_
          refine fg_X8_13 hC hM mq_F rfl dX8_closes_77 ?_
          refine lv_iconst (v := 0) hx hb dX8_closes_80 (by decide) ?_
          refine me_iald (k := 0) hC hM mq_w (show (0 : Int32) = nI 0 from rfl) (by omega) (by decide) dX8_closes_81 ?_
          refine lv_iadd hx hb dX8_closes_82 ?_
          refine lv_aload_n hx hb dX8_closes_83 rfl (lv_at hl 0 rfl) ?_
          refine fg_X8_13 hC hM mq_F rfl dX8_closes_84 ?_
          refine lv_iconst (v := 2) hx hb dX8_closes_87 (by decide) ?_
          refine me_iald (k := 2) hC hM mq_w (nx_c 2) (by omega) (by decide) dX8_closes_88 ?_
          refine lv_icmp_ne (tgt := 153) hx hb dX8_closes_89 (by decide) (fun c_4 => ?_) (fun c_4 => ?_)
          · refine lv_iinc (v := nI (k + 1)) (lv' := [(2, .int (nI (k + 1))), (0, .ref mo), (1, .int (nI ct))]) hx hb dX8_closes_153 hl (k := 2) rfl (nx_add rfl rfl) (by decide) rfl (fun ls hl => ?_)
            refine lv_goto (tgt := 4) hx hb dX8_closes_156 (by decide) ?_
            exact ih_4 r1 (by omega) (k + 1) (clS k w1) ct _ _ _ (by omega) hq (ok_cl1 hO1 (by omega)) (by rw [hc]; show ct + ((if laP (enS k w1) k then 1 else 0) + clN r1 (k + 1) (clS k w1)) = _; rw [if_neg (fun z => c_4 z.2)]; omega) (hM.eq (by unfold clS; rw [show chS k (enS k w1) = _ from if_neg (fun z => c_4 z.2)])) (lv_sub hl [1, 2, 0] rfl)
          · refine lv_aload_n hx hb dX8_closes_92 rfl (lv_at hl 0 rfl) ?_
            refine fg_X8_13 hC hM mq_F rfl dX8_closes_93 ?_
            refine lv_iload_n hx hb dX8_closes_96 rfl (lv_at hl 2 rfl) ?_
            refine me_callSi (As := [.int (nI k)]) (rest := [.ref (mo + 2)]) hC hl.1 hM (c_X8_l l D tb X z0 n _ k ) (ks_X8_93 hw rfl rfl ⟨Nat.le_of_ble_eq_true rfl, Nat.le_of_ble_eq_true rfl⟩) rfl rfl (Nat.le_of_ble_eq_true rfl) dX8_closes_97 ⟨Nat.le_of_ble_eq_true rfl, Nat.le_of_ble_eq_true rfl⟩ (fun H locs hM => ?_)
            refine lv_iconst (v := 4) hx hb dX8_closes_100 (by decide) ?_
            refine lv_iadd hx hb dX8_closes_101 ?_
            refine lv_iconst (v := 4) hx hb dX8_closes_102 (by decide) ?_
            refine me_iast (k := 261 + 5 * k + 4) (M2 := mq tb mo F (upd (enS k w1) (261 + 5 * k + 4) 4) av od sv sl nz ip ot M0) hC hM mq_w (nx_add rfl (nx_c 4)) (by omega) (by decide) mq_w_w dX8_closes_103 (fun H locs hM => ?_)
            refine lv_aload_n hx hb dX8_closes_104 rfl (lv_at hl 0 rfl) ?_
            refine fg_X8_13 hC hM mq_F rfl dX8_closes_105 ?_
            refine lv_aload_n hx hb dX8_closes_108 rfl (lv_at hl 0 rfl) ?_
            refine fg_X8_13 hC hM mq_F rfl dX8_closes_109 ?_
            refine lv_iload_n hx hb dX8_closes_112 rfl (lv_at hl 2 rfl) ?_
            refine me_callSi (As := [.int (nI k)]) (rest := [.ref (mo + 2), .ref (mo + 2)]) hC hl.1 hM (c_X8_l l D tb X z0 n _ k ) (ks_X8_93 hw rfl rfl ⟨Nat.le_of_ble_eq_true rfl, Nat.le_of_ble_eq_true rfl⟩) rfl rfl (Nat.le_of_ble_eq_true rfl) dX8_closes_113 ⟨Nat.le_of_ble_eq_true rfl, Nat.le_of_ble_eq_true rfl⟩ (fun H locs hM => ?_)
            refine lv_iconst (v := 0) hx hb dX8_closes_116 (by decide) ?_
            refine lv_iadd hx hb dX8_closes_117 ?_
            refine me_iald (k := 261 + 5 * k) hC hM mq_w (nx_z rfl) (by omega) (by decide) dX8_closes_118 ?_
            refine me_evi (y := (enS k w1) (261 + 5 * k)) (upd_n (by omega)) ?_
            refine me_stk (st2 := [.int (nI (ow (enS k w1) k)), .ref (mo + 2)]) (by rw [hkl_.1]) ?_
            refine me_callSi (As := [.int (nI (ow (enS k w1) k))]) (rest := [.ref (mo + 2)]) hC hl.1 hM (c_X8_b l D tb X z0 n _ (ow (enS k w1) k) ) (ks_X8_78 hw rfl rfl ⟨Nat.le_of_ble_eq_true rfl, Nat.le_of_ble_eq_true rfl⟩) rfl rfl (Nat.le_of_ble_eq_true rfl) dX8_closes_119 ⟨Nat.le_of_ble_eq_true rfl, Nat.le_of_ble_eq_true rfl⟩ (fun H locs hM => ?_)
            refine lv_iconst (v := 2) hx hb dX8_closes_122 (by decide) ?_
            refine lv_iadd hx hb dX8_closes_123 ?_
            refine lv_dup2_11 hx hb dX8_closes_124 rfl rfl ?_
            refine me_iald (k := 89 + 11 * (ow (enS k w1) k) + 2) hC hM mq_w (nx_add rfl (nx_c 2)) (by omega) (by decide) dX8_closes_125 ?_
            refine me_evi (y := (enS k w1) (89 + 11 * (ow (enS k w1) k) + 2)) (upd_n (by omega)) ?_
            refine lv_aload_n hx hb dX8_closes_126 rfl (lv_at hl 0 rfl) ?_
            refine fg_X8_13 hC hM mq_F rfl dX8_closes_127 ?_
            refine lv_iconst (v := 1) hx hb dX8_closes_130 (by decide) ?_
            refine me_iald (k := 1) hC hM mq_w (show (1 : Int32) = nI 1 from rfl) (by omega) (by decide) dX8_closes_131 ?_
            refine me_evi (y := (enS k w1) 1) (upd_n (by omega)) ?_
            refine lv_isub hx hb dX8_closes_132 ?_
            refine me_iast (k := 89 + 11 * (ow (enS k w1) k) + 2) (M2 := mq tb mo F (upd (upd (enS k w1) (261 + 5 * k + 4) 4) (89 + 11 * (ow (enS k w1) k) + 2) (((enS k w1) (89 + 11 * (ow (enS k w1) k) + 2)) - ((enS k w1) 1))) av od sv sl nz ip ot M0) hC hM mq_w (nx_add rfl (nx_c 2)) (by omega) (by decide) mq_w_w dX8_closes_133 (fun H locs hM => ?_)
            refine lv_aload_n hx hb dX8_closes_134 rfl (lv_at hl 0 rfl) ?_
            refine fg_X8_13 hC hM mq_F rfl dX8_closes_135 ?_
            refine lv_bipush (v := 8) hx hb dX8_closes_138 (by decide) ?_
            refine lv_dup2_11 hx hb dX8_closes_140 rfl rfl ?_
            refine me_iald (k := 8) hC hM mq_w (nx_c 8) (by omega) (by decide) dX8_closes_141 ?_
            refine me_evi (y := (enS k w1) 8) ((upd_n (by omega)).trans (upd_n (by omega))) ?_
            refine lv_aload_n hx hb dX8_closes_142 rfl (lv_at hl 0 rfl) ?_
            refine fg_X8_13 hC hM mq_F rfl dX8_closes_143 ?_
            refine lv_iconst (v := 1) hx hb dX8_closes_146 (by decide) ?_
            refine me_iald (k := 1) hC hM mq_w (show (1 : Int32) = nI 1 from rfl) (by omega) (by decide) dX8_closes_147 ?_
            refine me_evi (y := (enS k w1) 1) ((upd_n (by omega)).trans (upd_n (by omega))) ?_
            refine lv_iadd hx hb dX8_closes_148 ?_
            refine me_iast (k := 8) (M2 := mq tb mo F (upd (upd (upd (enS k w1) (261 + 5 * k + 4) 4) (89 + 11 * (ow (enS k w1) k) + 2) (((enS k w1) (89 + 11 * (ow (enS k w1) k) + 2)) - ((enS k w1) 1))) 8 (((enS k w1) 8) + ((enS k w1) 1))) av od sv sl nz ip ot M0) hC hM mq_w (nx_c 8) (by omega) (by decide) mq_w_w dX8_closes_149 (fun H locs hM => ?_)
            refine lv_iinc (v := nI (ct + 1)) (lv' := [(1, .int (nI (ct + 1))), (0, .ref mo), (2, .int (nI k))]) hx hb dX8_closes_150 hl (k := 1) rfl (nx_add rfl rfl) (by decide) rfl (fun ls hl => ?_)
            refine lv_iinc (v := nI (k + 1)) (lv' := [(2, .int (nI (k + 1))), (1, .int (nI (ct + 1))), (0, .ref mo)]) hx hb dX8_closes_153 hl (k := 2) rfl (nx_add rfl rfl) (by decide) rfl (fun ls hl => ?_)
            refine lv_goto (tgt := 4) hx hb dX8_closes_156 (by decide) ?_
            exact ih_4 r1 (by omega) (k + 1) (clS k w1) (ct + 1) _ _ _ (by omega) hq (ok_cl1 hO1 (by omega)) (by rw [hc]; show ct + ((if laP (enS k w1) k then 1 else 0) + clN r1 (k + 1) (clS k w1)) = _; rw [if_pos (⟨c_3, c_4⟩)]; omega) (hM.eq (by unfold clS; rw [show chS k (enS k w1) = _ from if_pos (⟨c_3, c_4⟩)])) (lv_sub hl [2, 1, 0] rfl)
      · refine lv_aload_n hx hb dX8_closes_30 rfl (lv_at hl 0 rfl) ?_
        refine lv_iload_n hx hb dX8_closes_31 rfl (lv_at hl 2 rfl) ?_
        refine me_callVi (As := [.int (nI k)]) (rest := []) hC hl.1 hM (c_X8_endOf l D tb X z0 n mo F w1 av od sv sl nz ip ot M0 k (by omega)) (kv_X8_99 hw rfl rfl ⟨Nat.le_of_ble_eq_true rfl, Nat.le_of_ble_eq_true rfl⟩) rfl rfl mq_F rfl (Nat.le_of_ble_eq_true rfl) dX8_closes_32 ⟨Nat.le_of_ble_eq_true rfl, Nat.le_of_ble_eq_true rfl⟩ (fun H locs hM => ?_)
        refine lv_aload_n hx hb dX8_closes_35 rfl (lv_at hl 0 rfl) ?_
        refine fg_X8_13 hC hM mq_F rfl dX8_closes_36 ?_
        refine lv_iconst (v := 2) hx hb dX8_closes_39 (by decide) ?_
        refine me_iald (k := 2) hC hM mq_w (nx_c 2) (by omega) (by decide) dX8_closes_40 ?_
        refine lv_icmp_ne (tgt := 56) hx hb dX8_closes_41 (by decide) (fun c_5 => ?_) (fun c_5 => ?_)
        · have hM := hM.eq (M2 := mq tb mo F (enS k w1) av od sv sl nz ip ot M0) (by rw [show enS k w1 = _ from if_neg (fun z => c_5 z.2)])
          have hO2 := ok_en hO1 (show k < L by omega)
          have hkl_ := hO2.1.2.2.2.2.2.2.2.2.2 k (by omega)
          have hoo_ := ok_ho hO2 (show k < L by omega)
          refine lv_aload_n hx hb dX8_closes_56 rfl (lv_at hl 0 rfl) ?_
          refine fg_X8_13 hC hM mq_F rfl dX8_closes_57 ?_
          refine lv_iload_n hx hb dX8_closes_60 rfl (lv_at hl 2 rfl) ?_
          refine me_callSi (As := [.int (nI k)]) (rest := [.ref (mo + 2)]) hC hl.1 hM (c_X8_l l D tb X z0 n _ k ) (ks_X8_93 hw rfl rfl ⟨Nat.le_of_ble_eq_true rfl, Nat.le_of_ble_eq_true rfl⟩) rfl rfl (Nat.le_of_ble_eq_true rfl) dX8_closes_61 ⟨Nat.le_of_ble_eq_true rfl, Nat.le_of_ble_eq_true rfl⟩ (fun H locs hM => ?_)
          refine lv_iconst (v := 4) hx hb dX8_closes_64 (by decide) ?_
          refine lv_iadd hx hb dX8_closes_65 ?_
          refine me_iald (k := 261 + 5 * k + 4) hC hM mq_w (nx_add rfl (nx_c 4)) (by omega) (by decide) dX8_closes_66 ?_
          refine lv_iconst (v := 2) hx hb dX8_closes_67 (by decide) ?_
          refine lv_icmp_ne (tgt := 153) hx hb dX8_closes_68 (by decide) (fun c_6 => ?_) (fun c_6 => ?_)
          · refine lv_iinc (v := nI (k + 1)) (lv' := [(2, .int (nI (k + 1))), (0, .ref mo), (1, .int (nI ct))]) hx hb dX8_closes_153 hl (k := 2) rfl (nx_add rfl rfl) (by decide) rfl (fun ls hl => ?_)
            refine lv_goto (tgt := 4) hx hb dX8_closes_156 (by decide) ?_
            exact ih_4 r1 (by omega) (k + 1) (clS k w1) ct _ _ _ (by omega) hq (ok_cl1 hO1 (by omega)) (by rw [hc]; show ct + ((if laP (enS k w1) k then 1 else 0) + clN r1 (k + 1) (clS k w1)) = _; rw [if_neg (fun z => c_6 z.1)]; omega) (hM.eq (by unfold clS; rw [show chS k (enS k w1) = _ from if_neg (fun z => c_6 z.1)])) (lv_sub hl [1, 2, 0] rfl)
          · refine lv_aload_n hx hb dX8_closes_71 rfl (lv_at hl 0 rfl) ?_
            refine lv_iload_n hx hb dX8_closes_72 rfl (lv_at hl 2 rfl) ?_
            refine me_callVi (As := [.int (nI k)]) (rest := []) hC hl.1 hM (c_X8_endOf l D tb X z0 n mo F (enS k w1) av od sv sl nz ip ot M0 k (by omega)) (kv_X8_99 hw rfl rfl ⟨Nat.le_of_ble_eq_true rfl, Nat.le_of_ble_eq_true rfl⟩) rfl rfl mq_F rfl (Nat.le_of_ble_eq_true rfl) dX8_closes_73 ⟨Nat.le_of_ble_eq_true rfl, Nat.le_of_ble_eq_true rfl⟩ (fun H locs hM => ?_)
            refine lv_aload_n hx hb dX8_closes_76 rfl (lv_at hl 0 rfl) ?_
            refine fg_X8_13 hC hM mq_F rfl dX8_closes_77 ?_
            refine lv_iconst (v := 0) hx hb dX8_closes_80 (by decide) ?_
            refine me_iald (k := 0) hC hM mq_w (show (0 : Int32) = nI 0 from rfl) (by omega) (by decide) dX8_closes_81 ?_
            refine lv_iadd hx hb dX8_closes_82 ?_
            refine lv_aload_n hx hb dX8_closes_83 rfl (lv_at hl 0 rfl) ?_
            refine fg_X8_13 hC hM mq_F rfl dX8_closes_84 ?_
            refine lv_iconst (v := 2) hx hb dX8_closes_87 (by decide) ?_
            refine me_iald (k := 2) hC hM mq_w (nx_c 2) (by omega) (by decide) dX8_closes_88 ?_
            refine lv_icmp_ne (tgt := 153) hx hb dX8_closes_89 (by decide) (fun c_7 => ?_) (fun c_7 => ?_)
            · refine lv_iinc (v := nI (k + 1)) (lv' := [(2, .int (nI (k + 1))), (0, .ref mo), (1, .int (nI ct))]) hx hb dX8_closes_153 hl (k := 2) rfl (nx_add rfl rfl) (by decide) rfl (fun ls hl => ?_)
              refine lv_goto (tgt := 4) hx hb dX8_closes_156 (by decide) ?_
              exact ih_4 r1 (by omega) (k + 1) (clS k w1) ct _ _ _ (by omega) hq (ok_cl1 hO1 (by omega)) (by rw [hc]; show ct + ((if laP (enS k w1) k then 1 else 0) + clN r1 (k + 1) (clS k w1)) = _; rw [if_neg (fun z => c_7 z.2)]; omega) (hM.eq (by unfold clS; rw [show chS k (enS k w1) = _ from if_neg (fun z => c_7 z.2)])) (lv_sub hl [1, 2, 0] rfl)
            · refine lv_aload_n hx hb dX8_closes_92 rfl (lv_at hl 0 rfl) ?_
              refine fg_X8_13 hC hM mq_F rfl dX8_closes_93 ?_
              refine lv_iload_n hx hb dX8_closes_96 rfl (lv_at hl 2 rfl) ?_
              refine me_callSi (As := [.int (nI k)]) (rest := [.ref (mo + 2)]) hC hl.1 hM (c_X8_l l D tb X z0 n _ k ) (ks_X8_93 hw rfl rfl ⟨Nat.le_of_ble_eq_true rfl, Nat.le_of_ble_eq_true rfl⟩) rfl rfl (Nat.le_of_ble_eq_true rfl) dX8_closes_97 ⟨Nat.le_of_ble_eq_true rfl, Nat.le_of_ble_eq_true rfl⟩ (fun H locs hM => ?_)
              refine lv_iconst (v := 4) hx hb dX8_closes_100 (by decide) ?_
              refine lv_iadd hx hb dX8_closes_101 ?_
              refine lv_iconst (v := 4) hx hb dX8_closes_102 (by decide) ?_
              refine me_iast (k := 261 + 5 * k + 4) (M2 := mq tb mo F (upd (enS k w1) (261 + 5 * k + 4) 4) av od sv sl nz ip ot M0) hC hM mq_w (nx_add rfl (nx_c 4)) (by omega) (by decide) mq_w_w dX8_closes_103 (fun H locs hM => ?_)
              refine lv_aload_n hx hb dX8_closes_104 rfl (lv_at hl 0 rfl) ?_
              refine fg_X8_13 hC hM mq_F rfl dX8_closes_105 ?_
              refine lv_aload_n hx hb dX8_closes_108 rfl (lv_at hl 0 rfl) ?_
              refine fg_X8_13 hC hM mq_F rfl dX8_closes_109 ?_
              refine lv_iload_n hx hb dX8_closes_112 rfl (lv_at hl 2 rfl) ?_
              refine me_callSi (As := [.int (nI k)]) (rest := [.ref (mo + 2), .ref (mo + 2)]) hC hl.1 hM (c_X8_l l D tb X z0 n _ k ) (ks_X8_93 hw rfl rfl ⟨Nat.le_of_ble_eq_true rfl, Nat.le_of_ble_eq_true rfl⟩) rfl rfl (Nat.le_of_ble_eq_true rfl) dX8_closes_113 ⟨Nat.le_of_ble_eq_true rfl, Nat.le_of_ble_eq_true rfl⟩ (fun H locs hM => ?_)
              refine lv_iconst (v := 0) hx hb dX8_closes_116 (by decide) ?_
              refine lv_iadd hx hb dX8_closes_117 ?_
              refine me_iald (k := 261 + 5 * k) hC hM mq_w (nx_z rfl) (by omega) (by decide) dX8_closes_118 ?_
              refine me_evi (y := (enS k w1) (261 + 5 * k)) (upd_n (by omega)) ?_
              refine me_stk (st2 := [.int (nI (ow (enS k w1) k)), .ref (mo + 2)]) (by rw [hkl_.1]) ?_
              refine me_callSi (As := [.int (nI (ow (enS k w1) k))]) (rest := [.ref (mo + 2)]) hC hl.1 hM (c_X8_b l D tb X z0 n _ (ow (enS k w1) k) ) (ks_X8_78 hw rfl rfl ⟨Nat.le_of_ble_eq_true rfl, Nat.le_of_ble_eq_true rfl⟩) rfl rfl (Nat.le_of_ble_eq_true rfl) dX8_closes_119 ⟨Nat.le_of_ble_eq_true rfl, Nat.le_of_ble_eq_true rfl⟩ (fun H locs hM => ?_)
              refine lv_iconst (v := 2) hx hb dX8_closes_122 (by decide) ?_
              refine lv_iadd hx hb dX8_closes_123 ?_
              refine lv_dup2_11 hx hb dX8_closes_124 rfl rfl ?_
              refine me_iald (k := 89 + 11 * (ow (enS k w1) k) + 2) hC hM mq_w (nx_add rfl (nx_c 2)) (by omega) (by decide) dX8_closes_125 ?_
              refine me_evi (y := (enS k w1) (89 + 11 * (ow (enS k w1) k) + 2)) (upd_n (by omega)) ?_
              refine lv_aload_n hx hb dX8_closes_126 rfl (lv_at hl 0 rfl) ?_
              refine fg_X8_13 hC hM mq_F rfl dX8_closes_127 ?_
              refine lv_iconst (v := 1) hx hb dX8_closes_130 (by decide) ?_
              refine me_iald (k := 1) hC hM mq_w (show (1 : Int32) = nI 1 from rfl) (by omega) (by decide) dX8_closes_131 ?_
              refine me_evi (y := (enS k w1) 1) (upd_n (by omega)) ?_
              refine lv_isub hx hb dX8_closes_132 ?_
              refine me_iast (k := 89 + 11 * (ow (enS k w1) k) + 2) (M2 := mq tb mo F (upd (upd (enS k w1) (261 + 5 * k + 4) 4) (89 + 11 * (ow (enS k w1) k) + 2) (((enS k w1) (89 + 11 * (ow (enS k w1) k) + 2)) - ((enS k w1) 1))) av od sv sl nz ip ot M0) hC hM mq_w (nx_add rfl (nx_c 2)) (by omega) (by decide) mq_w_w dX8_closes_133 (fun H locs hM => ?_)
              refine lv_aload_n hx hb dX8_closes_134 rfl (lv_at hl 0 rfl) ?_
              refine fg_X8_13 hC hM mq_F rfl dX8_closes_135 ?_
              refine lv_bipush (v := 8) hx hb dX8_closes_138 (by decide) ?_
              refine lv_dup2_11 hx hb dX8_closes_140 rfl rfl ?_
              refine me_iald (k := 8) hC hM mq_w (nx_c 8) (by omega) (by decide) dX8_closes_141 ?_
              refine me_evi (y := (enS k w1) 8) ((upd_n (by omega)).trans (upd_n (by omega))) ?_
              refine lv_aload_n hx hb dX8_closes_142 rfl (lv_at hl 0 rfl) ?_
              refine fg_X8_13 hC hM mq_F rfl dX8_closes_143 ?_
              refine lv_iconst (v := 1) hx hb dX8_closes_146 (by decide) ?_
              refine me_iald (k := 1) hC hM mq_w (show (1 : Int32) = nI 1 from rfl) (by omega) (by decide) dX8_closes_147 ?_
              refine me_evi (y := (enS k w1) 1) ((upd_n (by omega)).trans (upd_n (by omega))) ?_
              refine lv_iadd hx hb dX8_closes_148 ?_
              refine me_iast (k := 8) (M2 := mq tb mo F (upd (upd (upd (enS k w1) (261 + 5 * k + 4) 4) (89 + 11 * (ow (enS k w1) k) + 2) (((enS k w1) (89 + 11 * (ow (enS k w1) k) + 2)) - ((enS k w1) 1))) 8 (((enS k w1) 8) + ((enS k w1) 1))) av od sv sl nz ip ot M0) hC hM mq_w (nx_c 8) (by omega) (by decide) mq_w_w dX8_closes_149 (fun H locs hM => ?_)
              refine lv_iinc (v := nI (ct + 1)) (lv' := [(1, .int (nI (ct + 1))), (0, .ref mo), (2, .int (nI k))]) hx hb dX8_closes_150 hl (k := 1) rfl (nx_add rfl rfl) (by decide) rfl (fun ls hl => ?_)
              refine lv_iinc (v := nI (k + 1)) (lv' := [(2, .int (nI (k + 1))), (1, .int (nI (ct + 1))), (0, .ref mo)]) hx hb dX8_closes_153 hl (k := 2) rfl (nx_add rfl rfl) (by decide) rfl (fun ls hl => ?_)
              refine lv_goto (tgt := 4) hx hb dX8_closes_156 (by decide) ?_
              exact ih_4 r1 (by omega) (k + 1) (clS k w1) (ct + 1) _ _ _ (by omega) hq (ok_cl1 hO1 (by omega)) (by rw [hc]; show ct + ((if laP (enS k w1) k then 1 else 0) + clN r1 (k + 1) (clS k w1)) = _; rw [if_pos (⟨c_6, c_7⟩)]; omega) (hM.eq (by unfold clS; rw [show chS k (enS k w1) = _ from if_pos (⟨c_6, c_7⟩)])) (lv_sub hl [2, 1, 0] rfl)
        · refine lv_aload_n hx hb dX8_closes_44 rfl (lv_at hl 0 rfl) ?_
          refine fg_X8_13 hC hM mq_F rfl dX8_closes_45 ?_
          refine lv_iload_n hx hb dX8_closes_48 rfl (lv_at hl 2 rfl) ?_
          refine me_callSi (As := [.int (nI k)]) (rest := [.ref (mo + 2)]) hC hl.1 hM (c_X8_l l D tb X z0 n _ k ) (ks_X8_93 hw rfl rfl ⟨Nat.le_of_ble_eq_true rfl, Nat.le_of_ble_eq_true rfl⟩) rfl rfl (Nat.le_of_ble_eq_true rfl) dX8_closes_49 ⟨Nat.le_of_ble_eq_true rfl, Nat.le_of_ble_eq_true rfl⟩ (fun H locs hM => ?_)
          refine lv_iconst (v := 4) hx hb dX8_closes_52 (by decide) ?_
          refine lv_iadd hx hb dX8_closes_53 ?_
          refine lv_iconst (v := 2) hx hb dX8_closes_54 (by decide) ?_
          refine me_iast (k := 261 + 5 * k + 4) (M2 := mq tb mo F (upd w1 (261 + 5 * k + 4) 2) av od sv sl nz ip ot M0) hC hM mq_w (nx_add rfl (nx_c 4)) (by omega) (by decide) mq_w_w dX8_closes_55 (fun H locs hM => ?_)
          have hM := hM.eq (M2 := mq tb mo F (enS k w1) av od sv sl nz ip ot M0) (by rw [show enS k w1 = _ from if_pos ⟨c_2, c_5⟩])
          have hO2 := ok_en hO1 (show k < L by omega)
          have hkl_ := hO2.1.2.2.2.2.2.2.2.2.2 k (by omega)
          have hoo_ := ok_ho hO2 (show k < L by omega)
          refine lv_aload_n hx hb dX8_closes_56 rfl (lv_at hl 0 rfl) ?_
          refine fg_X8_13 hC hM mq_F rfl dX8_closes_57 ?_
          refine lv_iload_n hx hb dX8_closes_60 rfl (lv_at hl 2 rfl) ?_
          refine me_callSi (As := [.int (nI k)]) (rest := [.ref (mo + 2)]) hC hl.1 hM (c_X8_l l D tb X z0 n _ k ) (ks_X8_93 hw rfl rfl ⟨Nat.le_of_ble_eq_true rfl, Nat.le_of_ble_eq_true rfl⟩) rfl rfl (Nat.le_of_ble_eq_true rfl) dX8_closes_61 ⟨Nat.le_of_ble_eq_true rfl, Nat.le_of_ble_eq_true rfl⟩ (fun H locs hM => ?_)
          refine lv_iconst (v := 4) hx hb dX8_closes_64 (by decide) ?_
          refine lv_iadd hx hb dX8_closes_65 ?_
          refine me_iald (k := 261 + 5 * k + 4) hC hM mq_w (nx_add rfl (nx_c 4)) (by omega) (by decide) dX8_closes_66 ?_
          refine lv_iconst (v := 2) hx hb dX8_closes_67 (by decide) ?_
          refine lv_icmp_ne (tgt := 153) hx hb dX8_closes_68 (by decide) (fun c_8 => ?_) (fun c_8 => ?_)
          · refine lv_iinc (v := nI (k + 1)) (lv' := [(2, .int (nI (k + 1))), (0, .ref mo), (1, .int (nI ct))]) hx hb dX8_closes_153 hl (k := 2) rfl (nx_add rfl rfl) (by decide) rfl (fun ls hl => ?_)
            refine lv_goto (tgt := 4) hx hb dX8_closes_156 (by decide) ?_
            exact ih_4 r1 (by omega) (k + 1) (clS k w1) ct _ _ _ (by omega) hq (ok_cl1 hO1 (by omega)) (by rw [hc]; show ct + ((if laP (enS k w1) k then 1 else 0) + clN r1 (k + 1) (clS k w1)) = _; rw [if_neg (fun z => c_8 z.1)]; omega) (hM.eq (by unfold clS; rw [show chS k (enS k w1) = _ from if_neg (fun z => c_8 z.1)])) (lv_sub hl [1, 2, 0] rfl)
          · refine lv_aload_n hx hb dX8_closes_71 rfl (lv_at hl 0 rfl) ?_
            refine lv_iload_n hx hb dX8_closes_72 rfl (lv_at hl 2 rfl) ?_
            refine me_callVi (As := [.int (nI k)]) (rest := []) hC hl.1 hM (c_X8_endOf l D tb X z0 n mo F (enS k w1) av od sv sl nz ip ot M0 k (by omega)) (kv_X8_99 hw rfl rfl ⟨Nat.le_of_ble_eq_true rfl, Nat.le_of_ble_eq_true rfl⟩) rfl rfl mq_F rfl (Nat.le_of_ble_eq_true rfl) dX8_closes_73 ⟨Nat.le_of_ble_eq_true rfl, Nat.le_of_ble_eq_true rfl⟩ (fun H locs hM => ?_)
            refine lv_aload_n hx hb dX8_closes_76 rfl (lv_at hl 0 rfl) ?_
            refine fg_X8_13 hC hM mq_F rfl dX8_closes_77 ?_
            refine lv_iconst (v := 0) hx hb dX8_closes_80 (by decide) ?_
            refine me_iald (k := 0) hC hM mq_w (show (0 : Int32) = nI 0 from rfl) (by omega) (by decide) dX8_closes_81 ?_
            refine lv_iadd hx hb dX8_closes_82 ?_
            refine lv_aload_n hx hb dX8_closes_83 rfl (lv_at hl 0 rfl) ?_
            refine fg_X8_13 hC hM mq_F rfl dX8_closes_84 ?_
            refine lv_iconst (v := 2) hx hb dX8_closes_87 (by decide) ?_
            refine me_iald (k := 2) hC hM mq_w (nx_c 2) (by omega) (by decide) dX8_closes_88 ?_
            refine lv_icmp_ne (tgt := 153) hx hb dX8_closes_89 (by decide) (fun c_9 => ?_) (fun c_9 => ?_)
            · refine lv_iinc (v := nI (k + 1)) (lv' := [(2, .int (nI (k + 1))), (0, .ref mo), (1, .int (nI ct))]) hx hb dX8_closes_153 hl (k := 2) rfl (nx_add rfl rfl) (by decide) rfl (fun ls hl => ?_)
              refine lv_goto (tgt := 4) hx hb dX8_closes_156 (by decide) ?_
              exact ih_4 r1 (by omega) (k + 1) (clS k w1) ct _ _ _ (by omega) hq (ok_cl1 hO1 (by omega)) (by rw [hc]; show ct + ((if laP (enS k w1) k then 1 else 0) + clN r1 (k + 1) (clS k w1)) = _; rw [if_neg (fun z => c_9 z.2)]; omega) (hM.eq (by unfold clS; rw [show chS k (enS k w1) = _ from if_neg (fun z => c_9 z.2)])) (lv_sub hl [1, 2, 0] rfl)
            · refine lv_aload_n hx hb dX8_closes_92 rfl (lv_at hl 0 rfl) ?_
              refine fg_X8_13 hC hM mq_F rfl dX8_closes_93 ?_
              refine lv_iload_n hx hb dX8_closes_96 rfl (lv_at hl 2 rfl) ?_
              refine me_callSi (As := [.int (nI k)]) (rest := [.ref (mo + 2)]) hC hl.1 hM (c_X8_l l D tb X z0 n _ k ) (ks_X8_93 hw rfl rfl ⟨Nat.le_of_ble_eq_true rfl, Nat.le_of_ble_eq_true rfl⟩) rfl rfl (Nat.le_of_ble_eq_true rfl) dX8_closes_97 ⟨Nat.le_of_ble_eq_true rfl, Nat.le_of_ble_eq_true rfl⟩ (fun H locs hM => ?_)
              refine lv_iconst (v := 4) hx hb dX8_closes_100 (by decide) ?_
              refine lv_iadd hx hb dX8_closes_101 ?_
              refine lv_iconst (v := 4) hx hb dX8_closes_102 (by decide) ?_
              refine me_iast (k := 261 + 5 * k + 4) (M2 := mq tb mo F (upd (enS k w1) (261 + 5 * k + 4) 4) av od sv sl nz ip ot M0) hC hM mq_w (nx_add rfl (nx_c 4)) (by omega) (by decide) mq_w_w dX8_closes_103 (fun H locs hM => ?_)
              refine lv_aload_n hx hb dX8_closes_104 rfl (lv_at hl 0 rfl) ?_
              refine fg_X8_13 hC hM mq_F rfl dX8_closes_105 ?_
              refine lv_aload_n hx hb dX8_closes_108 rfl (lv_at hl 0 rfl) ?_
              refine fg_X8_13 hC hM mq_F rfl dX8_closes_109 ?_
              refine lv_iload_n hx hb dX8_closes_112 rfl (lv_at hl 2 rfl) ?_
              refine me_callSi (As := [.int (nI k)]) (rest := [.ref (mo + 2), .ref (mo + 2)]) hC hl.1 hM (c_X8_l l D tb X z0 n _ k ) (ks_X8_93 hw rfl rfl ⟨Nat.le_of_ble_eq_true rfl, Nat.le_of_ble_eq_true rfl⟩) rfl rfl (Nat.le_of_ble_eq_true rfl) dX8_closes_113 ⟨Nat.le_of_ble_eq_true rfl, Nat.le_of_ble_eq_true rfl⟩ (fun H locs hM => ?_)
              refine lv_iconst (v := 0) hx hb dX8_closes_116 (by decide) ?_
              refine lv_iadd hx hb dX8_closes_117 ?_
              refine me_iald (k := 261 + 5 * k) hC hM mq_w (nx_z rfl) (by omega) (by decide) dX8_closes_118 ?_
              refine me_evi (y := (enS k w1) (261 + 5 * k)) (upd_n (by omega)) ?_
              refine me_stk (st2 := [.int (nI (ow (enS k w1) k)), .ref (mo + 2)]) (by rw [hkl_.1]) ?_
              refine me_callSi (As := [.int (nI (ow (enS k w1) k))]) (rest := [.ref (mo + 2)]) hC hl.1 hM (c_X8_b l D tb X z0 n _ (ow (enS k w1) k) ) (ks_X8_78 hw rfl rfl ⟨Nat.le_of_ble_eq_true rfl, Nat.le_of_ble_eq_true rfl⟩) rfl rfl (Nat.le_of_ble_eq_true rfl) dX8_closes_119 ⟨Nat.le_of_ble_eq_true rfl, Nat.le_of_ble_eq_true rfl⟩ (fun H locs hM => ?_)
              refine lv_iconst (v := 2) hx hb dX8_closes_122 (by decide) ?_
              refine lv_iadd hx hb dX8_closes_123 ?_
              refine lv_dup2_11 hx hb dX8_closes_124 rfl rfl ?_
              refine me_iald (k := 89 + 11 * (ow (enS k w1) k) + 2) hC hM mq_w (nx_add rfl (nx_c 2)) (by omega) (by decide) dX8_closes_125 ?_
              refine me_evi (y := (enS k w1) (89 + 11 * (ow (enS k w1) k) + 2)) (upd_n (by omega)) ?_
              refine lv_aload_n hx hb dX8_closes_126 rfl (lv_at hl 0 rfl) ?_
              refine fg_X8_13 hC hM mq_F rfl dX8_closes_127 ?_
              refine lv_iconst (v := 1) hx hb dX8_closes_130 (by decide) ?_
              refine me_iald (k := 1) hC hM mq_w (show (1 : Int32) = nI 1 from rfl) (by omega) (by decide) dX8_closes_131 ?_
              refine me_evi (y := (enS k w1) 1) (upd_n (by omega)) ?_
              refine lv_isub hx hb dX8_closes_132 ?_
              refine me_iast (k := 89 + 11 * (ow (enS k w1) k) + 2) (M2 := mq tb mo F (upd (upd (enS k w1) (261 + 5 * k + 4) 4) (89 + 11 * (ow (enS k w1) k) + 2) (((enS k w1) (89 + 11 * (ow (enS k w1) k) + 2)) - ((enS k w1) 1))) av od sv sl nz ip ot M0) hC hM mq_w (nx_add rfl (nx_c 2)) (by omega) (by decide) mq_w_w dX8_closes_133 (fun H locs hM => ?_)
              refine lv_aload_n hx hb dX8_closes_134 rfl (lv_at hl 0 rfl) ?_
              refine fg_X8_13 hC hM mq_F rfl dX8_closes_135 ?_
              refine lv_bipush (v := 8) hx hb dX8_closes_138 (by decide) ?_
              refine lv_dup2_11 hx hb dX8_closes_140 rfl rfl ?_
              refine me_iald (k := 8) hC hM mq_w (nx_c 8) (by omega) (by decide) dX8_closes_141 ?_
              refine me_evi (y := (enS k w1) 8) ((upd_n (by omega)).trans (upd_n (by omega))) ?_
              refine lv_aload_n hx hb dX8_closes_142 rfl (lv_at hl 0 rfl) ?_
              refine fg_X8_13 hC hM mq_F rfl dX8_closes_143 ?_
              refine lv_iconst (v := 1) hx hb dX8_closes_146 (by decide) ?_
              refine me_iald (k := 1) hC hM mq_w (show (1 : Int32) = nI 1 from rfl) (by omega) (by decide) dX8_closes_147 ?_
              refine me_evi (y := (enS k w1) 1) ((upd_n (by omega)).trans (upd_n (by omega))) ?_
              refine lv_iadd hx hb dX8_closes_148 ?_
              refine me_iast (k := 8) (M2 := mq tb mo F (upd (upd (upd (enS k w1) (261 + 5 * k + 4) 4) (89 + 11 * (ow (enS k w1) k) + 2) (((enS k w1) (89 + 11 * (ow (enS k w1) k) + 2)) - ((enS k w1) 1))) 8 (((enS k w1) 8) + ((enS k w1) 1))) av od sv sl nz ip ot M0) hC hM mq_w (nx_c 8) (by omega) (by decide) mq_w_w dX8_closes_149 (fun H locs hM => ?_)
              refine lv_iinc (v := nI (ct + 1)) (lv' := [(1, .int (nI (ct + 1))), (0, .ref mo), (2, .int (nI k))]) hx hb dX8_closes_150 hl (k := 1) rfl (nx_add rfl rfl) (by decide) rfl (fun ls hl => ?_)
              refine lv_iinc (v := nI (k + 1)) (lv' := [(2, .int (nI (k + 1))), (1, .int (nI (ct + 1))), (0, .ref mo)]) hx hb dX8_closes_153 hl (k := 2) rfl (nx_add rfl rfl) (by decide) rfl (fun ls hl => ?_)
              refine lv_goto (tgt := 4) hx hb dX8_closes_156 (by decide) ?_
              exact ih_4 r1 (by omega) (k + 1) (clS k w1) (ct + 1) _ _ _ (by omega) hq (ok_cl1 hO1 (by omega)) (by rw [hc]; show ct + ((if laP (enS k w1) k then 1 else 0) + clN r1 (k + 1) (clS k w1)) = _; rw [if_pos (⟨c_8, c_9⟩)]; omega) (hM.eq (by unfold clS; rw [show chS k (enS k w1) = _ from if_pos (⟨c_8, c_9⟩)])) (lv_sub hl [2, 1, 0] rfl)
  exact lp_4 L 0 w 0 _ _ _ (by omega) rfl hO ((Nat.zero_add _).symm) hM (lv_sub hl [2, 1, 0] rfl)
set_option maxHeartbeats 4000000 in
theorem c_X8_hour (l : Launch) (D : va_G) (tb : Nat → ClassId) (X : State → Prop) (z0 n : Nat) (mo : Nat) (F w av od sv sl nz ip ot : Nat → Int32) (M0 : me_M) (S B L P : Nat) (T : Nat)  (hO : ok1 S B L P T w) (hT0 : T ≤ 10200) : Met l yX8_hour (.code yX8_hour cX8_hour 2 (some .int) :: ws_all) ({ frames := 6, cells := 0, slots := 0, locals := 131 } : Room) (me_Pc [.ref mo] D tb X z0 (mq tb mo F w av od sv sl nz ip ot M0) n) (me_Qi D z0 (nI (clN L 0 (hmA S B L P w nz))) (mq tb mo F ((hmS S B L P (w, nz)).1) av od sv sl ((hmS S B L P (w, nz)).2) ip ot M0) n) 0 0 (me_A z0) := by
  refine me_open (by decide) (Nat.le_of_ble_eq_true rfl) ?_
  intro p e s m args below meth c ls hC hr hlk hnm hM hl
  have hl : lv_has ls 2 [(0, .ref mo)] := hl
  have hx := hC.1
  have hb := hC.2.1
  have hw := hC.2.2.2.2.1
  obtain ⟨hW, hZ, hT⟩ := id hO
  obtain ⟨hS, hS0, hB, hB0, hL, hL0, hP, hP0, hwb, hwl⟩ := id hW
  refine lv_aload_n hx hb dX8_hour_0 rfl (lv_at hl 0 rfl) ?_
  refine me_callVv (As := []) (rest := []) hC hl.1 hM (c_X8_begins l D tb X z0 n mo F w av od sv sl nz ip ot M0 S B L P T hO) (kv_X8_147 hw rfl rfl ⟨Nat.le_of_ble_eq_true rfl, Nat.le_of_ble_eq_true rfl⟩) rfl rfl mq_F rfl (Nat.le_of_ble_eq_true rfl) dX8_hour_1 ⟨Nat.le_of_ble_eq_true rfl, Nat.le_of_ble_eq_true rfl⟩ (fun H locs hM => ?_)
  refine lv_aload_n hx hb dX8_hour_4 rfl (lv_at hl 0 rfl) ?_
  refine me_callVv (As := []) (rest := []) hC hl.1 hM (c_X8_sounds l D tb X z0 n mo F (it bgS L 0 w) av od sv sl nz ip ot M0 S B L P T (ok_itb hO) (by omega)) (kv_X8_150 hw rfl rfl ⟨Nat.le_of_ble_eq_true rfl, Nat.le_of_ble_eq_true rfl⟩) rfl rfl mq_F rfl (Nat.le_of_ble_eq_true rfl) dX8_hour_5 ⟨Nat.le_of_ble_eq_true rfl, Nat.le_of_ble_eq_true rfl⟩ (fun H locs hM => ?_)
  refine lv_iconst (v := 0) hx hb dX8_hour_8 (by decide) ?_
  refine lv_istore_n (lv' := [(1, .int 0), (0, .ref mo)]) hx hb dX8_hour_9 rfl hl (by decide) rfl (fun ls hl => ?_)
  have lp_10 : ∀ (r : Nat) (k : Nat) (w1 : Nat → Int32) (H : Heap) (locs : List Loc) (ls : Array Slot), (k + r = B) → (hmF S B L P w nz = it (feS (soM S L P (it bgS L 0 w) nz).2) r k w1) → (ok1 S B L P T w1) → me_at D z0 (mq tb mo F w1 av od sv sl ((soM S L P (it bgS L 0 w) nz).2) ip ot M0) n s H locs → lv_has ls 2 [(0, .ref mo), (1, .int (nI k))] → W p l e (({ frames := 6, cells := 0, slots := 0, locals := 131 } : Room)) s m args below meth c H locs 0 0 (MQ below (me_Qi D z0 (nI (clN L 0 (hmA S B L P w nz))) (mq tb mo F ((hmS S B L P (w, nz)).1) av od sv sl ((hmS S B L P (w, nz)).2) ip ot M0) n) args s 0 0 (me_A z0)) (F0 m 10 ls []) := by
    intro r
    refine Nat.strongRecOn r ?_
    intro r ih_10 k w1 H locs ls hk hq hO1 hM hl
    obtain ⟨hW1, hZ1, hT1⟩ := id hO1
    obtain ⟨hS, hS0, hB, hB0, hL, hL0, hP, hP0, hwb, hwl⟩ := id hW1
    refine lv_iload_n hx hb dX8_hour_10 rfl (lv_at hl 1 rfl) ?_
    refine lv_aload_n hx hb dX8_hour_11 rfl (lv_at hl 0 rfl) ?_
    refine fg_X8_13 hC hM mq_F rfl dX8_hour_12 ?_
    refine lv_iconst (v := 4) hx hb dX8_hour_15 (by decide) ?_
    refine me_iald (k := 4) hC hM mq_w (nx_c 4) (by omega) (by decide) dX8_hour_16 ?_
    refine lv_icmp_ge (tgt := 31) hx hb dX8_hour_17 (by decide) (fun c_1 => ?_) (fun c_1 => ?_)
    · have c_1 := (br_le hB rfl (by omega) (by omega)).mp c_1
      obtain rfl : r = 0 := by omega
      have hM := hM.eq (M2 := mq tb mo F (hmF S B L P w nz) av od sv sl ((soM S L P (it bgS L 0 w) nz).2) ip ot M0) (by rw [show hmF S B L P w nz = w1 from hq])
      refine lv_aload_n hx hb dX8_hour_31 rfl (lv_at hl 0 rfl) ?_
      refine fg_X8_13 hC hM mq_F rfl dX8_hour_32 ?_
      refine lv_iconst (v := 2) hx hb dX8_hour_35 (by decide) ?_
      refine lv_dup2_11 hx hb dX8_hour_36 rfl rfl ?_
      refine me_iald (k := 2) hC hM mq_w (nx_c 2) (by omega) (by decide) dX8_hour_37 ?_
      refine lv_iconst (v := 1) hx hb dX8_hour_38 (by decide) ?_
      refine lv_iadd hx hb dX8_hour_39 ?_
      refine me_iast (k := 2) (M2 := mq tb mo F (upd (hmF S B L P w nz) 2 (((hmF S B L P w nz) 2) + 1)) av od sv sl ((soM S L P (it bgS L 0 w) nz).2) ip ot M0) hC hM mq_w (nx_c 2) (by omega) (by decide) mq_w_w dX8_hour_40 (fun H locs hM => ?_)
      have hM := hM.eq (M2 := mq tb mo F (hmA S B L P w nz) av od sv sl ((soM S L P (it bgS L 0 w) nz).2) ip ot M0) rfl
      refine lv_aload_n hx hb dX8_hour_41 rfl (lv_at hl 0 rfl) ?_
      refine me_callVi (As := []) (rest := []) hC hl.1 hM (c_X8_closes l D tb X z0 n mo F (hmA S B L P w nz) av od sv sl ((soM S L P (it bgS L 0 w) nz).2) ip ot M0 S B L P (T + 1) (ok_hA hO)) (kv_X8_156 hw rfl rfl ⟨Nat.le_of_ble_eq_true rfl, Nat.le_of_ble_eq_true rfl⟩) rfl rfl mq_F rfl (Nat.le_of_ble_eq_true rfl) dX8_hour_42 ⟨Nat.le_of_ble_eq_true rfl, Nat.le_of_ble_eq_true rfl⟩ (fun H locs hM => ?_)
      exact me_iret hC hr hlk hM (rfl) (rfl) (rfl) dX8_hour_45
    · have c_1 := (not_congr (br_le hB rfl (by omega) (by omega))).mp c_1
      obtain ⟨r1, rfl⟩ : ∃ r1, r = r1 + 1 := ⟨r - 1, by omega⟩
      refine lv_aload_n hx hb dX8_hour_20 rfl (lv_at hl 0 rfl) ?_
      refine lv_iload_n hx hb dX8_hour_21 rfl (lv_at hl 1 rfl) ?_
      refine me_callVv (As := [.int (nI k)]) (rest := []) hC hl.1 hM (c_X8_feels l D tb X z0 n mo F w1 av od sv sl ((soM S L P (it bgS L 0 w) nz).2) ip ot M0 S B L P k hW1 (by omega)) (kv_X8_153 hw rfl rfl ⟨Nat.le_of_ble_eq_true rfl, Nat.le_of_ble_eq_true rfl⟩) rfl rfl mq_F rfl (Nat.le_of_ble_eq_true rfl) dX8_hour_22 ⟨Nat.le_of_ble_eq_true rfl, Nat.le_of_ble_eq_true rfl⟩ (fun H locs hM => ?_)
      refine lv_iinc (v := nI (k + 1)) (lv' := [(1, .int (nI (k + 1))), (0, .ref mo)]) hx hb dX8_hour_25 hl (k := 1) rfl (nx_add rfl rfl) (by decide) rfl (fun ls hl => ?_)
      refine lv_goto (tgt := 10) hx hb dX8_hour_28 (by decide) ?_
      exact ih_10 r1 (by omega) (k + 1) (feS (soM S L P (it bgS L 0 w) nz).2 k w1) _ _ _ (by omega) hq (ok_fe hO1 (by omega)) hM (lv_sub hl [1, 0] rfl)
  exact lp_10 B 0 ((soM S L P (it bgS L 0 w) nz).1) _ _ _ (by omega) rfl (ok_so (ok_itb hO)) hM (lv_sub hl [1, 0] rfl)
set_option maxHeartbeats 4000000 in
theorem c_X8_passes (l : Launch) (D : va_G) (tb : Nat → ClassId) (X : State → Prop) (z0 n : Nat) (mo : Nat) (F w av od sv sl nz ip ot : Nat → Int32) (M0 : me_M) (S B L P : Nat) (T : Nat) (hh : Nat)  (hO : ok1 S B L P T w) (hT0 : T + hh ≤ 10200) : Met l yX8_passes (.code yX8_passes cX8_passes 4 (some .int) :: ws_all) ({ frames := 7, cells := 0, slots := 0, locals := 152 } : Room) (me_Pc [.ref mo, .int (nI hh)] D tb X z0 (mq tb mo F w av od sv sl nz ip ot M0) n) (me_Qi D z0 (nI (mpN S B L P hh (w, nz))) (mq tb mo F ((mpS S B L P hh (w, nz)).1) av od sv sl ((mpS S B L P hh (w, nz)).2) ip ot M0) n) 0 0 (me_A z0) := by
  refine me_open (by decide) (Nat.le_of_ble_eq_true rfl) ?_
  intro p e s m args below meth c ls hC hr hlk hnm hM hl
  have hl : lv_has ls 4 [(0, .ref mo), (1, .int (nI hh))] := hl
  have hx := hC.1
  have hb := hC.2.1
  have hw := hC.2.2.2.2.1
  refine lv_iconst (v := 0) hx hb dX8_passes_0 (by decide) ?_
  refine lv_istore_n (lv' := [(2, .int 0), (0, .ref mo), (1, .int (nI hh))]) hx hb dX8_passes_1 rfl hl (by decide) rfl (fun ls hl => ?_)
  refine lv_iconst (v := 0) hx hb dX8_passes_2 (by decide) ?_
  refine lv_istore_n (lv' := [(3, .int 0), (2, .int 0), (0, .ref mo), (1, .int (nI hh))]) hx hb dX8_passes_3 rfl hl (by decide) rfl (fun ls hl => ?_)
  have lp_4 : ∀ (r : Nat) (j : Nat) (ct : Nat) (x : WN) (H : Heap) (locs : List Loc) (ls : Array Slot), (j + r = hh) → (mpS S B L P hh (w, nz) = mpS S B L P r x) → (mpN S B L P hh (w, nz) = ct + mpN S B L P r x) → (ok1 S B L P (T + j) x.1) → me_at D z0 (mq tb mo F x.1 av od sv sl x.2 ip ot M0) n s H locs → lv_has ls 4 [(0, .ref mo), (1, .int (nI hh)), (2, .int (nI ct)), (3, .int (nI j))] → W p l e (({ frames := 7, cells := 0, slots := 0, locals := 152 } : Room)) s m args below meth c H locs 0 0 (MQ below (me_Qi D z0 (nI (mpN S B L P hh (w, nz))) (mq tb mo F ((mpS S B L P hh (w, nz)).1) av od sv sl ((mpS S B L P hh (w, nz)).2) ip ot M0) n) args s 0 0 (me_A z0)) (F0 m 4 ls []) := by
    intro r
    refine Nat.strongRecOn r ?_
    intro r ih_4 j ct x H locs ls hj hg hc hO1 hM hl
    refine lv_iload_n hx hb dX8_passes_4 rfl (lv_at hl 3 rfl) ?_
    refine lv_iload_n hx hb dX8_passes_5 rfl (lv_at hl 1 rfl) ?_
    refine lv_icmp_ge (tgt := 22) hx hb dX8_passes_6 (by decide) (fun c_1 => ?_) (fun c_1 => ?_)
    · have c_1 := (br_le rfl rfl (by omega) (by omega)).mp c_1
      refine lv_iload_n hx hb dX8_passes_22 rfl (lv_at hl 2 rfl) ?_
      exact me_iret hC hr hlk hM (by rw [hc, show r = 0 by omega]; rfl) (by rw [hg, show r = 0 by omega]; rfl) (rfl) dX8_passes_23
    · have c_1 := (not_congr (br_le rfl rfl (by omega) (by omega))).mp c_1
      obtain ⟨r1, rfl⟩ : ∃ r1, r = r1 + 1 := ⟨r - 1, by omega⟩
      refine lv_iload_n hx hb dX8_passes_9 rfl (lv_at hl 2 rfl) ?_
      refine lv_aload_n hx hb dX8_passes_10 rfl (lv_at hl 0 rfl) ?_
      refine me_callVi (As := []) (rest := [.int (nI ct)]) hC hl.1 hM (c_X8_hour l D tb X z0 n mo F x.1 av od sv sl x.2 ip ot M0 S B L P (T + j) hO1 (by omega)) (kv_X8_160 hw rfl rfl ⟨Nat.le_of_ble_eq_true rfl, Nat.le_of_ble_eq_true rfl⟩) rfl rfl mq_F rfl (Nat.le_of_ble_eq_true rfl) dX8_passes_11 ⟨Nat.le_of_ble_eq_true rfl, Nat.le_of_ble_eq_true rfl⟩ (fun H locs hM => ?_)
      refine lv_iadd hx hb dX8_passes_14 ?_
      refine me_evi (y := nI (ct + (clN L 0 (hmA S B L P x.1 x.2)))) (nx_add rfl rfl) ?_
      refine lv_istore_n (lv' := [(2, .int (nI (ct + (clN L 0 (hmA S B L P x.1 x.2))))), (0, .ref mo), (1, .int (nI hh)), (3, .int (nI j))]) hx hb dX8_passes_15 rfl hl (by decide) rfl (fun ls hl => ?_)
      refine lv_iinc (v := nI (j + 1)) (lv' := [(3, .int (nI (j + 1))), (2, .int (nI (ct + (clN L 0 (hmA S B L P x.1 x.2))))), (0, .ref mo), (1, .int (nI hh))]) hx hb dX8_passes_16 hl (k := 3) rfl (nx_add rfl rfl) (by decide) rfl (fun ls hl => ?_)
      refine lv_goto (tgt := 4) hx hb dX8_passes_19 (by decide) ?_
      exact ih_4 r1 (by omega) (j + 1) (ct + clN L 0 (hmA S B L P x.1 x.2)) (hmS S B L P x) _ _ _ (by omega) hg (by rw [hc]; show ct + (clN L 0 (hmA S B L P x.1 x.2) + mpN S B L P r1 (hmS S B L P x)) = _; omega) (ok_hS hO1) hM (lv_sub hl [2, 3, 1, 0] rfl)
  exact lp_4 hh 0 0 (w, nz) _ _ _ (by omega) rfl ((Nat.zero_add _).symm) hO hM (lv_sub hl [2, 3, 1, 0] rfl)
set_option maxHeartbeats 4000000 in
theorem c_X8_putsAside (l : Launch) (D : va_G) (tb : Nat → ClassId) (X : State → Prop) (z0 n : Nat) (mo : Nat) (F w av od sv sl nz ip ot : Nat → Int32) (M0 : me_M)  : Met l yX8_putsAside (.code yX8_putsAside cX8_putsAside 2 none :: ws_all) ({ frames := 0, cells := 0, slots := 0, locals := 0 } : Room) (me_Pc [.ref mo] D tb X z0 (mq tb mo F w av od sv sl nz ip ot M0) n) (me_Qv D z0 (mq tb mo F w (cq av w 0 411) od sv sl nz ip ot M0) n) 0 0 (me_A z0) := by
  refine me_open (by decide) (Nat.le_of_ble_eq_true rfl) ?_
  intro p e s m args below meth c ls hC hr hlk hnm hM hl
  have hl : lv_has ls 2 [(0, .ref mo)] := hl
  have hx := hC.1
  have hb := hC.2.1
  have hw := hC.2.2.2.2.1
  refine lv_iconst (v := 0) hx hb dX8_putsAside_0 (by decide) ?_
  refine lv_istore_n (lv' := [(1, .int 0), (0, .ref mo)]) hx hb dX8_putsAside_1 rfl hl (by decide) rfl (fun ls hl => ?_)
  have lp_2 : ∀ (r : Nat) (k : Nat) (H : Heap) (locs : List Loc) (ls : Array Slot), (k + r = 411) → me_at D z0 (mq tb mo F w (cq av w 0 k) od sv sl nz ip ot M0) n s H locs → lv_has ls 2 [(0, .ref mo), (1, .int (nI k))] → W p l e (({ frames := 0, cells := 0, slots := 0, locals := 0 } : Room)) s m args below meth c H locs 0 0 (MQ below (me_Qv D z0 (mq tb mo F w (cq av w 0 411) od sv sl nz ip ot M0) n) args s 0 0 (me_A z0)) (F0 m 2 ls []) := by
    intro r
    refine Nat.strongRecOn r ?_
    intro r ih_2 k H locs ls hk hM hl
    refine lv_iload_n hx hb dX8_putsAside_2 rfl (lv_at hl 1 rfl) ?_
    refine lv_sipush (v := 411) hx hb dX8_putsAside_3 (by decide) ?_
    refine lv_icmp_ge (tgt := 27) hx hb dX8_putsAside_6 (by decide) (fun c_1 => ?_) (fun c_1 => ?_)
    · have c_1 := (br_le (nx_c 411) rfl (by omega) (by omega)).mp c_1
      exact me_vret hC hr hlk hM (by rw [show k = 411 by omega]) (rfl) dX8_putsAside_27
    · have c_1 := (not_congr (br_le (nx_c 411) rfl (by omega) (by omega))).mp c_1
      obtain ⟨r1, rfl⟩ : ∃ r1, r = r1 + 1 := ⟨r - 1, by omega⟩
      refine lv_aload_n hx hb dX8_putsAside_9 rfl (lv_at hl 0 rfl) ?_
      refine fg_X8_16 hC hM mq_F rfl dX8_putsAside_10 ?_
      refine lv_iload_n hx hb dX8_putsAside_13 rfl (lv_at hl 1 rfl) ?_
      refine lv_aload_n hx hb dX8_putsAside_14 rfl (lv_at hl 0 rfl) ?_
      refine fg_X8_13 hC hM mq_F rfl dX8_putsAside_15 ?_
      refine lv_iload_n hx hb dX8_putsAside_18 rfl (lv_at hl 1 rfl) ?_
      refine me_iald (k := k) hC hM mq_w rfl (by omega) (by decide) dX8_putsAside_19 ?_
      refine me_iast (k := k) (M2 := mq tb mo F w (upd (cq av w 0 k) (k) (w (k))) od sv sl nz ip ot M0) hC hM mq_av rfl (by omega) (by decide) mq_w_av dX8_putsAside_20 (fun H locs hM => ?_)
      refine lv_iinc (v := nI (k + 1)) (lv' := [(1, .int (nI (k + 1))), (0, .ref mo)]) hx hb dX8_putsAside_21 hl (k := 1) rfl (nx_add rfl rfl) (by decide) rfl (fun ls hl => ?_)
      refine lv_goto (tgt := 2) hx hb dX8_putsAside_24 (by decide) ?_
      exact ih_2 r1 (by omega) (k + 1) _ _ _ (by omega) (hM.eq (by rw [cq_s0])) (lv_sub hl [1, 0] rfl)
  exact lp_2 411 0 _ _ _ (by omega) (hM.eq (by rw [cq_0])) (lv_sub hl [1, 0] rfl)
set_option maxHeartbeats 4000000 in
theorem c_X8_putsBack (l : Launch) (D : va_G) (tb : Nat → ClassId) (X : State → Prop) (z0 n : Nat) (mo : Nat) (F w av od sv sl nz ip ot : Nat → Int32) (M0 : me_M)  : Met l yX8_putsBack (.code yX8_putsBack cX8_putsBack 2 none :: ws_all) ({ frames := 0, cells := 0, slots := 0, locals := 0 } : Room) (me_Pc [.ref mo] D tb X z0 (mq tb mo F w av od sv sl nz ip ot M0) n) (me_Qv D z0 (mq tb mo F (cq w av 0 411) av od sv sl nz ip ot M0) n) 0 0 (me_A z0) := by
  refine me_open (by decide) (Nat.le_of_ble_eq_true rfl) ?_
  intro p e s m args below meth c ls hC hr hlk hnm hM hl
  have hl : lv_has ls 2 [(0, .ref mo)] := hl
  have hx := hC.1
  have hb := hC.2.1
  have hw := hC.2.2.2.2.1
  refine lv_iconst (v := 0) hx hb dX8_putsBack_0 (by decide) ?_
  refine lv_istore_n (lv' := [(1, .int 0), (0, .ref mo)]) hx hb dX8_putsBack_1 rfl hl (by decide) rfl (fun ls hl => ?_)
  have lp_2 : ∀ (r : Nat) (k : Nat) (H : Heap) (locs : List Loc) (ls : Array Slot), (k + r = 411) → me_at D z0 (mq tb mo F (cq w av 0 k) av od sv sl nz ip ot M0) n s H locs → lv_has ls 2 [(0, .ref mo), (1, .int (nI k))] → W p l e (({ frames := 0, cells := 0, slots := 0, locals := 0 } : Room)) s m args below meth c H locs 0 0 (MQ below (me_Qv D z0 (mq tb mo F (cq w av 0 411) av od sv sl nz ip ot M0) n) args s 0 0 (me_A z0)) (F0 m 2 ls []) := by
    intro r
    refine Nat.strongRecOn r ?_
    intro r ih_2 k H locs ls hk hM hl
    refine lv_iload_n hx hb dX8_putsBack_2 rfl (lv_at hl 1 rfl) ?_
    refine lv_sipush (v := 411) hx hb dX8_putsBack_3 (by decide) ?_
    refine lv_icmp_ge (tgt := 27) hx hb dX8_putsBack_6 (by decide) (fun c_1 => ?_) (fun c_1 => ?_)
    · have c_1 := (br_le (nx_c 411) rfl (by omega) (by omega)).mp c_1
      exact me_vret hC hr hlk hM (by rw [show k = 411 by omega]) (rfl) dX8_putsBack_27
    · have c_1 := (not_congr (br_le (nx_c 411) rfl (by omega) (by omega))).mp c_1
      obtain ⟨r1, rfl⟩ : ∃ r1, r = r1 + 1 := ⟨r - 1, by omega⟩
      refine lv_aload_n hx hb dX8_putsBack_9 rfl (lv_at hl 0 rfl) ?_
      refine fg_X8_13 hC hM mq_F rfl dX8_putsBack_10 ?_
      refine lv_iload_n hx hb dX8_putsBack_13 rfl (lv_at hl 1 rfl) ?_
      refine lv_aload_n hx hb dX8_putsBack_14 rfl (lv_at hl 0 rfl) ?_
      refine fg_X8_16 hC hM mq_F rfl dX8_putsBack_15 ?_
      refine lv_iload_n hx hb dX8_putsBack_18 rfl (lv_at hl 1 rfl) ?_
      refine me_iald (k := k) hC hM mq_av rfl (by omega) (by decide) dX8_putsBack_19 ?_
      refine me_iast (k := k) (M2 := mq tb mo F (upd (cq w av 0 k) (k) (av (k))) av od sv sl nz ip ot M0) hC hM mq_w rfl (by omega) (by decide) mq_w_w dX8_putsBack_20 (fun H locs hM => ?_)
      refine lv_iinc (v := nI (k + 1)) (lv' := [(1, .int (nI (k + 1))), (0, .ref mo)]) hx hb dX8_putsBack_21 hl (k := 1) rfl (nx_add rfl rfl) (by decide) rfl (fun ls hl => ?_)
      refine lv_goto (tgt := 2) hx hb dX8_putsBack_24 (by decide) ?_
      exact ih_2 r1 (by omega) (k + 1) _ _ _ (by omega) (hM.eq (by rw [cq_s0])) (lv_sub hl [1, 0] rfl)
  exact lp_2 411 0 _ _ _ (by omega) (hM.eq (by rw [cq_0])) (lv_sub hl [1, 0] rfl)
set_option maxHeartbeats 4000000 in
theorem c_X8_remembers (l : Launch) (D : va_G) (tb : Nat → ClassId) (X : State → Prop) (z0 n : Nat) (mo : Nat) (F w av od sv sl nz ip ot : Nat → Int32) (M0 : me_M) (om : Nat)  (hom : F 1 = nI om) (hom0 : om < 10) : Met l yX8_remembers (.code yX8_remembers cX8_remembers 2 none :: ws_all) ({ frames := 0, cells := 0, slots := 0, locals := 0 } : Room) (me_Pc [.ref mo] D tb X z0 (mq tb mo F w av od sv sl nz ip ot M0) n) (me_Qv D z0 (mq tb mo (rmF F om) w av (rmO od w om) sv sl nz ip ot M0) n) 0 0 (me_A z0) := by
  refine me_open (by decide) (Nat.le_of_ble_eq_true rfl) ?_
  intro p e s m args below meth c ls hC hr hlk hnm hM hl
  have hl : lv_has ls 2 [(0, .ref mo)] := hl
  have hx := hC.1
  have hb := hC.2.1
  have hw := hC.2.2.2.2.1
  refine lv_aload_n hx hb dX8_remembers_0 rfl (lv_at hl 0 rfl) ?_
  refine fg_X8_163 hC hM mq_F rfl dX8_remembers_1 ?_
  refine lv_bipush (v := 10) hx hb dX8_remembers_4 (by decide) ?_
  refine lv_icmp_ne (tgt := 52) hx hb dX8_remembers_6 (by decide) (fun c_1 => ?_) (fun c_1 => ?_)
  · have c_1 := (not_congr (br_eq hom (nx_c 10) (by omega) (by omega))).mp c_1
    refine lv_iconst (v := 0) hx hb dX8_remembers_52 (by decide) ?_
    refine lv_istore_n (lv' := [(1, .int 0), (0, .ref mo)]) hx hb dX8_remembers_53 rfl hl (by decide) rfl (fun ls hl => ?_)
    have lp_54 : ∀ (r : Nat) (k : Nat) (H : Heap) (locs : List Loc) (ls : Array Slot), (k + r = 411) → me_at D z0 (mq tb mo F w av (cq od w (om * 411) k) sv sl nz ip ot M0) n s H locs → lv_has ls 2 [(0, .ref mo), (1, .int (nI k))] → W p l e (({ frames := 0, cells := 0, slots := 0, locals := 0 } : Room)) s m args below meth c H locs 0 0 (MQ below (me_Qv D z0 (mq tb mo (rmF F om) w av (rmO od w om) sv sl nz ip ot M0) n) args s 0 0 (me_A z0)) (F0 m 54 ls []) := by
      intro r
      refine Nat.strongRecOn r ?_
      intro r ih_54 k H locs ls hk hM hl
      refine lv_iload_n hx hb dX8_remembers_54 rfl (lv_at hl 1 rfl) ?_
      refine lv_sipush (v := 411) hx hb dX8_remembers_55 (by decide) ?_
      refine lv_icmp_ge (tgt := 88) hx hb dX8_remembers_58 (by decide) (fun c_2 => ?_) (fun c_2 => ?_)
      · have c_2 := (br_le (nx_c 411) rfl (by omega) (by omega)).mp c_2
        refine lv_aload_n hx hb dX8_remembers_88 rfl (lv_at hl 0 rfl) ?_
        refine lv_dup hx hb dX8_remembers_89 rfl ?_
        refine fg_X8_163 hC hM mq_F rfl dX8_remembers_90 ?_
        refine lv_iconst (v := 1) hx hb dX8_remembers_93 (by decide) ?_
        refine lv_iadd hx hb dX8_remembers_94 ?_
        refine fp_X8_163 hC hM mq_F (Nat.le_of_ble_eq_true rfl) (M2 := mq tb mo (upd F 1 ((F 1) + 1)) w av (cq od w (om * 411) k) sv sl nz ip ot M0) (mq_wF (i := 1) (by simp [upd])) dX8_remembers_95 (fun H locs hM => ?_)
        exact me_vret hC hr hlk hM (by unfold rmO rmF; rw [if_neg (by omega), if_neg (by omega), show k = 411 by omega, hom, nI_1]) (rfl) dX8_remembers_98
      · have c_2 := (not_congr (br_le (nx_c 411) rfl (by omega) (by omega))).mp c_2
        obtain ⟨r1, rfl⟩ : ∃ r1, r = r1 + 1 := ⟨r - 1, by omega⟩
        refine lv_aload_n hx hb dX8_remembers_61 rfl (lv_at hl 0 rfl) ?_
        refine fg_X8_19 hC hM mq_F rfl dX8_remembers_62 ?_
        refine lv_aload_n hx hb dX8_remembers_65 rfl (lv_at hl 0 rfl) ?_
        refine fg_X8_163 hC hM mq_F rfl dX8_remembers_66 ?_
        refine lv_sipush (v := 411) hx hb dX8_remembers_69 (by decide) ?_
        refine lv_imul hx hb dX8_remembers_72 ?_
        refine lv_iload_n hx hb dX8_remembers_73 rfl (lv_at hl 1 rfl) ?_
        refine lv_iadd hx hb dX8_remembers_74 ?_
        refine lv_aload_n hx hb dX8_remembers_75 rfl (lv_at hl 0 rfl) ?_
        refine fg_X8_13 hC hM mq_F rfl dX8_remembers_76 ?_
        refine lv_iload_n hx hb dX8_remembers_79 rfl (lv_at hl 1 rfl) ?_
        refine me_iald (k := k) hC hM mq_w rfl (by omega) (by decide) dX8_remembers_80 ?_
        refine me_iast (k := om * 411 + k) (M2 := mq tb mo F w av (upd (cq od w (om * 411) k) (om * 411 + k) (w (k))) sv sl nz ip ot M0) hC hM mq_od (nx_add (nx_mul hom (nx_c 411)) rfl) (by omega) (by decide) mq_w_od dX8_remembers_81 (fun H locs hM => ?_)
        refine lv_iinc (v := nI (k + 1)) (lv' := [(1, .int (nI (k + 1))), (0, .ref mo)]) hx hb dX8_remembers_82 hl (k := 1) rfl (nx_add rfl rfl) (by decide) rfl (fun ls hl => ?_)
        refine lv_goto (tgt := 54) hx hb dX8_remembers_85 (by decide) ?_
        exact ih_54 r1 (by omega) (k + 1) _ _ _ (by omega) (hM.eq (by rw [cq_s])) (lv_sub hl [1, 0] rfl)
    exact lp_54 411 0 _ _ _ (by omega) (hM.eq (by rw [cq_0])) (lv_sub hl [1, 0] rfl)
  · have c_1 := (br_eq hom (nx_c 10) (by omega) (by omega)).mp c_1
    exfalso; omega
set_option maxHeartbeats 4000000 in
theorem c_X8_remembers_f (l : Launch) (D : va_G) (tb : Nat → ClassId) (X : State → Prop) (z0 n : Nat) (mo : Nat) (F w av od sv sl nz ip ot : Nat → Int32) (M0 : me_M)  (hom : F 1 = nI 10) : Met l yX8_remembers (.code yX8_remembers cX8_remembers 2 none :: ws_all) ({ frames := 0, cells := 0, slots := 0, locals := 0 } : Room) (me_Pc [.ref mo] D tb X z0 (mq tb mo F w av od sv sl nz ip ot M0) n) (me_Qv D z0 (mq tb mo (rmF F 10) w av (rmO od w 10) sv sl nz ip ot M0) n) 0 0 (me_A z0) := by
  refine me_open (by decide) (Nat.le_of_ble_eq_true rfl) ?_
  intro p e s m args below meth c ls hC hr hlk hnm hM hl
  have hl : lv_has ls 2 [(0, .ref mo)] := hl
  have hx := hC.1
  have hb := hC.2.1
  have hw := hC.2.2.2.2.1
  refine lv_aload_n hx hb dX8_remembers_0 rfl (lv_at hl 0 rfl) ?_
  refine fg_X8_163 hC hM mq_F rfl dX8_remembers_1 ?_
  refine lv_bipush (v := 10) hx hb dX8_remembers_4 (by decide) ?_
  refine lv_icmp_ne (tgt := 52) hx hb dX8_remembers_6 (by decide) (fun c_1 => ?_) (fun c_1 => ?_)
  · have c_1 := (not_congr (br_eq hom (nx_c 10) (by omega) (by omega))).mp c_1
    exact absurd rfl c_1
  · have c_1 := (br_eq hom (nx_c 10) (by omega) (by omega)).mp c_1
    refine lv_sipush (v := 411) hx hb dX8_remembers_9 (by decide) ?_
    refine lv_istore_n (lv' := [(1, .int 411), (0, .ref mo)]) hx hb dX8_remembers_12 rfl hl (by decide) rfl (fun ls hl => ?_)
    have lp_13 : ∀ (r : Nat) (k : Nat) (H : Heap) (locs : List Loc) (ls : Array Slot), (k + r = 4110) → (411 ≤ k) → me_at D z0 (mq tb mo F w av (shO od k) sv sl nz ip ot M0) n s H locs → lv_has ls 2 [(0, .ref mo), (1, .int (nI k))] → W p l e (({ frames := 0, cells := 0, slots := 0, locals := 0 } : Room)) s m args below meth c H locs 0 0 (MQ below (me_Qv D z0 (mq tb mo (rmF F 10) w av (rmO od w 10) sv sl nz ip ot M0) n) args s 0 0 (me_A z0)) (F0 m 13 ls []) := by
      intro r
      refine Nat.strongRecOn r ?_
      intro r ih_13 k H locs ls hk hk0 hM hl
      refine lv_iload_n hx hb dX8_remembers_13 rfl (lv_at hl 1 rfl) ?_
      refine lv_sipush (v := 4110) hx hb dX8_remembers_14 (by decide) ?_
      refine lv_icmp_ge (tgt := 42) hx hb dX8_remembers_17 (by decide) (fun c_2 => ?_) (fun c_2 => ?_)
      · have c_2 := (br_le (nx_c 4110) rfl (by omega) (by omega)).mp c_2
        have hM := hM.eq (M2 := mq tb mo F w av (shO od 4110) sv sl nz ip ot M0) (by rw [show k = 4110 by omega])
        refine lv_aload_n hx hb dX8_remembers_42 rfl (lv_at hl 0 rfl) ?_
        refine lv_dup hx hb dX8_remembers_43 rfl ?_
        refine fg_X8_163 hC hM mq_F rfl dX8_remembers_44 ?_
        refine lv_iconst (v := 1) hx hb dX8_remembers_47 (by decide) ?_
        refine lv_isub hx hb dX8_remembers_48 ?_
        refine fp_X8_163 hC hM mq_F (Nat.le_of_ble_eq_true rfl) (M2 := mq tb mo (upd F 1 ((F 1) - 1)) w av (shO od 4110) sv sl nz ip ot M0) (mq_wF (i := 1) (by simp [upd])) dX8_remembers_49 (fun H locs hM => ?_)
        refine lv_iconst (v := 0) hx hb dX8_remembers_52 (by decide) ?_
        refine lv_istore_n (lv' := [(1, .int 0), (0, .ref mo)]) hx hb dX8_remembers_53 rfl hl (by decide) rfl (fun ls hl => ?_)
        have lp_54 : ∀ (r : Nat) (k : Nat) (H : Heap) (locs : List Loc) (ls : Array Slot), (k + r = 411) → me_at D z0 (mq tb mo (upd F 1 (F 1 - 1)) w av (cq (shO od 4110) w (9 * 411) k) sv sl nz ip ot M0) n s H locs → lv_has ls 2 [(0, .ref mo), (1, .int (nI k))] → W p l e (({ frames := 0, cells := 0, slots := 0, locals := 0 } : Room)) s m args below meth c H locs 0 0 (MQ below (me_Qv D z0 (mq tb mo (rmF F 10) w av (rmO od w 10) sv sl nz ip ot M0) n) args s 0 0 (me_A z0)) (F0 m 54 ls []) := by
          intro r
          refine Nat.strongRecOn r ?_
          intro r ih_54 k H locs ls hk hM hl
          refine lv_iload_n hx hb dX8_remembers_54 rfl (lv_at hl 1 rfl) ?_
          refine lv_sipush (v := 411) hx hb dX8_remembers_55 (by decide) ?_
          refine lv_icmp_ge (tgt := 88) hx hb dX8_remembers_58 (by decide) (fun c_3 => ?_) (fun c_3 => ?_)
          · have c_3 := (br_le (nx_c 411) rfl (by omega) (by omega)).mp c_3
            refine lv_aload_n hx hb dX8_remembers_88 rfl (lv_at hl 0 rfl) ?_
            refine lv_dup hx hb dX8_remembers_89 rfl ?_
            refine fg_X8_163 hC hM mq_F rfl dX8_remembers_90 ?_
            refine lv_iconst (v := 1) hx hb dX8_remembers_93 (by decide) ?_
            refine lv_iadd hx hb dX8_remembers_94 ?_
            refine fp_X8_163 hC hM mq_F (Nat.le_of_ble_eq_true rfl) (M2 := mq tb mo (upd (upd F 1 (F 1 - 1)) 1 (((upd F 1 (F 1 - 1)) 1) + 1)) w av (cq (shO od 4110) w (9 * 411) k) sv sl nz ip ot M0) (mq_wF (i := 1) (by simp [upd])) dX8_remembers_95 (fun H locs hM => ?_)
            exact me_vret hC hr hlk hM (by unfold rmO rmF; rw [if_pos rfl, if_pos rfl, show k = 411 by omega, upd_upd, upd_s, hom]; rfl) (rfl) dX8_remembers_98
          · have c_3 := (not_congr (br_le (nx_c 411) rfl (by omega) (by omega))).mp c_3
            obtain ⟨r1, rfl⟩ : ∃ r1, r = r1 + 1 := ⟨r - 1, by omega⟩
            refine lv_aload_n hx hb dX8_remembers_61 rfl (lv_at hl 0 rfl) ?_
            refine fg_X8_19 hC hM mq_F rfl dX8_remembers_62 ?_
            refine lv_aload_n hx hb dX8_remembers_65 rfl (lv_at hl 0 rfl) ?_
            refine fg_X8_163 hC hM mq_F rfl dX8_remembers_66 ?_
            refine lv_sipush (v := 411) hx hb dX8_remembers_69 (by decide) ?_
            refine lv_imul hx hb dX8_remembers_72 ?_
            refine lv_iload_n hx hb dX8_remembers_73 rfl (lv_at hl 1 rfl) ?_
            refine lv_iadd hx hb dX8_remembers_74 ?_
            refine lv_aload_n hx hb dX8_remembers_75 rfl (lv_at hl 0 rfl) ?_
            refine fg_X8_13 hC hM mq_F rfl dX8_remembers_76 ?_
            refine lv_iload_n hx hb dX8_remembers_79 rfl (lv_at hl 1 rfl) ?_
            refine me_iald (k := k) hC hM mq_w rfl (by omega) (by decide) dX8_remembers_80 ?_
            refine me_iast (k := 9 * 411 + k) (M2 := mq tb mo (upd F 1 (F 1 - 1)) w av (upd (cq (shO od 4110) w (9 * 411) k) (9 * 411 + k) (w (k))) sv sl nz ip ot M0) hC hM mq_od (nx_add (nx_mul ((upd_s _ _ _).trans (nx_sub hom (show (1 : Int32) = nI 1 from rfl) (by omega))) (nx_c 411)) rfl) (by omega) (by decide) mq_w_od dX8_remembers_81 (fun H locs hM => ?_)
            refine lv_iinc (v := nI (k + 1)) (lv' := [(1, .int (nI (k + 1))), (0, .ref mo)]) hx hb dX8_remembers_82 hl (k := 1) rfl (nx_add rfl rfl) (by decide) rfl (fun ls hl => ?_)
            refine lv_goto (tgt := 54) hx hb dX8_remembers_85 (by decide) ?_
            exact ih_54 r1 (by omega) (k + 1) _ _ _ (by omega) (hM.eq (by rw [cq_s])) (lv_sub hl [1, 0] rfl)
        exact lp_54 411 0 _ _ _ (by omega) (hM.eq (by rw [cq_0])) (lv_sub hl [1, 0] rfl)
      · have c_2 := (not_congr (br_le (nx_c 4110) rfl (by omega) (by omega))).mp c_2
        obtain ⟨r1, rfl⟩ : ∃ r1, r = r1 + 1 := ⟨r - 1, by omega⟩
        refine lv_aload_n hx hb dX8_remembers_20 rfl (lv_at hl 0 rfl) ?_
        refine fg_X8_19 hC hM mq_F rfl dX8_remembers_21 ?_
        refine lv_iload_n hx hb dX8_remembers_24 rfl (lv_at hl 1 rfl) ?_
        refine lv_sipush (v := 411) hx hb dX8_remembers_25 (by decide) ?_
        refine lv_isub hx hb dX8_remembers_28 ?_
        refine lv_aload_n hx hb dX8_remembers_29 rfl (lv_at hl 0 rfl) ?_
        refine fg_X8_19 hC hM mq_F rfl dX8_remembers_30 ?_
        refine lv_iload_n hx hb dX8_remembers_33 rfl (lv_at hl 1 rfl) ?_
        refine me_iald (k := k) hC hM mq_od rfl (by omega) (by decide) dX8_remembers_34 ?_
        refine me_iast (k := k - 411) (M2 := mq tb mo F w av (upd (shO od k) (k - 411) ((shO od k) (k))) sv sl nz ip ot M0) hC hM mq_od (nx_sub rfl (nx_c 411) (by omega)) (by omega) (by decide) mq_w_od dX8_remembers_35 (fun H locs hM => ?_)
        refine lv_iinc (v := nI (k + 1)) (lv' := [(1, .int (nI (k + 1))), (0, .ref mo)]) hx hb dX8_remembers_36 hl (k := 1) rfl (nx_add rfl rfl) (by decide) rfl (fun ls hl => ?_)
        refine lv_goto (tgt := 13) hx hb dX8_remembers_39 (by decide) ?_
        exact ih_13 r1 (by omega) (k + 1) _ _ _ (by omega) (by omega) (hM.eq (by rw [shO_r (k := k) (by omega), shO_s (by omega)])) (lv_sub hl [1, 0] rfl)
    exact lp_13 3699 411 _ _ _ (by omega) (by omega) (hM.eq (by rw [shO_0])) (lv_sub hl [1, 0] rfl)
