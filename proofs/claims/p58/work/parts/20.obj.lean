/-- a loan (status t, start s, length n) holds one of h hours from f on -/
abbrev hd (t s n f h : Int32) : Prop := (t = 0 ∨ t = 1) ∧ s < f + h ∧ f < s + n
/-- a permit covers an hour of a street -/
abbrev cv (r s a n f h : Int32) : Prop := r = 0 ∧ s = f ∧ a ≤ h ∧ h < a + n
set_option maxHeartbeats 4000000 in
theorem c_X2_end (l : Launch) (D : va_G) (tb : Nat → ClassId) (X : State → Prop) (z0 n : Nat) (M : me_M) (q : Nat) (xb xs xl xp xt : Int32) (he : M q = some (.inr (2, [.int xb, .int xs, .int xl, .int xp, .int xt]))) : Met l yX2_end (.code yX2_end cX2_end 1 (some .int) :: ws_all) ({ frames := 0, cells := 0, slots := 0, locals := 0 } : Room) (me_Pc [.ref q] D tb X z0 (M) n) (me_Qi D z0 (xs + xl) (M) n) 0 0 (me_A z0) := by
  refine me_open (by decide) (Nat.le_of_ble_eq_true rfl) ?_
  intro p e s m args below meth c ls hC hr hlk hnm hM hl
  have hl : lv_has ls 1 [(0, .ref q)] := hl
  have hx := hC.1
  have hb := hC.2.1
  have hw := hC.2.2.2.2.1
  refine lv_aload_n hx hb dX2_end_0 rfl (lv_at hl 0 rfl) ?_
  refine fg_X2_15 hC hM he rfl dX2_end_1 ?_
  refine lv_aload_n hx hb dX2_end_4 rfl (lv_at hl 0 rfl) ?_
  refine fg_X2_18 hC hM he rfl dX2_end_5 ?_
  refine lv_iadd hx hb dX2_end_8 ?_
  exact me_iret hC hr hlk hM (by first | rfl | simp []) (rfl) (rfl) dX2_end_9
set_option maxHeartbeats 4000000 in
theorem c_X2_holdsOneOf (l : Launch) (D : va_G) (tb : Nat → ClassId) (X : State → Prop) (z0 n : Nat) (M : me_M) (q : Nat) (xb xs xl xp xt : Int32) (f h : Int32) (he : M q = some (.inr (2, [.int xb, .int xs, .int xl, .int xp, .int xt]))) : Met l yX2_holdsOneOf (.code yX2_holdsOneOf cX2_holdsOneOf 3 (some .boolean) :: ws_all) ({ frames := 0, cells := 0, slots := 0, locals := 0 } : Room) (me_Pc [.ref q, .int f, .int h] D tb X z0 (M) n) (me_Qi D z0 (b1 (hd xt xs xl f h)) (M) n) 0 0 (me_A z0) := by
  refine me_open (by decide) (Nat.le_of_ble_eq_true rfl) ?_
  intro p e s m args below meth c ls hC hr hlk hnm hM hl
  have hl : lv_has ls 3 [(0, .ref q), (1, .int f), (2, .int h)] := hl
  have hx := hC.1
  have hb := hC.2.1
  have hw := hC.2.2.2.2.1
  refine lv_aload_n hx hb dX2_holdsOneOf_0 rfl (lv_at hl 0 rfl) ?_
  refine fg_X2_24 hC hM he rfl dX2_holdsOneOf_1 ?_
  refine lv_if_eq (tgt := 15) hx hb dX2_holdsOneOf_4 (by decide) (fun c_1 => ?_) (fun c_1 => ?_)
  · refine lv_aload_n hx hb dX2_holdsOneOf_15 rfl (lv_at hl 0 rfl) ?_
    refine fg_X2_15 hC hM he rfl dX2_holdsOneOf_16 ?_
    refine lv_iload_n hx hb dX2_holdsOneOf_19 rfl (lv_at hl 1 rfl) ?_
    refine lv_iload_n hx hb dX2_holdsOneOf_20 rfl (lv_at hl 2 rfl) ?_
    refine lv_iadd hx hb dX2_holdsOneOf_21 ?_
    refine lv_icmp_ge (tgt := 42) hx hb dX2_holdsOneOf_22 (by decide) (fun c_2 => ?_) (fun c_2 => ?_)
    · have c_2q := c_2
      have c_2 := Int32.not_lt.mpr c_2
      refine lv_iconst (v := 0) hx hb dX2_holdsOneOf_42 (by decide) ?_
      exact me_zret hC hr hlk hM (by first | rfl | simp [b1, hd, c_1, c_2, c_2q]) (by first | decide | simp) (rfl) (rfl) dX2_holdsOneOf_43
    · have c_2q := c_2
      have c_2 := Int32.not_le.mp c_2
      refine lv_iload_n hx hb dX2_holdsOneOf_25 rfl (lv_at hl 1 rfl) ?_
      refine lv_aload_n hx hb dX2_holdsOneOf_26 rfl (lv_at hl 0 rfl) ?_
      refine fg_X2_15 hC hM he rfl dX2_holdsOneOf_27 ?_
      refine lv_aload_n hx hb dX2_holdsOneOf_30 rfl (lv_at hl 0 rfl) ?_
      refine fg_X2_18 hC hM he rfl dX2_holdsOneOf_31 ?_
      refine lv_iadd hx hb dX2_holdsOneOf_34 ?_
      refine lv_icmp_ge (tgt := 42) hx hb dX2_holdsOneOf_35 (by decide) (fun c_3 => ?_) (fun c_3 => ?_)
      · have c_3q := c_3
        have c_3 := Int32.not_lt.mpr c_3
        refine lv_iconst (v := 0) hx hb dX2_holdsOneOf_42 (by decide) ?_
        exact me_zret hC hr hlk hM (by first | rfl | simp [b1, hd, c_1, c_2, c_3, c_2q, c_3q]) (by first | decide | simp) (rfl) (rfl) dX2_holdsOneOf_43
      · have c_3q := c_3
        have c_3 := Int32.not_le.mp c_3
        refine lv_iconst (v := 1) hx hb dX2_holdsOneOf_38 (by decide) ?_
        refine lv_goto (tgt := 43) hx hb dX2_holdsOneOf_39 (by decide) ?_
        exact me_zret hC hr hlk hM (by first | rfl | simp [b1, hd, c_1, c_2, c_3, c_2q, c_3q]) (by first | decide | simp) (rfl) (rfl) dX2_holdsOneOf_43
  · refine lv_aload_n hx hb dX2_holdsOneOf_7 rfl (lv_at hl 0 rfl) ?_
    refine fg_X2_24 hC hM he rfl dX2_holdsOneOf_8 ?_
    refine lv_iconst (v := 1) hx hb dX2_holdsOneOf_11 (by decide) ?_
    refine lv_icmp_ne (tgt := 42) hx hb dX2_holdsOneOf_12 (by decide) (fun c_4 => ?_) (fun c_4 => ?_)
    · refine lv_iconst (v := 0) hx hb dX2_holdsOneOf_42 (by decide) ?_
      exact me_zret hC hr hlk hM (by first | rfl | simp [b1, hd, c_1, c_4]) (by first | decide | simp) (rfl) (rfl) dX2_holdsOneOf_43
    · refine lv_aload_n hx hb dX2_holdsOneOf_15 rfl (lv_at hl 0 rfl) ?_
      refine fg_X2_15 hC hM he rfl dX2_holdsOneOf_16 ?_
      refine lv_iload_n hx hb dX2_holdsOneOf_19 rfl (lv_at hl 1 rfl) ?_
      refine lv_iload_n hx hb dX2_holdsOneOf_20 rfl (lv_at hl 2 rfl) ?_
      refine lv_iadd hx hb dX2_holdsOneOf_21 ?_
      refine lv_icmp_ge (tgt := 42) hx hb dX2_holdsOneOf_22 (by decide) (fun c_5 => ?_) (fun c_5 => ?_)
      · have c_5q := c_5
        have c_5 := Int32.not_lt.mpr c_5
        refine lv_iconst (v := 0) hx hb dX2_holdsOneOf_42 (by decide) ?_
        exact me_zret hC hr hlk hM (by first | rfl | simp [b1, hd, c_1, c_4, c_5, c_5q]) (by first | decide | simp) (rfl) (rfl) dX2_holdsOneOf_43
      · have c_5q := c_5
        have c_5 := Int32.not_le.mp c_5
        refine lv_iload_n hx hb dX2_holdsOneOf_25 rfl (lv_at hl 1 rfl) ?_
        refine lv_aload_n hx hb dX2_holdsOneOf_26 rfl (lv_at hl 0 rfl) ?_
        refine fg_X2_15 hC hM he rfl dX2_holdsOneOf_27 ?_
        refine lv_aload_n hx hb dX2_holdsOneOf_30 rfl (lv_at hl 0 rfl) ?_
        refine fg_X2_18 hC hM he rfl dX2_holdsOneOf_31 ?_
        refine lv_iadd hx hb dX2_holdsOneOf_34 ?_
        refine lv_icmp_ge (tgt := 42) hx hb dX2_holdsOneOf_35 (by decide) (fun c_6 => ?_) (fun c_6 => ?_)
        · have c_6q := c_6
          have c_6 := Int32.not_lt.mpr c_6
          refine lv_iconst (v := 0) hx hb dX2_holdsOneOf_42 (by decide) ?_
          exact me_zret hC hr hlk hM (by first | rfl | simp [b1, hd, c_1, c_4, c_5, c_6, c_5q, c_6q]) (by first | decide | simp) (rfl) (rfl) dX2_holdsOneOf_43
        · have c_6q := c_6
          have c_6 := Int32.not_le.mp c_6
          refine lv_iconst (v := 1) hx hb dX2_holdsOneOf_38 (by decide) ?_
          refine lv_goto (tgt := 43) hx hb dX2_holdsOneOf_39 (by decide) ?_
          exact me_zret hC hr hlk hM (by first | rfl | simp [b1, hd, c_1, c_4, c_5, c_6, c_5q, c_6q]) (by first | decide | simp) (rfl) (rfl) dX2_holdsOneOf_43
set_option maxHeartbeats 4000000 in
theorem c_X2_canBeReturned (l : Launch) (D : va_G) (tb : Nat → ClassId) (X : State → Prop) (z0 n : Nat) (M : me_M) (q : Nat) (xb xs xl xp xt : Int32) (he : M q = some (.inr (2, [.int xb, .int xs, .int xl, .int xp, .int xt]))) : Met l yX2_canBeReturned (.code yX2_canBeReturned cX2_canBeReturned 1 (some .boolean) :: ws_all) ({ frames := 0, cells := 0, slots := 0, locals := 0 } : Room) (me_Pc [.ref q] D tb X z0 (M) n) (me_Qi D z0 (b1 (xt = 2 ∨ xt = 4)) (M) n) 0 0 (me_A z0) := by
  refine me_open (by decide) (Nat.le_of_ble_eq_true rfl) ?_
  intro p e s m args below meth c ls hC hr hlk hnm hM hl
  have hl : lv_has ls 1 [(0, .ref q)] := hl
  have hx := hC.1
  have hb := hC.2.1
  have hw := hC.2.2.2.2.1
  refine lv_aload_n hx hb dX2_canBeReturned_0 rfl (lv_at hl 0 rfl) ?_
  refine fg_X2_24 hC hM he rfl dX2_canBeReturned_1 ?_
  refine lv_iconst (v := 2) hx hb dX2_canBeReturned_4 (by decide) ?_
  refine lv_icmp_eq (tgt := 16) hx hb dX2_canBeReturned_5 (by decide) (fun c_1 => ?_) (fun c_1 => ?_)
  · refine lv_iconst (v := 1) hx hb dX2_canBeReturned_16 (by decide) ?_
    refine lv_goto (tgt := 21) hx hb dX2_canBeReturned_17 (by decide) ?_
    exact me_zret hC hr hlk hM (by first | rfl | simp [b1, c_1]) (by first | decide | simp) (rfl) (rfl) dX2_canBeReturned_21
  · refine lv_aload_n hx hb dX2_canBeReturned_8 rfl (lv_at hl 0 rfl) ?_
    refine fg_X2_24 hC hM he rfl dX2_canBeReturned_9 ?_
    refine lv_iconst (v := 4) hx hb dX2_canBeReturned_12 (by decide) ?_
    refine lv_icmp_ne (tgt := 20) hx hb dX2_canBeReturned_13 (by decide) (fun c_2 => ?_) (fun c_2 => ?_)
    · refine lv_iconst (v := 0) hx hb dX2_canBeReturned_20 (by decide) ?_
      exact me_zret hC hr hlk hM (by first | rfl | simp [b1, c_1, c_2]) (by first | decide | simp) (rfl) (rfl) dX2_canBeReturned_21
    · refine lv_iconst (v := 1) hx hb dX2_canBeReturned_16 (by decide) ?_
      refine lv_goto (tgt := 21) hx hb dX2_canBeReturned_17 (by decide) ?_
      exact me_zret hC hr hlk hM (by first | rfl | simp [b1, c_1, c_2]) (by first | decide | simp) (rfl) (rfl) dX2_canBeReturned_21
set_option maxHeartbeats 4000000 in
theorem c_X4_covers (l : Launch) (D : va_G) (tb : Nat → ClassId) (X : State → Prop) (z0 n : Nat) (M : me_M) (q : Nat) (xs xa xl xr : Int32) (f h : Int32) (he : M q = some (.inr (4, [.int xs, .int xa, .int xl, .int xr]))) : Met l yX4_covers (.code yX4_covers cX4_covers 3 (some .boolean) :: ws_all) ({ frames := 0, cells := 0, slots := 0, locals := 0 } : Room) (me_Pc [.ref q, .int f, .int h] D tb X z0 (M) n) (me_Qi D z0 (b1 (cv xr xs xa xl f h)) (M) n) 0 0 (me_A z0) := by
  refine me_open (by decide) (Nat.le_of_ble_eq_true rfl) ?_
  intro p e s m args below meth c ls hC hr hlk hnm hM hl
  have hl : lv_has ls 3 [(0, .ref q), (1, .int f), (2, .int h)] := hl
  have hx := hC.1
  have hb := hC.2.1
  have hw := hC.2.2.2.2.1
  refine lv_aload_n hx hb dX4_covers_0 rfl (lv_at hl 0 rfl) ?_
  refine fg_X4_19 hC hM he rfl dX4_covers_1 ?_
  refine lv_if_ne (tgt := 40) hx hb dX4_covers_4 (by decide) (fun c_1 => ?_) (fun c_1 => ?_)
  · refine lv_iconst (v := 0) hx hb dX4_covers_40 (by decide) ?_
    exact me_zret hC hr hlk hM (by first | rfl | simp [b1, cv, c_1]) (by first | decide | simp) (rfl) (rfl) dX4_covers_41
  · refine lv_aload_n hx hb dX4_covers_7 rfl (lv_at hl 0 rfl) ?_
    refine fg_X4_7 hC hM he rfl dX4_covers_8 ?_
    refine lv_iload_n hx hb dX4_covers_11 rfl (lv_at hl 1 rfl) ?_
    refine lv_icmp_ne (tgt := 40) hx hb dX4_covers_12 (by decide) (fun c_2 => ?_) (fun c_2 => ?_)
    · refine lv_iconst (v := 0) hx hb dX4_covers_40 (by decide) ?_
      exact me_zret hC hr hlk hM (by first | rfl | simp [b1, cv, c_1, c_2]) (by first | decide | simp) (rfl) (rfl) dX4_covers_41
    · refine lv_aload_n hx hb dX4_covers_15 rfl (lv_at hl 0 rfl) ?_
      refine fg_X4_13 hC hM he rfl dX4_covers_16 ?_
      refine lv_iload_n hx hb dX4_covers_19 rfl (lv_at hl 2 rfl) ?_
      refine lv_icmp_gt (tgt := 40) hx hb dX4_covers_20 (by decide) (fun c_3 => ?_) (fun c_3 => ?_)
      · have c_3q := Int32.not_le.mpr c_3
        refine lv_iconst (v := 0) hx hb dX4_covers_40 (by decide) ?_
        exact me_zret hC hr hlk hM (by first | rfl | simp [b1, cv, c_1, c_2, c_3, c_3q]) (by first | decide | simp) (rfl) (rfl) dX4_covers_41
      · have c_3q := Int32.not_lt.mp c_3
        refine lv_iload_n hx hb dX4_covers_23 rfl (lv_at hl 2 rfl) ?_
        refine lv_aload_n hx hb dX4_covers_24 rfl (lv_at hl 0 rfl) ?_
        refine fg_X4_13 hC hM he rfl dX4_covers_25 ?_
        refine lv_aload_n hx hb dX4_covers_28 rfl (lv_at hl 0 rfl) ?_
        refine fg_X4_16 hC hM he rfl dX4_covers_29 ?_
        refine lv_iadd hx hb dX4_covers_32 ?_
        refine lv_icmp_ge (tgt := 40) hx hb dX4_covers_33 (by decide) (fun c_4 => ?_) (fun c_4 => ?_)
        · have c_4q := c_4
          have c_4 := Int32.not_lt.mpr c_4
          refine lv_iconst (v := 0) hx hb dX4_covers_40 (by decide) ?_
          exact me_zret hC hr hlk hM (by first | rfl | simp [b1, cv, c_1, c_2, c_3, c_4, c_3q, c_4q]) (by first | decide | simp) (rfl) (rfl) dX4_covers_41
        · have c_4q := c_4
          have c_4 := Int32.not_le.mp c_4
          refine lv_iconst (v := 1) hx hb dX4_covers_36 (by decide) ?_
          refine lv_goto (tgt := 41) hx hb dX4_covers_37 (by decide) ?_
          exact me_zret hC hr hlk hM (by first | rfl | simp [b1, cv, c_1, c_2, c_3, c_4, c_3q, c_4q]) (by first | decide | simp) (rfl) (rfl) dX4_covers_41
set_option maxHeartbeats 4000000 in
theorem c_X2_copyFrom (l : Launch) (D : va_G) (tb : Nat → ClassId) (X : State → Prop) (z0 n : Nat) (M : me_M) (q o : Nat) (x0 x1 x2 x3 x4 y0 y1 y2 y3 y4 : Int32) (he : M q = some (.inr (2, [.int x0, .int x1, .int x2, .int x3, .int x4]))) (ho : M o = some (.inr (2, [.int y0, .int y1, .int y2, .int y3, .int y4]))) (hq : o ≠ q) : Met l yX2_copyFrom (.code yX2_copyFrom cX2_copyFrom 2 none :: ws_all) ({ frames := 0, cells := 0, slots := 0, locals := 0 } : Room) (me_Pc [.ref q, .ref o] D tb X z0 (M) n) (me_Qv D z0 (me_up M q (.inr (2, [.int y0, .int y1, .int y2, .int y3, .int y4]))) n) 0 0 (me_A z0) := by
  refine me_open (by decide) (Nat.le_of_ble_eq_true rfl) ?_
  intro p e s m args below meth c ls hC hr hlk hnm hM hl
  have hl : lv_has ls 2 [(0, .ref q), (1, .ref o)] := hl
  have hx := hC.1
  have hb := hC.2.1
  have hw := hC.2.2.2.2.1
  refine lv_aload_n hx hb dX2_copyFrom_0 rfl (lv_at hl 0 rfl) ?_
  refine lv_aload_n hx hb dX2_copyFrom_1 rfl (lv_at hl 1 rfl) ?_
  refine fg_X2_9 hC hM ho rfl dX2_copyFrom_2 ?_
  refine fp_X2_9 hC hM he (Nat.le_of_ble_eq_true rfl) (M2 := me_up M q (.inr (2, [.int y0, .int x1, .int x2, .int x3, .int x4]))) rfl dX2_copyFrom_5 (fun H locs hM => ?_)
  refine lv_aload_n hx hb dX2_copyFrom_8 rfl (lv_at hl 0 rfl) ?_
  refine lv_aload_n hx hb dX2_copyFrom_9 rfl (lv_at hl 1 rfl) ?_
  refine fg_X2_15 hC hM ((me_up_n hq).trans ho) rfl dX2_copyFrom_10 ?_
  refine fp_X2_15 hC hM (me_up_s _ _ _) (Nat.le_of_ble_eq_true rfl) (M2 := me_up M q (.inr (2, [.int y0, .int y1, .int x2, .int x3, .int x4]))) (me_up_up _ _ _ _) dX2_copyFrom_13 (fun H locs hM => ?_)
  refine lv_aload_n hx hb dX2_copyFrom_16 rfl (lv_at hl 0 rfl) ?_
  refine lv_aload_n hx hb dX2_copyFrom_17 rfl (lv_at hl 1 rfl) ?_
  refine fg_X2_18 hC hM ((me_up_n hq).trans ho) rfl dX2_copyFrom_18 ?_
  refine fp_X2_18 hC hM (me_up_s _ _ _) (Nat.le_of_ble_eq_true rfl) (M2 := me_up M q (.inr (2, [.int y0, .int y1, .int y2, .int x3, .int x4]))) (me_up_up _ _ _ _) dX2_copyFrom_21 (fun H locs hM => ?_)
  refine lv_aload_n hx hb dX2_copyFrom_24 rfl (lv_at hl 0 rfl) ?_
  refine lv_aload_n hx hb dX2_copyFrom_25 rfl (lv_at hl 1 rfl) ?_
  refine fg_X2_21 hC hM ((me_up_n hq).trans ho) rfl dX2_copyFrom_26 ?_
  refine fp_X2_21 hC hM (me_up_s _ _ _) (Nat.le_of_ble_eq_true rfl) (M2 := me_up M q (.inr (2, [.int y0, .int y1, .int y2, .int y3, .int x4]))) (me_up_up _ _ _ _) dX2_copyFrom_29 (fun H locs hM => ?_)
  refine lv_aload_n hx hb dX2_copyFrom_32 rfl (lv_at hl 0 rfl) ?_
  refine lv_aload_n hx hb dX2_copyFrom_33 rfl (lv_at hl 1 rfl) ?_
  refine fg_X2_24 hC hM ((me_up_n hq).trans ho) rfl dX2_copyFrom_34 ?_
  refine fp_X2_24 hC hM (me_up_s _ _ _) (Nat.le_of_ble_eq_true rfl) (M2 := me_up M q (.inr (2, [.int y0, .int y1, .int y2, .int y3, .int y4]))) (me_up_up _ _ _ _) dX2_copyFrom_37 (fun H locs hM => ?_)
  exact me_vret hC hr hlk hM (rfl) (rfl) dX2_copyFrom_40
set_option maxHeartbeats 4000000 in
theorem c_X4_copyFrom (l : Launch) (D : va_G) (tb : Nat → ClassId) (X : State → Prop) (z0 n : Nat) (M : me_M) (q o : Nat) (x0 x1 x2 x3 y0 y1 y2 y3 : Int32) (he : M q = some (.inr (4, [.int x0, .int x1, .int x2, .int x3]))) (ho : M o = some (.inr (4, [.int y0, .int y1, .int y2, .int y3]))) (hq : o ≠ q) (hz : y3 = 0 ∨ y3 = 1) : Met l yX4_copyFrom (.code yX4_copyFrom cX4_copyFrom 2 none :: ws_all) ({ frames := 0, cells := 0, slots := 0, locals := 0 } : Room) (me_Pc [.ref q, .ref o] D tb X z0 (M) n) (me_Qv D z0 (me_up M q (.inr (4, [.int y0, .int y1, .int y2, .int y3]))) n) 0 0 (me_A z0) := by
  refine me_open (by decide) (Nat.le_of_ble_eq_true rfl) ?_
  intro p e s m args below meth c ls hC hr hlk hnm hM hl
  have hl : lv_has ls 2 [(0, .ref q), (1, .ref o)] := hl
  have hx := hC.1
  have hb := hC.2.1
  have hw := hC.2.2.2.2.1
  refine lv_aload_n hx hb dX4_copyFrom_0 rfl (lv_at hl 0 rfl) ?_
  refine lv_aload_n hx hb dX4_copyFrom_1 rfl (lv_at hl 1 rfl) ?_
  refine fg_X4_7 hC hM ho rfl dX4_copyFrom_2 ?_
  refine fp_X4_7 hC hM he (Nat.le_of_ble_eq_true rfl) (M2 := me_up M q (.inr (4, [.int y0, .int x1, .int x2, .int x3]))) rfl dX4_copyFrom_5 (fun H locs hM => ?_)
  refine lv_aload_n hx hb dX4_copyFrom_8 rfl (lv_at hl 0 rfl) ?_
  refine lv_aload_n hx hb dX4_copyFrom_9 rfl (lv_at hl 1 rfl) ?_
  refine fg_X4_13 hC hM ((me_up_n hq).trans ho) rfl dX4_copyFrom_10 ?_
  refine fp_X4_13 hC hM (me_up_s _ _ _) (Nat.le_of_ble_eq_true rfl) (M2 := me_up M q (.inr (4, [.int y0, .int y1, .int x2, .int x3]))) (me_up_up _ _ _ _) dX4_copyFrom_13 (fun H locs hM => ?_)
  refine lv_aload_n hx hb dX4_copyFrom_16 rfl (lv_at hl 0 rfl) ?_
  refine lv_aload_n hx hb dX4_copyFrom_17 rfl (lv_at hl 1 rfl) ?_
  refine fg_X4_16 hC hM ((me_up_n hq).trans ho) rfl dX4_copyFrom_18 ?_
  refine fp_X4_16 hC hM (me_up_s _ _ _) (Nat.le_of_ble_eq_true rfl) (M2 := me_up M q (.inr (4, [.int y0, .int y1, .int y2, .int x3]))) (me_up_up _ _ _ _) dX4_copyFrom_21 (fun H locs hM => ?_)
  refine lv_aload_n hx hb dX4_copyFrom_24 rfl (lv_at hl 0 rfl) ?_
  refine lv_aload_n hx hb dX4_copyFrom_25 rfl (lv_at hl 1 rfl) ?_
  refine fg_X4_19 hC hM ((me_up_n hq).trans ho) rfl dX4_copyFrom_26 ?_
  refine fp_X4_19 hC hM (me_up_s _ _ _) (Nat.le_of_ble_eq_true rfl) (by rcases hz with rfl | rfl <;> decide) (by rcases hz with rfl | rfl <;> decide) (M2 := me_up M q (.inr (4, [.int y0, .int y1, .int y2, .int y3]))) (me_up_up _ _ _ _) dX4_copyFrom_29 (fun H locs hM => ?_)
  exact me_vret hC hr hlk hM (rfl) (rfl) dX4_copyFrom_32
set_option maxHeartbeats 4000000 in
theorem c_X6_copyFrom (l : Launch) (D : va_G) (tb : Nat → ClassId) (X : State → Prop) (z0 n : Nat) (M : me_M) (q o : Nat) (x0 x1 x2 x3 x4 x5 y0 y1 y2 y3 y4 y5 : Int32) (he : M q = some (.inr (6, [.int x0, .int x1, .int x2, .int x3, .int x4, .int x5]))) (ho : M o = some (.inr (6, [.int y0, .int y1, .int y2, .int y3, .int y4, .int y5]))) (hq : o ≠ q) : Met l yX6_copyFrom (.code yX6_copyFrom cX6_copyFrom 2 none :: ws_all) ({ frames := 0, cells := 0, slots := 0, locals := 0 } : Room) (me_Pc [.ref q, .ref o] D tb X z0 (M) n) (me_Qv D z0 (me_up M q (.inr (6, [.int y0, .int y1, .int y2, .int y3, .int y4, .int x5]))) n) 0 0 (me_A z0) := by
  refine me_open (by decide) (Nat.le_of_ble_eq_true rfl) ?_
  intro p e s m args below meth c ls hC hr hlk hnm hM hl
  have hl : lv_has ls 2 [(0, .ref q), (1, .ref o)] := hl
  have hx := hC.1
  have hb := hC.2.1
  have hw := hC.2.2.2.2.1
  refine lv_aload_n hx hb dX6_copyFrom_0 rfl (lv_at hl 0 rfl) ?_
  refine lv_aload_n hx hb dX6_copyFrom_1 rfl (lv_at hl 1 rfl) ?_
  refine fg_X6_7 hC hM ho rfl dX6_copyFrom_2 ?_
  refine fp_X6_7 hC hM he (Nat.le_of_ble_eq_true rfl) (M2 := me_up M q (.inr (6, [.int y0, .int x1, .int x2, .int x3, .int x4, .int x5]))) rfl dX6_copyFrom_5 (fun H locs hM => ?_)
  refine lv_aload_n hx hb dX6_copyFrom_8 rfl (lv_at hl 0 rfl) ?_
  refine lv_aload_n hx hb dX6_copyFrom_9 rfl (lv_at hl 1 rfl) ?_
  refine fg_X6_13 hC hM ((me_up_n hq).trans ho) rfl dX6_copyFrom_10 ?_
  refine fp_X6_13 hC hM (me_up_s _ _ _) (Nat.le_of_ble_eq_true rfl) (M2 := me_up M q (.inr (6, [.int y0, .int y1, .int x2, .int x3, .int x4, .int x5]))) (me_up_up _ _ _ _) dX6_copyFrom_13 (fun H locs hM => ?_)
  refine lv_aload_n hx hb dX6_copyFrom_16 rfl (lv_at hl 0 rfl) ?_
  refine lv_aload_n hx hb dX6_copyFrom_17 rfl (lv_at hl 1 rfl) ?_
  refine fg_X6_16 hC hM ((me_up_n hq).trans ho) rfl dX6_copyFrom_18 ?_
  refine fp_X6_16 hC hM (me_up_s _ _ _) (Nat.le_of_ble_eq_true rfl) (M2 := me_up M q (.inr (6, [.int y0, .int y1, .int y2, .int x3, .int x4, .int x5]))) (me_up_up _ _ _ _) dX6_copyFrom_21 (fun H locs hM => ?_)
  refine lv_aload_n hx hb dX6_copyFrom_24 rfl (lv_at hl 0 rfl) ?_
  refine lv_aload_n hx hb dX6_copyFrom_25 rfl (lv_at hl 1 rfl) ?_
  refine fg_X6_19 hC hM ((me_up_n hq).trans ho) rfl dX6_copyFrom_26 ?_
  refine fp_X6_19 hC hM (me_up_s _ _ _) (Nat.le_of_ble_eq_true rfl) (M2 := me_up M q (.inr (6, [.int y0, .int y1, .int y2, .int y3, .int x4, .int x5]))) (me_up_up _ _ _ _) dX6_copyFrom_29 (fun H locs hM => ?_)
  refine lv_aload_n hx hb dX6_copyFrom_32 rfl (lv_at hl 0 rfl) ?_
  refine lv_aload_n hx hb dX6_copyFrom_33 rfl (lv_at hl 1 rfl) ?_
  refine fg_X6_22 hC hM ((me_up_n hq).trans ho) rfl dX6_copyFrom_34 ?_
  refine fp_X6_22 hC hM (me_up_s _ _ _) (Nat.le_of_ble_eq_true rfl) (M2 := me_up M q (.inr (6, [.int y0, .int y1, .int y2, .int y3, .int y4, .int x5]))) (me_up_up _ _ _ _) dX6_copyFrom_37 (fun H locs hM => ?_)
  exact me_vret hC hr hlk hM (rfl) (rfl) dX6_copyFrom_40
set_option maxHeartbeats 4000000 in
theorem c_X0_copyFrom (l : Launch) (D : va_G) (tb : Nat → ClassId) (X : State → Prop) (z0 n : Nat) (M : me_M) (q o : Nat) (x0 x1 x2 x3 x4 x5 y0 y1 y2 y3 y4 y5 : Int32) (he : M q = some (.inr (0, [.int x0, .int x1, .int x2, .int x3, .int x4, .int x5]))) (ho : M o = some (.inr (0, [.int y0, .int y1, .int y2, .int y3, .int y4, .int y5]))) (hq : o ≠ q) : Met l yX0_copyFrom (.code yX0_copyFrom cX0_copyFrom 2 none :: ws_all) ({ frames := 0, cells := 0, slots := 0, locals := 0 } : Room) (me_Pc [.ref q, .ref o] D tb X z0 (M) n) (me_Qv D z0 (me_up M q (.inr (0, [.int y0, .int y1, .int y2, .int y3, .int y4, .int y5]))) n) 0 0 (me_A z0) := by
  refine me_open (by decide) (Nat.le_of_ble_eq_true rfl) ?_
  intro p e s m args below meth c ls hC hr hlk hnm hM hl
  have hl : lv_has ls 2 [(0, .ref q), (1, .ref o)] := hl
  have hx := hC.1
  have hb := hC.2.1
  have hw := hC.2.2.2.2.1
  refine lv_aload_n hx hb dX0_copyFrom_0 rfl (lv_at hl 0 rfl) ?_
  refine lv_aload_n hx hb dX0_copyFrom_1 rfl (lv_at hl 1 rfl) ?_
  refine fg_X0_9 hC hM ho rfl dX0_copyFrom_2 ?_
  refine fp_X0_9 hC hM he (Nat.le_of_ble_eq_true rfl) (M2 := me_up M q (.inr (0, [.int y0, .int x1, .int x2, .int x3, .int x4, .int x5]))) rfl dX0_copyFrom_5 (fun H locs hM => ?_)
  refine lv_aload_n hx hb dX0_copyFrom_8 rfl (lv_at hl 0 rfl) ?_
  refine lv_aload_n hx hb dX0_copyFrom_9 rfl (lv_at hl 1 rfl) ?_
  refine fg_X0_15 hC hM ((me_up_n hq).trans ho) rfl dX0_copyFrom_10 ?_
  refine fp_X0_15 hC hM (me_up_s _ _ _) (Nat.le_of_ble_eq_true rfl) (M2 := me_up M q (.inr (0, [.int y0, .int y1, .int x2, .int x3, .int x4, .int x5]))) (me_up_up _ _ _ _) dX0_copyFrom_13 (fun H locs hM => ?_)
  refine lv_aload_n hx hb dX0_copyFrom_16 rfl (lv_at hl 0 rfl) ?_
  refine lv_aload_n hx hb dX0_copyFrom_17 rfl (lv_at hl 1 rfl) ?_
  refine fg_X0_18 hC hM ((me_up_n hq).trans ho) rfl dX0_copyFrom_18 ?_
  refine fp_X0_18 hC hM (me_up_s _ _ _) (Nat.le_of_ble_eq_true rfl) (M2 := me_up M q (.inr (0, [.int y0, .int y1, .int y2, .int x3, .int x4, .int x5]))) (me_up_up _ _ _ _) dX0_copyFrom_21 (fun H locs hM => ?_)
  refine lv_aload_n hx hb dX0_copyFrom_24 rfl (lv_at hl 0 rfl) ?_
  refine lv_aload_n hx hb dX0_copyFrom_25 rfl (lv_at hl 1 rfl) ?_
  refine fg_X0_21 hC hM ((me_up_n hq).trans ho) rfl dX0_copyFrom_26 ?_
  refine fp_X0_21 hC hM (me_up_s _ _ _) (Nat.le_of_ble_eq_true rfl) (M2 := me_up M q (.inr (0, [.int y0, .int y1, .int y2, .int y3, .int x4, .int x5]))) (me_up_up _ _ _ _) dX0_copyFrom_29 (fun H locs hM => ?_)
  refine lv_aload_n hx hb dX0_copyFrom_32 rfl (lv_at hl 0 rfl) ?_
  refine lv_aload_n hx hb dX0_copyFrom_33 rfl (lv_at hl 1 rfl) ?_
  refine fg_X0_24 hC hM ((me_up_n hq).trans ho) rfl dX0_copyFrom_34 ?_
  refine fp_X0_24 hC hM (me_up_s _ _ _) (Nat.le_of_ble_eq_true rfl) (M2 := me_up M q (.inr (0, [.int y0, .int y1, .int y2, .int y3, .int y4, .int x5]))) (me_up_up _ _ _ _) dX0_copyFrom_37 (fun H locs hM => ?_)
  refine lv_aload_n hx hb dX0_copyFrom_40 rfl (lv_at hl 0 rfl) ?_
  refine lv_aload_n hx hb dX0_copyFrom_41 rfl (lv_at hl 1 rfl) ?_
  refine fg_X0_27 hC hM ((me_up_n hq).trans ho) rfl dX0_copyFrom_42 ?_
  refine fp_X0_27 hC hM (me_up_s _ _ _) (Nat.le_of_ble_eq_true rfl) (M2 := me_up M q (.inr (0, [.int y0, .int y1, .int y2, .int y3, .int y4, .int y5]))) (me_up_up _ _ _ _) dX0_copyFrom_45 (fun H locs hM => ?_)
  exact me_vret hC hr hlk hM (rfl) (rfl) dX0_copyFrom_48
