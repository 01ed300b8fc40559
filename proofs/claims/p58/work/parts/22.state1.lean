set_option maxHeartbeats 4000000 in
theorem c_X5_holder (l : Launch) (D : va_G) (tb : Nat → ClassId) (X : State → Prop) (z0 n : Nat) (a : Nat) (g : Nat → Int32) (M0 : me_M) (L : Nat) (h : Int32) (hL : g 6 = nI L) (hL0 : L ≤ 30) : Met l yX5_holder (.code yX5_holder cX5_holder 3 (some .int) :: ws_all) ({ frames := 1, cells := 0, slots := 0, locals := 22 } : Room) (me_Pc [.ref a, .int h] D tb X z0 (sp tb a g M0) n) (me_Qi D z0 (hoF g L h) (sp tb a g M0) n) 0 0 (me_A z0) := by
  refine me_open (by decide) (Nat.le_of_ble_eq_true rfl) ?_
  intro p e s m args below meth c ls hC hr hlk hnm hM hl
  have hl : lv_has ls 3 [(0, .ref a), (1, .int h)] := hl
  have hx := hC.1
  have hb := hC.2.1
  have hw := hC.2.2.2.2.1
  refine lv_iconst (v := 0) hx hb dX5_holder_0 (by decide) ?_
  refine lv_istore_n (lv' := [(2, .int 0), (0, .ref a), (1, .int h)]) hx hb dX5_holder_1 rfl hl (by decide) rfl (fun ls hl => ?_)
  have lp_2 : ∀ (r : Nat) (k : Nat) (H : Heap) (locs : List Loc) (ls : Array Slot), (k + r = L) → (hoF g L h = fi (fun k => hdK g k h 1) r k) → me_at D z0 (sp tb a g M0) n s H locs → lv_has ls 3 [(0, .ref a), (1, .int h), (2, .int (nI k))] → W p l e (({ frames := 1, cells := 0, slots := 0, locals := 22 } : Room)) s m args below meth c H locs 0 0 (MQ below (me_Qi D z0 (hoF g L h) (sp tb a g M0) n) args s 0 0 (me_A z0)) (F0 m 2 ls []) := by
    intro r
    refine Nat.strongRecOn r ?_
    intro r ih_2 k H locs ls hk hq hM hl
    refine lv_iload_n hx hb dX5_holder_2 rfl (lv_at hl 2 rfl) ?_
    refine lv_aload_n hx hb dX5_holder_3 rfl (lv_at hl 0 rfl) ?_
    refine fg_X5_61 hC hM (sp_st _ _ _ _) rfl dX5_holder_4 ?_
    refine lv_icmp_ge (tgt := 32) hx hb dX5_holder_7 (by decide) (fun c_1 => ?_) (fun c_1 => ?_)
    · have c_1 := (br_le hL rfl (by omega) (by omega)).mp c_1
      refine lv_iconst (v := (-1)) hx hb dX5_holder_32 (by decide) ?_
      exact me_iret hC hr hlk hM (by rw [hq, show r = 0 by omega]; rfl) (rfl) (rfl) dX5_holder_33
    · have c_1 := (not_congr (br_le hL rfl (by omega) (by omega))).mp c_1
      obtain ⟨r1, rfl⟩ : ∃ r1, r = r1 + 1 := ⟨r - 1, by omega⟩
      refine lv_aload_n hx hb dX5_holder_10 rfl (lv_at hl 0 rfl) ?_
      refine fg_X5_25 hC hM (sp_st _ _ _ _) rfl dX5_holder_11 ?_
      refine lv_iload_n hx hb dX5_holder_14 rfl (lv_at hl 2 rfl) ?_
      refine me_aald (k := k) hC hM (sp_a3 _ _ _ _) (t0 := 8) rfl rfl (by omega) (by decide) (sp_arr_at (by omega)) dX5_holder_15 ?_
      refine lv_iload_n hx hb dX5_holder_16 rfl (lv_at hl 1 rfl) ?_
      refine lv_iconst (v := 1) hx hb dX5_holder_17 (by decide) ?_
      refine me_callVi (As := [.int h, .int 1]) (rest := []) hC hl.1 hM (c_X2_holdsOneOf l D tb X z0 n _ _ _ _ _ _ _ h 1 (sp_loan _ _ _ _ (by omega))) (kv_X5_93 hw rfl rfl ⟨Nat.le_of_ble_eq_true rfl, Nat.le_of_ble_eq_true rfl⟩) rfl rfl (sp_loan _ _ _ _ (by omega)) rfl (Nat.le_of_ble_eq_true rfl) dX5_holder_18 ⟨Nat.le_of_ble_eq_true rfl, Nat.le_of_ble_eq_true rfl⟩ (fun H locs hM => ?_)
      refine lv_if_eq (tgt := 26) hx hb dX5_holder_21 (by decide) (fun c_2 => ?_) (fun c_2 => ?_)
      · have c_2 := b1_0.mp c_2
        refine lv_iinc (v := nI (k + 1)) (lv' := [(2, .int (nI (k + 1))), (0, .ref a), (1, .int h)]) hx hb dX5_holder_26 hl (k := 2) rfl (nx_add rfl rfl) (by decide) rfl (fun ls hl => ?_)
        refine lv_goto (tgt := 2) hx hb dX5_holder_29 (by decide) ?_
        exact ih_2 r1 (by omega) (k + 1) _ _ _ (by omega) (hq.trans (fi_f (c_2))) hM (lv_sub hl [1, 2, 0] rfl)
      · have c_2 := b1_n0.mp c_2
        refine lv_iload_n hx hb dX5_holder_24 rfl (lv_at hl 2 rfl) ?_
        exact me_iret hC hr hlk hM (by rw [hq, fi_t (c_2)]) (rfl) (rfl) dX5_holder_25
  exact lp_2 L 0 _ _ _ (by omega) rfl hM (lv_sub hl [1, 2, 0] rfl)
set_option maxHeartbeats 4000000 in
theorem c_X5_permitAt (l : Launch) (D : va_G) (tb : Nat → ClassId) (X : State → Prop) (z0 n : Nat) (a : Nat) (g : Nat → Int32) (M0 : me_M) (P : Nat) (f h : Int32) (hP : g 5 = nI P) (hP0 : P ≤ 10) : Met l yX5_permitAt (.code yX5_permitAt cX5_permitAt 4 (some .int) :: ws_all) ({ frames := 1, cells := 0, slots := 0, locals := 22 } : Room) (me_Pc [.ref a, .int f, .int h] D tb X z0 (sp tb a g M0) n) (me_Qi D z0 (peF g P f h) (sp tb a g M0) n) 0 0 (me_A z0) := by
  refine me_open (by decide) (Nat.le_of_ble_eq_true rfl) ?_
  intro p e s m args below meth c ls hC hr hlk hnm hM hl
  have hl : lv_has ls 4 [(0, .ref a), (1, .int f), (2, .int h)] := hl
  have hx := hC.1
  have hb := hC.2.1
  have hw := hC.2.2.2.2.1
  refine lv_iconst (v := 0) hx hb dX5_permitAt_0 (by decide) ?_
  refine lv_istore_n (lv' := [(3, .int 0), (0, .ref a), (1, .int f), (2, .int h)]) hx hb dX5_permitAt_1 rfl hl (by decide) rfl (fun ls hl => ?_)
  have lp_2 : ∀ (r : Nat) (k : Nat) (H : Heap) (locs : List Loc) (ls : Array Slot), (k + r = P) → (peF g P f h = fi (fun k => cvK g k f h) r k) → me_at D z0 (sp tb a g M0) n s H locs → lv_has ls 4 [(0, .ref a), (1, .int f), (2, .int h), (3, .int (nI k))] → W p l e (({ frames := 1, cells := 0, slots := 0, locals := 22 } : Room)) s m args below meth c H locs 0 0 (MQ below (me_Qi D z0 (peF g P f h) (sp tb a g M0) n) args s 0 0 (me_A z0)) (F0 m 2 ls []) := by
    intro r
    refine Nat.strongRecOn r ?_
    intro r ih_2 k H locs ls hk hq hM hl
    refine lv_iload_n hx hb dX5_permitAt_2 rfl (lv_at hl 3 rfl) ?_
    refine lv_aload_n hx hb dX5_permitAt_3 rfl (lv_at hl 0 rfl) ?_
    refine fg_X5_64 hC hM (sp_st _ _ _ _) rfl dX5_permitAt_4 ?_
    refine lv_icmp_ge (tgt := 32) hx hb dX5_permitAt_7 (by decide) (fun c_1 => ?_) (fun c_1 => ?_)
    · have c_1 := (br_le hP rfl (by omega) (by omega)).mp c_1
      refine lv_iconst (v := (-1)) hx hb dX5_permitAt_32 (by decide) ?_
      exact me_iret hC hr hlk hM (by rw [hq, show r = 0 by omega]; rfl) (rfl) (rfl) dX5_permitAt_33
    · have c_1 := (not_congr (br_le hP rfl (by omega) (by omega))).mp c_1
      obtain ⟨r1, rfl⟩ : ∃ r1, r = r1 + 1 := ⟨r - 1, by omega⟩
      refine lv_aload_n hx hb dX5_permitAt_10 rfl (lv_at hl 0 rfl) ?_
      refine fg_X5_31 hC hM (sp_st _ _ _ _) rfl dX5_permitAt_11 ?_
      refine lv_iload_n hx hb dX5_permitAt_14 rfl (lv_at hl 3 rfl) ?_
      refine me_aald (k := k) hC hM (sp_a4 _ _ _ _) (t0 := 9) rfl rfl (by omega) (by decide) (sp_arr_at (by omega)) dX5_permitAt_15 ?_
      refine lv_iload_n hx hb dX5_permitAt_16 rfl (lv_at hl 1 rfl) ?_
      refine lv_iload_n hx hb dX5_permitAt_17 rfl (lv_at hl 2 rfl) ?_
      refine me_callVi (As := [.int f, .int h]) (rest := []) hC hl.1 hM (c_X4_covers l D tb X z0 n _ _ _ _ _ _ f h (sp_permit _ _ _ _ (by omega))) (kv_X5_101 hw rfl rfl ⟨Nat.le_of_ble_eq_true rfl, Nat.le_of_ble_eq_true rfl⟩) rfl rfl (sp_permit _ _ _ _ (by omega)) rfl (Nat.le_of_ble_eq_true rfl) dX5_permitAt_18 ⟨Nat.le_of_ble_eq_true rfl, Nat.le_of_ble_eq_true rfl⟩ (fun H locs hM => ?_)
      refine lv_if_eq (tgt := 26) hx hb dX5_permitAt_21 (by decide) (fun c_2 => ?_) (fun c_2 => ?_)
      · have c_2 := b1_0.mp c_2
        refine lv_iinc (v := nI (k + 1)) (lv' := [(3, .int (nI (k + 1))), (0, .ref a), (1, .int f), (2, .int h)]) hx hb dX5_permitAt_26 hl (k := 3) rfl (nx_add rfl rfl) (by decide) rfl (fun ls hl => ?_)
        refine lv_goto (tgt := 2) hx hb dX5_permitAt_29 (by decide) ?_
        exact ih_2 r1 (by omega) (k + 1) _ _ _ (by omega) (hq.trans (fi_f (c_2))) hM (lv_sub hl [1, 2, 3, 0] rfl)
      · have c_2 := b1_n0.mp c_2
        refine lv_iload_n hx hb dX5_permitAt_24 rfl (lv_at hl 3 rfl) ?_
        exact me_iret hC hr hlk hM (by rw [hq, fi_t (c_2)]) (rfl) (rfl) dX5_permitAt_25
  exact lp_2 P 0 _ _ _ (by omega) rfl hM (lv_sub hl [1, 2, 3, 0] rfl)
set_option maxHeartbeats 4000000 in
theorem c_X5_streetNamed (l : Launch) (D : va_G) (tb : Nat → ClassId) (X : State → Prop) (z0 n : Nat) (a : Nat) (g : Nat → Int32) (M0 : me_M) (S : Nat) (nm : Int32) (hS : g 3 = nI S) (hS0 : S ≤ 8) : Met l yX5_streetNamed (.code yX5_streetNamed cX5_streetNamed 3 (some .int) :: ws_all) ({ frames := 0, cells := 0, slots := 0, locals := 0 } : Room) (me_Pc [.ref a, .int nm] D tb X z0 (sp tb a g M0) n) (me_Qi D z0 (fi (fun k => g (9 + 10 * k + 4) = nm) S 0) (sp tb a g M0) n) 0 0 (me_A z0) := by
  refine me_open (by decide) (Nat.le_of_ble_eq_true rfl) ?_
  intro p e s m args below meth c ls hC hr hlk hnm hM hl
  have hl : lv_has ls 3 [(0, .ref a), (1, .int nm)] := hl
  have hx := hC.1
  have hb := hC.2.1
  have hw := hC.2.2.2.2.1
  refine lv_iconst (v := 0) hx hb dX5_streetNamed_0 (by decide) ?_
  refine lv_istore_n (lv' := [(2, .int 0), (0, .ref a), (1, .int nm)]) hx hb dX5_streetNamed_1 rfl hl (by decide) rfl (fun ls hl => ?_)
  have lp_2 : ∀ (r : Nat) (k : Nat) (H : Heap) (locs : List Loc) (ls : Array Slot), (k + r = S) → (fi (fun k => g (9 + 10 * k + 4) = nm) S 0 = fi (fun k => g (9 + 10 * k + 4) = nm) r k) → me_at D z0 (sp tb a g M0) n s H locs → lv_has ls 3 [(0, .ref a), (1, .int nm), (2, .int (nI k))] → W p l e (({ frames := 0, cells := 0, slots := 0, locals := 0 } : Room)) s m args below meth c H locs 0 0 (MQ below (me_Qi D z0 (fi (fun k => g (9 + 10 * k + 4) = nm) S 0) (sp tb a g M0) n) args s 0 0 (me_A z0)) (F0 m 2 ls []) := by
    intro r
    refine Nat.strongRecOn r ?_
    intro r ih_2 k H locs ls hk hq hM hl
    refine lv_iload_n hx hb dX5_streetNamed_2 rfl (lv_at hl 2 rfl) ?_
    refine lv_aload_n hx hb dX5_streetNamed_3 rfl (lv_at hl 0 rfl) ?_
    refine fg_X5_55 hC hM (sp_st _ _ _ _) rfl dX5_streetNamed_4 ?_
    refine lv_icmp_ge (tgt := 31) hx hb dX5_streetNamed_7 (by decide) (fun c_1 => ?_) (fun c_1 => ?_)
    · have c_1 := (br_le hS rfl (by omega) (by omega)).mp c_1
      refine lv_iconst (v := (-1)) hx hb dX5_streetNamed_31 (by decide) ?_
      exact me_iret hC hr hlk hM (by rw [hq, show r = 0 by omega]; rfl) (rfl) (rfl) dX5_streetNamed_32
    · have c_1 := (not_congr (br_le hS rfl (by omega) (by omega))).mp c_1
      obtain ⟨r1, rfl⟩ : ∃ r1, r = r1 + 1 := ⟨r - 1, by omega⟩
      refine lv_aload_n hx hb dX5_streetNamed_10 rfl (lv_at hl 0 rfl) ?_
      refine fg_X5_11 hC hM (sp_st _ _ _ _) rfl dX5_streetNamed_11 ?_
      refine lv_iload_n hx hb dX5_streetNamed_14 rfl (lv_at hl 2 rfl) ?_
      refine me_aald (k := k) hC hM (sp_a1 _ _ _ _) (t0 := 6) rfl rfl (by omega) (by decide) (sp_arr_at (by omega)) dX5_streetNamed_15 ?_
      refine fg_X5_80 hC hM (sp_street _ _ _ _ (by omega)) rfl dX5_streetNamed_16 ?_
      refine lv_iload_n hx hb dX5_streetNamed_19 rfl (lv_at hl 1 rfl) ?_
      refine lv_icmp_ne (tgt := 25) hx hb dX5_streetNamed_20 (by decide) (fun c_2 => ?_) (fun c_2 => ?_)
      · refine lv_iinc (v := nI (k + 1)) (lv' := [(2, .int (nI (k + 1))), (0, .ref a), (1, .int nm)]) hx hb dX5_streetNamed_25 hl (k := 2) rfl (nx_add rfl rfl) (by decide) rfl (fun ls hl => ?_)
        refine lv_goto (tgt := 2) hx hb dX5_streetNamed_28 (by decide) ?_
        exact ih_2 r1 (by omega) (k + 1) _ _ _ (by omega) (hq.trans (fi_f (c_2))) hM (lv_sub hl [1, 2, 0] rfl)
      · refine lv_iload_n hx hb dX5_streetNamed_23 rfl (lv_at hl 2 rfl) ?_
        exact me_iret hC hr hlk hM (by rw [hq, fi_t (c_2)]) (rfl) (rfl) dX5_streetNamed_24
  exact lp_2 S 0 _ _ _ (by omega) rfl hM (lv_sub hl [1, 2, 0] rfl)
set_option maxHeartbeats 4000000 in
theorem c_X5_borrowerNamed (l : Launch) (D : va_G) (tb : Nat → ClassId) (X : State → Prop) (z0 n : Nat) (a : Nat) (g : Nat → Int32) (M0 : me_M) (B : Nat) (nm : Int32) (hB : g 4 = nI B) (hB0 : B ≤ 12) : Met l yX5_borrowerNamed (.code yX5_borrowerNamed cX5_borrowerNamed 3 (some .int) :: ws_all) ({ frames := 0, cells := 0, slots := 0, locals := 0 } : Room) (me_Pc [.ref a, .int nm] D tb X z0 (sp tb a g M0) n) (me_Qi D z0 (fi (fun k => g (89 + 11 * k + 5) = nm) B 0) (sp tb a g M0) n) 0 0 (me_A z0) := by
  refine me_open (by decide) (Nat.le_of_ble_eq_true rfl) ?_
  intro p e s m args below meth c ls hC hr hlk hnm hM hl
  have hl : lv_has ls 3 [(0, .ref a), (1, .int nm)] := hl
  have hx := hC.1
  have hb := hC.2.1
  have hw := hC.2.2.2.2.1
  refine lv_iconst (v := 0) hx hb dX5_borrowerNamed_0 (by decide) ?_
  refine lv_istore_n (lv' := [(2, .int 0), (0, .ref a), (1, .int nm)]) hx hb dX5_borrowerNamed_1 rfl hl (by decide) rfl (fun ls hl => ?_)
  have lp_2 : ∀ (r : Nat) (k : Nat) (H : Heap) (locs : List Loc) (ls : Array Slot), (k + r = B) → (fi (fun k => g (89 + 11 * k + 5) = nm) B 0 = fi (fun k => g (89 + 11 * k + 5) = nm) r k) → me_at D z0 (sp tb a g M0) n s H locs → lv_has ls 3 [(0, .ref a), (1, .int nm), (2, .int (nI k))] → W p l e (({ frames := 0, cells := 0, slots := 0, locals := 0 } : Room)) s m args below meth c H locs 0 0 (MQ below (me_Qi D z0 (fi (fun k => g (89 + 11 * k + 5) = nm) B 0) (sp tb a g M0) n) args s 0 0 (me_A z0)) (F0 m 2 ls []) := by
    intro r
    refine Nat.strongRecOn r ?_
    intro r ih_2 k H locs ls hk hq hM hl
    refine lv_iload_n hx hb dX5_borrowerNamed_2 rfl (lv_at hl 2 rfl) ?_
    refine lv_aload_n hx hb dX5_borrowerNamed_3 rfl (lv_at hl 0 rfl) ?_
    refine fg_X5_58 hC hM (sp_st _ _ _ _) rfl dX5_borrowerNamed_4 ?_
    refine lv_icmp_ge (tgt := 31) hx hb dX5_borrowerNamed_7 (by decide) (fun c_1 => ?_) (fun c_1 => ?_)
    · have c_1 := (br_le hB rfl (by omega) (by omega)).mp c_1
      refine lv_iconst (v := (-1)) hx hb dX5_borrowerNamed_31 (by decide) ?_
      exact me_iret hC hr hlk hM (by rw [hq, show r = 0 by omega]; rfl) (rfl) (rfl) dX5_borrowerNamed_32
    · have c_1 := (not_congr (br_le hB rfl (by omega) (by omega))).mp c_1
      obtain ⟨r1, rfl⟩ : ∃ r1, r = r1 + 1 := ⟨r - 1, by omega⟩
      refine lv_aload_n hx hb dX5_borrowerNamed_10 rfl (lv_at hl 0 rfl) ?_
      refine fg_X5_19 hC hM (sp_st _ _ _ _) rfl dX5_borrowerNamed_11 ?_
      refine lv_iload_n hx hb dX5_borrowerNamed_14 rfl (lv_at hl 2 rfl) ?_
      refine me_aald (k := k) hC hM (sp_a2 _ _ _ _) (t0 := 7) rfl rfl (by omega) (by decide) (sp_arr_at (by omega)) dX5_borrowerNamed_15 ?_
      refine fg_X5_83 hC hM (sp_borrower _ _ _ _ (by omega)) rfl dX5_borrowerNamed_16 ?_
      refine lv_iload_n hx hb dX5_borrowerNamed_19 rfl (lv_at hl 1 rfl) ?_
      refine lv_icmp_ne (tgt := 25) hx hb dX5_borrowerNamed_20 (by decide) (fun c_2 => ?_) (fun c_2 => ?_)
      · refine lv_iinc (v := nI (k + 1)) (lv' := [(2, .int (nI (k + 1))), (0, .ref a), (1, .int nm)]) hx hb dX5_borrowerNamed_25 hl (k := 2) rfl (nx_add rfl rfl) (by decide) rfl (fun ls hl => ?_)
        refine lv_goto (tgt := 2) hx hb dX5_borrowerNamed_28 (by decide) ?_
        exact ih_2 r1 (by omega) (k + 1) _ _ _ (by omega) (hq.trans (fi_f (c_2))) hM (lv_sub hl [1, 2, 0] rfl)
      · refine lv_iload_n hx hb dX5_borrowerNamed_23 rfl (lv_at hl 2 rfl) ?_
        exact me_iret hC hr hlk hM (by rw [hq, fi_t (c_2)]) (rfl) (rfl) dX5_borrowerNamed_24
  exact lp_2 B 0 _ _ _ (by omega) rfl hM (lv_sub hl [1, 2, 0] rfl)
set_option maxHeartbeats 4000000 in
theorem c_X5_overdueLoan (l : Launch) (D : va_G) (tb : Nat → ClassId) (X : State → Prop) (z0 n : Nat) (a : Nat) (g : Nat → Int32) (M0 : me_M) (L : Nat) (b : Int32) (hL : g 6 = nI L) (hL0 : L ≤ 30) : Met l yX5_overdueLoan (.code yX5_overdueLoan cX5_overdueLoan 3 (some .int) :: ws_all) ({ frames := 0, cells := 0, slots := 0, locals := 0 } : Room) (me_Pc [.ref a, .int b] D tb X z0 (sp tb a g M0) n) (me_Qi D z0 (ovF g L b) (sp tb a g M0) n) 0 0 (me_A z0) := by
  refine me_open (by decide) (Nat.le_of_ble_eq_true rfl) ?_
  intro p e s m args below meth c ls hC hr hlk hnm hM hl
  have hl : lv_has ls 3 [(0, .ref a), (1, .int b)] := hl
  have hx := hC.1
  have hb := hC.2.1
  have hw := hC.2.2.2.2.1
  refine lv_iconst (v := 0) hx hb dX5_overdueLoan_0 (by decide) ?_
  refine lv_istore_n (lv' := [(2, .int 0), (0, .ref a), (1, .int b)]) hx hb dX5_overdueLoan_1 rfl hl (by decide) rfl (fun ls hl => ?_)
  have lp_2 : ∀ (r : Nat) (k : Nat) (H : Heap) (locs : List Loc) (ls : Array Slot), (k + r = L) → (ovF g L b = fi (fun k => g (261 + 5 * k) = b ∧ g (261 + 5 * k + 4) = 4) r k) → me_at D z0 (sp tb a g M0) n s H locs → lv_has ls 3 [(0, .ref a), (1, .int b), (2, .int (nI k))] → W p l e (({ frames := 0, cells := 0, slots := 0, locals := 0 } : Room)) s m args below meth c H locs 0 0 (MQ below (me_Qi D z0 (ovF g L b) (sp tb a g M0) n) args s 0 0 (me_A z0)) (F0 m 2 ls []) := by
    intro r
    refine Nat.strongRecOn r ?_
    intro r ih_2 k H locs ls hk hq hM hl
    refine lv_iload_n hx hb dX5_overdueLoan_2 rfl (lv_at hl 2 rfl) ?_
    refine lv_aload_n hx hb dX5_overdueLoan_3 rfl (lv_at hl 0 rfl) ?_
    refine fg_X5_61 hC hM (sp_st _ _ _ _) rfl dX5_overdueLoan_4 ?_
    refine lv_icmp_ge (tgt := 44) hx hb dX5_overdueLoan_7 (by decide) (fun c_1 => ?_) (fun c_1 => ?_)
    · have c_1 := (br_le hL rfl (by omega) (by omega)).mp c_1
      refine lv_iconst (v := (-1)) hx hb dX5_overdueLoan_44 (by decide) ?_
      exact me_iret hC hr hlk hM (by rw [hq, show r = 0 by omega]; rfl) (rfl) (rfl) dX5_overdueLoan_45
    · have c_1 := (not_congr (br_le hL rfl (by omega) (by omega))).mp c_1
      obtain ⟨r1, rfl⟩ : ∃ r1, r = r1 + 1 := ⟨r - 1, by omega⟩
      refine lv_aload_n hx hb dX5_overdueLoan_10 rfl (lv_at hl 0 rfl) ?_
      refine fg_X5_25 hC hM (sp_st _ _ _ _) rfl dX5_overdueLoan_11 ?_
      refine lv_iload_n hx hb dX5_overdueLoan_14 rfl (lv_at hl 2 rfl) ?_
      refine me_aald (k := k) hC hM (sp_a3 _ _ _ _) (t0 := 8) rfl rfl (by omega) (by decide) (sp_arr_at (by omega)) dX5_overdueLoan_15 ?_
      refine fg_X5_84 hC hM (sp_loan _ _ _ _ (by omega)) rfl dX5_overdueLoan_16 ?_
      refine lv_iload_n hx hb dX5_overdueLoan_19 rfl (lv_at hl 1 rfl) ?_
      refine lv_icmp_ne (tgt := 38) hx hb dX5_overdueLoan_20 (by decide) (fun c_2 => ?_) (fun c_2 => ?_)
      · refine lv_iinc (v := nI (k + 1)) (lv' := [(2, .int (nI (k + 1))), (0, .ref a), (1, .int b)]) hx hb dX5_overdueLoan_38 hl (k := 2) rfl (nx_add rfl rfl) (by decide) rfl (fun ls hl => ?_)
        refine lv_goto (tgt := 2) hx hb dX5_overdueLoan_41 (by decide) ?_
        exact ih_2 r1 (by omega) (k + 1) _ _ _ (by omega) (hq.trans (fi_f (fun z => c_2 z.1))) hM (lv_sub hl [1, 2, 0] rfl)
      · refine lv_aload_n hx hb dX5_overdueLoan_23 rfl (lv_at hl 0 rfl) ?_
        refine fg_X5_25 hC hM (sp_st _ _ _ _) rfl dX5_overdueLoan_24 ?_
        refine lv_iload_n hx hb dX5_overdueLoan_27 rfl (lv_at hl 2 rfl) ?_
        refine me_aald (k := k) hC hM (sp_a3 _ _ _ _) (t0 := 8) rfl rfl (by omega) (by decide) (sp_arr_at (by omega)) dX5_overdueLoan_28 ?_
        refine fg_X5_90 hC hM (sp_loan _ _ _ _ (by omega)) rfl dX5_overdueLoan_29 ?_
        refine lv_iconst (v := 4) hx hb dX5_overdueLoan_32 (by decide) ?_
        refine lv_icmp_ne (tgt := 38) hx hb dX5_overdueLoan_33 (by decide) (fun c_3 => ?_) (fun c_3 => ?_)
        · refine lv_iinc (v := nI (k + 1)) (lv' := [(2, .int (nI (k + 1))), (0, .ref a), (1, .int b)]) hx hb dX5_overdueLoan_38 hl (k := 2) rfl (nx_add rfl rfl) (by decide) rfl (fun ls hl => ?_)
          refine lv_goto (tgt := 2) hx hb dX5_overdueLoan_41 (by decide) ?_
          exact ih_2 r1 (by omega) (k + 1) _ _ _ (by omega) (hq.trans (fi_f (fun z => c_3 z.2))) hM (lv_sub hl [1, 2, 0] rfl)
        · refine lv_iload_n hx hb dX5_overdueLoan_36 rfl (lv_at hl 2 rfl) ?_
          exact me_iret hC hr hlk hM (by rw [hq, fi_t (⟨c_2, c_3⟩)]) (rfl) (rfl) dX5_overdueLoan_37
  exact lp_2 L 0 _ _ _ (by omega) rfl hM (lv_sub hl [1, 2, 0] rfl)
set_option maxHeartbeats 4000000 in
theorem c_X5_loansIn (l : Launch) (D : va_G) (tb : Nat → ClassId) (X : State → Prop) (z0 n : Nat) (a : Nat) (g : Nat → Int32) (M0 : me_M) (L : Nat) (f h : Int32) (hL : g 6 = nI L) (hL0 : L ≤ 30) : Met l yX5_loansIn (.code yX5_loansIn cX5_loansIn 5 (some .int) :: ws_all) ({ frames := 1, cells := 0, slots := 0, locals := 22 } : Room) (me_Pc [.ref a, .int f, .int h] D tb X z0 (sp tb a g M0) n) (me_Qi D z0 (nI (loF g L f h)) (sp tb a g M0) n) 0 0 (me_A z0) := by
  refine me_open (by decide) (Nat.le_of_ble_eq_true rfl) ?_
  intro p e s m args below meth c ls hC hr hlk hnm hM hl
  have hl : lv_has ls 5 [(0, .ref a), (1, .int f), (2, .int h)] := hl
  have hx := hC.1
  have hb := hC.2.1
  have hw := hC.2.2.2.2.1
  refine lv_iconst (v := 0) hx hb dX5_loansIn_0 (by decide) ?_
  refine lv_istore_n (lv' := [(3, .int 0), (0, .ref a), (1, .int f), (2, .int h)]) hx hb dX5_loansIn_1 rfl hl (by decide) rfl (fun ls hl => ?_)
  refine lv_iconst (v := 0) hx hb dX5_loansIn_2 (by decide) ?_
  refine lv_istore (lv' := [(4, .int 0), (3, .int 0), (0, .ref a), (1, .int f), (2, .int h)]) hx hb dX5_loansIn_3 hl (by decide) rfl (fun ls hl => ?_)
  have lp_5 : ∀ (r : Nat) (k : Nat) (ct : Nat) (H : Heap) (locs : List Loc) (ls : Array Slot), (k + r = L) → (loF g L f h = ct + co (fun k => hdK g k f h) r k) → me_at D z0 (sp tb a g M0) n s H locs → lv_has ls 5 [(0, .ref a), (1, .int f), (2, .int h), (3, .int (nI ct)), (4, .int (nI k))] → W p l e (({ frames := 1, cells := 0, slots := 0, locals := 22 } : Room)) s m args below meth c H locs 0 0 (MQ below (me_Qi D z0 (nI (loF g L f h)) (sp tb a g M0) n) args s 0 0 (me_A z0)) (F0 m 5 ls []) := by
    intro r
    refine Nat.strongRecOn r ?_
    intro r ih_5 k ct H locs ls hk hq hM hl
    refine lv_iload hx hb dX5_loansIn_5 (lv_at hl 4 rfl) ?_
    refine lv_aload_n hx hb dX5_loansIn_7 rfl (lv_at hl 0 rfl) ?_
    refine fg_X5_61 hC hM (sp_st _ _ _ _) rfl dX5_loansIn_8 ?_
    refine lv_icmp_ge (tgt := 38) hx hb dX5_loansIn_11 (by decide) (fun c_1 => ?_) (fun c_1 => ?_)
    · have c_1 := (br_le hL rfl (by omega) (by omega)).mp c_1
      refine lv_iload_n hx hb dX5_loansIn_38 rfl (lv_at hl 3 rfl) ?_
      exact me_iret hC hr hlk hM (by rw [hq, show r = 0 by omega]; rfl) (rfl) (rfl) dX5_loansIn_39
    · have c_1 := (not_congr (br_le hL rfl (by omega) (by omega))).mp c_1
      obtain ⟨r1, rfl⟩ : ∃ r1, r = r1 + 1 := ⟨r - 1, by omega⟩
      refine lv_aload_n hx hb dX5_loansIn_14 rfl (lv_at hl 0 rfl) ?_
      refine fg_X5_25 hC hM (sp_st _ _ _ _) rfl dX5_loansIn_15 ?_
      refine lv_iload hx hb dX5_loansIn_18 (lv_at hl 4 rfl) ?_
      refine me_aald (k := k) hC hM (sp_a3 _ _ _ _) (t0 := 8) rfl rfl (by omega) (by decide) (sp_arr_at (by omega)) dX5_loansIn_20 ?_
      refine lv_iload_n hx hb dX5_loansIn_21 rfl (lv_at hl 1 rfl) ?_
      refine lv_iload_n hx hb dX5_loansIn_22 rfl (lv_at hl 2 rfl) ?_
      refine me_callVi (As := [.int f, .int h]) (rest := []) hC hl.1 hM (c_X2_holdsOneOf l D tb X z0 n _ _ _ _ _ _ _ f h (sp_loan _ _ _ _ (by omega))) (kv_X5_93 hw rfl rfl ⟨Nat.le_of_ble_eq_true rfl, Nat.le_of_ble_eq_true rfl⟩) rfl rfl (sp_loan _ _ _ _ (by omega)) rfl (Nat.le_of_ble_eq_true rfl) dX5_loansIn_23 ⟨Nat.le_of_ble_eq_true rfl, Nat.le_of_ble_eq_true rfl⟩ (fun H locs hM => ?_)
      refine lv_if_eq (tgt := 32) hx hb dX5_loansIn_26 (by decide) (fun c_2 => ?_) (fun c_2 => ?_)
      · have c_2 := b1_0.mp c_2
        refine lv_iinc (v := nI (k + 1)) (lv' := [(4, .int (nI (k + 1))), (0, .ref a), (1, .int f), (2, .int h), (3, .int (nI ct))]) hx hb dX5_loansIn_32 hl (k := 4) rfl (nx_add rfl rfl) (by decide) rfl (fun ls hl => ?_)
        refine lv_goto (tgt := 5) hx hb dX5_loansIn_35 (by decide) ?_
        exact ih_5 r1 (by omega) (k + 1) ct _ _ _ (by omega) (by rw [hq, co_f (c_2)]) hM (lv_sub hl [1, 2, 3, 4, 0] rfl)
      · have c_2 := b1_n0.mp c_2
        refine lv_iinc (v := nI (ct + 1)) (lv' := [(3, .int (nI (ct + 1))), (0, .ref a), (1, .int f), (2, .int h), (4, .int (nI k))]) hx hb dX5_loansIn_29 hl (k := 3) rfl (nx_add rfl rfl) (by decide) rfl (fun ls hl => ?_)
        refine lv_iinc (v := nI (k + 1)) (lv' := [(4, .int (nI (k + 1))), (3, .int (nI (ct + 1))), (0, .ref a), (1, .int f), (2, .int h)]) hx hb dX5_loansIn_32 hl (k := 4) rfl (nx_add rfl rfl) (by decide) rfl (fun ls hl => ?_)
        refine lv_goto (tgt := 5) hx hb dX5_loansIn_35 (by decide) ?_
        exact ih_5 r1 (by omega) (k + 1) (ct + 1) _ _ _ (by omega) (by rw [hq, co_t (c_2)]; omega) hM (lv_sub hl [2, 3, 4, 1, 0] rfl)
  exact lp_5 L 0 0 _ _ _ (by omega) ((Nat.zero_add _).symm) hM (lv_sub hl [2, 3, 4, 1, 0] rfl)
set_option maxHeartbeats 4000000 in
theorem c_X5_countLoans (l : Launch) (D : va_G) (tb : Nat → ClassId) (X : State → Prop) (z0 n : Nat) (a : Nat) (g : Nat → Int32) (M0 : me_M) (L : Nat) (st : Int32) (hL : g 6 = nI L) (hL0 : L ≤ 30) : Met l yX5_countLoans (.code yX5_countLoans cX5_countLoans 4 (some .int) :: ws_all) ({ frames := 0, cells := 0, slots := 0, locals := 0 } : Room) (me_Pc [.ref a, .int st] D tb X z0 (sp tb a g M0) n) (me_Qi D z0 (nI (co (fun k => g (261 + 5 * k + 4) = st) L 0)) (sp tb a g M0) n) 0 0 (me_A z0) := by
  refine me_open (by decide) (Nat.le_of_ble_eq_true rfl) ?_
  intro p e s m args below meth c ls hC hr hlk hnm hM hl
  have hl : lv_has ls 4 [(0, .ref a), (1, .int st)] := hl
  have hx := hC.1
  have hb := hC.2.1
  have hw := hC.2.2.2.2.1
  refine lv_iconst (v := 0) hx hb dX5_countLoans_0 (by decide) ?_
  refine lv_istore_n (lv' := [(2, .int 0), (0, .ref a), (1, .int st)]) hx hb dX5_countLoans_1 rfl hl (by decide) rfl (fun ls hl => ?_)
  refine lv_iconst (v := 0) hx hb dX5_countLoans_2 (by decide) ?_
  refine lv_istore_n (lv' := [(3, .int 0), (2, .int 0), (0, .ref a), (1, .int st)]) hx hb dX5_countLoans_3 rfl hl (by decide) rfl (fun ls hl => ?_)
  have lp_4 : ∀ (r : Nat) (k : Nat) (ct : Nat) (H : Heap) (locs : List Loc) (ls : Array Slot), (k + r = L) → (co (fun k => g (261 + 5 * k + 4) = st) L 0 = ct + co (fun k => g (261 + 5 * k + 4) = st) r k) → me_at D z0 (sp tb a g M0) n s H locs → lv_has ls 4 [(0, .ref a), (1, .int st), (2, .int (nI ct)), (3, .int (nI k))] → W p l e (({ frames := 0, cells := 0, slots := 0, locals := 0 } : Room)) s m args below meth c H locs 0 0 (MQ below (me_Qi D z0 (nI (co (fun k => g (261 + 5 * k + 4) = st) L 0)) (sp tb a g M0) n) args s 0 0 (me_A z0)) (F0 m 4 ls []) := by
    intro r
    refine Nat.strongRecOn r ?_
    intro r ih_4 k ct H locs ls hk hq hM hl
    refine lv_iload_n hx hb dX5_countLoans_4 rfl (lv_at hl 3 rfl) ?_
    refine lv_aload_n hx hb dX5_countLoans_5 rfl (lv_at hl 0 rfl) ?_
    refine fg_X5_61 hC hM (sp_st _ _ _ _) rfl dX5_countLoans_6 ?_
    refine lv_icmp_ge (tgt := 34) hx hb dX5_countLoans_9 (by decide) (fun c_1 => ?_) (fun c_1 => ?_)
    · have c_1 := (br_le hL rfl (by omega) (by omega)).mp c_1
      refine lv_iload_n hx hb dX5_countLoans_34 rfl (lv_at hl 2 rfl) ?_
      exact me_iret hC hr hlk hM (by rw [hq, show r = 0 by omega]; rfl) (rfl) (rfl) dX5_countLoans_35
    · have c_1 := (not_congr (br_le hL rfl (by omega) (by omega))).mp c_1
      obtain ⟨r1, rfl⟩ : ∃ r1, r = r1 + 1 := ⟨r - 1, by omega⟩
      refine lv_aload_n hx hb dX5_countLoans_12 rfl (lv_at hl 0 rfl) ?_
      refine fg_X5_25 hC hM (sp_st _ _ _ _) rfl dX5_countLoans_13 ?_
      refine lv_iload_n hx hb dX5_countLoans_16 rfl (lv_at hl 3 rfl) ?_
      refine me_aald (k := k) hC hM (sp_a3 _ _ _ _) (t0 := 8) rfl rfl (by omega) (by decide) (sp_arr_at (by omega)) dX5_countLoans_17 ?_
      refine fg_X5_90 hC hM (sp_loan _ _ _ _ (by omega)) rfl dX5_countLoans_18 ?_
      refine lv_iload_n hx hb dX5_countLoans_21 rfl (lv_at hl 1 rfl) ?_
      refine lv_icmp_ne (tgt := 28) hx hb dX5_countLoans_22 (by decide) (fun c_2 => ?_) (fun c_2 => ?_)
      · refine lv_iinc (v := nI (k + 1)) (lv' := [(3, .int (nI (k + 1))), (0, .ref a), (1, .int st), (2, .int (nI ct))]) hx hb dX5_countLoans_28 hl (k := 3) rfl (nx_add rfl rfl) (by decide) rfl (fun ls hl => ?_)
        refine lv_goto (tgt := 4) hx hb dX5_countLoans_31 (by decide) ?_
        exact ih_4 r1 (by omega) (k + 1) ct _ _ _ (by omega) (by rw [hq, co_f (c_2)]) hM (lv_sub hl [1, 2, 3, 0] rfl)
      · refine lv_iinc (v := nI (ct + 1)) (lv' := [(2, .int (nI (ct + 1))), (0, .ref a), (1, .int st), (3, .int (nI k))]) hx hb dX5_countLoans_25 hl (k := 2) rfl (nx_add rfl rfl) (by decide) rfl (fun ls hl => ?_)
        refine lv_iinc (v := nI (k + 1)) (lv' := [(3, .int (nI (k + 1))), (2, .int (nI (ct + 1))), (0, .ref a), (1, .int st)]) hx hb dX5_countLoans_28 hl (k := 3) rfl (nx_add rfl rfl) (by decide) rfl (fun ls hl => ?_)
        refine lv_goto (tgt := 4) hx hb dX5_countLoans_31 (by decide) ?_
        exact ih_4 r1 (by omega) (k + 1) (ct + 1) _ _ _ (by omega) (by rw [hq, co_t (c_2)]; omega) hM (lv_sub hl [2, 3, 1, 0] rfl)
  exact lp_4 L 0 0 _ _ _ (by omega) ((Nat.zero_add _).symm) hM (lv_sub hl [2, 3, 1, 0] rfl)
set_option maxHeartbeats 4000000 in
theorem c_X5_validPermits (l : Launch) (D : va_G) (tb : Nat → ClassId) (X : State → Prop) (z0 n : Nat) (a : Nat) (g : Nat → Int32) (M0 : me_M) (P : Nat)  (hP : g 5 = nI P) (hP0 : P ≤ 10) : Met l yX5_validPermits (.code yX5_validPermits cX5_validPermits 3 (some .int) :: ws_all) ({ frames := 0, cells := 0, slots := 0, locals := 0 } : Room) (me_Pc [.ref a] D tb X z0 (sp tb a g M0) n) (me_Qi D z0 (nI (co (fun k => bz (g (221 + 4 * k + 3)) = 0) P 0)) (sp tb a g M0) n) 0 0 (me_A z0) := by
  refine me_open (by decide) (Nat.le_of_ble_eq_true rfl) ?_
  intro p e s m args below meth c ls hC hr hlk hnm hM hl
  have hl : lv_has ls 3 [(0, .ref a)] := hl
  have hx := hC.1
  have hb := hC.2.1
  have hw := hC.2.2.2.2.1
  refine lv_iconst (v := 0) hx hb dX5_validPermits_0 (by decide) ?_
  refine lv_istore_n (lv' := [(1, .int 0), (0, .ref a)]) hx hb dX5_validPermits_1 rfl hl (by decide) rfl (fun ls hl => ?_)
  refine lv_iconst (v := 0) hx hb dX5_validPermits_2 (by decide) ?_
  refine lv_istore_n (lv' := [(2, .int 0), (1, .int 0), (0, .ref a)]) hx hb dX5_validPermits_3 rfl hl (by decide) rfl (fun ls hl => ?_)
  have lp_4 : ∀ (r : Nat) (k : Nat) (ct : Nat) (H : Heap) (locs : List Loc) (ls : Array Slot), (k + r = P) → (co (fun k => bz (g (221 + 4 * k + 3)) = 0) P 0 = ct + co (fun k => bz (g (221 + 4 * k + 3)) = 0) r k) → me_at D z0 (sp tb a g M0) n s H locs → lv_has ls 3 [(0, .ref a), (1, .int (nI ct)), (2, .int (nI k))] → W p l e (({ frames := 0, cells := 0, slots := 0, locals := 0 } : Room)) s m args below meth c H locs 0 0 (MQ below (me_Qi D z0 (nI (co (fun k => bz (g (221 + 4 * k + 3)) = 0) P 0)) (sp tb a g M0) n) args s 0 0 (me_A z0)) (F0 m 4 ls []) := by
    intro r
    refine Nat.strongRecOn r ?_
    intro r ih_4 k ct H locs ls hk hq hM hl
    refine lv_iload_n hx hb dX5_validPermits_4 rfl (lv_at hl 2 rfl) ?_
    refine lv_aload_n hx hb dX5_validPermits_5 rfl (lv_at hl 0 rfl) ?_
    refine fg_X5_64 hC hM (sp_st _ _ _ _) rfl dX5_validPermits_6 ?_
    refine lv_icmp_ge (tgt := 33) hx hb dX5_validPermits_9 (by decide) (fun c_1 => ?_) (fun c_1 => ?_)
    · have c_1 := (br_le hP rfl (by omega) (by omega)).mp c_1
      refine lv_iload_n hx hb dX5_validPermits_33 rfl (lv_at hl 1 rfl) ?_
      exact me_iret hC hr hlk hM (by rw [hq, show r = 0 by omega]; rfl) (rfl) (rfl) dX5_validPermits_34
    · have c_1 := (not_congr (br_le hP rfl (by omega) (by omega))).mp c_1
      obtain ⟨r1, rfl⟩ : ∃ r1, r = r1 + 1 := ⟨r - 1, by omega⟩
      refine lv_aload_n hx hb dX5_validPermits_12 rfl (lv_at hl 0 rfl) ?_
      refine fg_X5_31 hC hM (sp_st _ _ _ _) rfl dX5_validPermits_13 ?_
      refine lv_iload_n hx hb dX5_validPermits_16 rfl (lv_at hl 2 rfl) ?_
      refine me_aald (k := k) hC hM (sp_a4 _ _ _ _) (t0 := 9) rfl rfl (by omega) (by decide) (sp_arr_at (by omega)) dX5_validPermits_17 ?_
      refine fg_X5_104 hC hM (sp_permit _ _ _ _ (by omega)) rfl dX5_validPermits_18 ?_
      refine lv_if_ne (tgt := 27) hx hb dX5_validPermits_21 (by decide) (fun c_2 => ?_) (fun c_2 => ?_)
      · refine lv_iinc (v := nI (k + 1)) (lv' := [(2, .int (nI (k + 1))), (0, .ref a), (1, .int (nI ct))]) hx hb dX5_validPermits_27 hl (k := 2) rfl (nx_add rfl rfl) (by decide) rfl (fun ls hl => ?_)
        refine lv_goto (tgt := 4) hx hb dX5_validPermits_30 (by decide) ?_
        exact ih_4 r1 (by omega) (k + 1) ct _ _ _ (by omega) (by rw [hq, co_f (c_2)]) hM (lv_sub hl [1, 2, 0] rfl)
      · refine lv_iinc (v := nI (ct + 1)) (lv' := [(1, .int (nI (ct + 1))), (0, .ref a), (2, .int (nI k))]) hx hb dX5_validPermits_24 hl (k := 1) rfl (nx_add rfl rfl) (by decide) rfl (fun ls hl => ?_)
        refine lv_iinc (v := nI (k + 1)) (lv' := [(2, .int (nI (k + 1))), (1, .int (nI (ct + 1))), (0, .ref a)]) hx hb dX5_validPermits_27 hl (k := 2) rfl (nx_add rfl rfl) (by decide) rfl (fun ls hl => ?_)
        refine lv_goto (tgt := 4) hx hb dX5_validPermits_30 (by decide) ?_
        exact ih_4 r1 (by omega) (k + 1) (ct + 1) _ _ _ (by omega) (by rw [hq, co_t (c_2)]; omega) hM (lv_sub hl [2, 1, 0] rfl)
  exact lp_4 P 0 0 _ _ _ (by omega) ((Nat.zero_add _).symm) hM (lv_sub hl [2, 1, 0] rfl)
