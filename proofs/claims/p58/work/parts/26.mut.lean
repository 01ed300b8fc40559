set_option maxHeartbeats 4000000 in
theorem c_X5_beginLoans (l : Launch) (D : va_G) (tb : Nat → ClassId) (X : State → Prop) (z0 n : Nat) (a : Nat) (g : Nat → Int32) (M0 : me_M) (S B L P : Nat)  (hW : wf g S B L P) : Met l yX5_beginLoans (.code yX5_beginLoans cX5_beginLoans 2 none :: ws_all) ({ frames := 0, cells := 0, slots := 0, locals := 0 } : Room) (me_Pc [.ref a] D tb X z0 (sp tb a g M0) n) (me_Qv D z0 (sp tb a (it bgS L 0 g) M0) n) 0 0 (me_A z0) := by
  refine me_open (by decide) (Nat.le_of_ble_eq_true rfl) ?_
  intro p e s m args below meth c ls hC hr hlk hnm hM hl
  have hl : lv_has ls 2 [(0, .ref a)] := hl
  have hx := hC.1
  have hb := hC.2.1
  have hw := hC.2.2.2.2.1
  obtain ⟨hS, hS0, hB, hB0, hL, hL0, hP, hP0, hwb, hwl⟩ := id hW
  refine lv_iconst (v := 0) hx hb dX5_beginLoans_0 (by decide) ?_
  refine lv_istore_n (lv' := [(1, .int 0), (0, .ref a)]) hx hb dX5_beginLoans_1 rfl hl (by decide) rfl (fun ls hl => ?_)
  have lp_2 : ∀ (r : Nat) (k : Nat) (g1 : Nat → Int32) (H : Heap) (locs : List Loc) (ls : Array Slot), (k + r = L) → (it bgS L 0 g = it bgS r k g1) → (wf g1 S B L P) → me_at D z0 (sp tb a g1 M0) n s H locs → lv_has ls 2 [(0, .ref a), (1, .int (nI k))] → W p l e (({ frames := 0, cells := 0, slots := 0, locals := 0 } : Room)) s m args below meth c H locs 0 0 (MQ below (me_Qv D z0 (sp tb a (it bgS L 0 g) M0) n) args s 0 0 (me_A z0)) (F0 m 2 ls []) := by
    intro r
    refine Nat.strongRecOn r ?_
    intro r ih_2 k g1 H locs ls hk hq hW1 hM hl
    obtain ⟨hS, hS0, hB, hB0, hL, hL0, hP, hP0, hwb, hwl⟩ := id hW1
    refine lv_iload_n hx hb dX5_beginLoans_2 rfl (lv_at hl 1 rfl) ?_
    refine lv_aload_n hx hb dX5_beginLoans_3 rfl (lv_at hl 0 rfl) ?_
    refine fg_X5_61 hC hM (sp_st _ _ _ _) rfl dX5_beginLoans_4 ?_
    refine lv_icmp_ge (tgt := 54) hx hb dX5_beginLoans_7 (by decide) (fun c_1 => ?_) (fun c_1 => ?_)
    · have c_1 := (br_le hL rfl (by omega) (by omega)).mp c_1
      exact me_vret hC hr hlk hM (by rw [hq, show r = 0 by omega]; rfl) (rfl) dX5_beginLoans_54
    · have c_1 := (not_congr (br_le hL rfl (by omega) (by omega))).mp c_1
      obtain ⟨r1, rfl⟩ : ∃ r1, r = r1 + 1 := ⟨r - 1, by omega⟩
      refine lv_aload_n hx hb dX5_beginLoans_10 rfl (lv_at hl 0 rfl) ?_
      refine fg_X5_25 hC hM (sp_st _ _ _ _) rfl dX5_beginLoans_11 ?_
      refine lv_iload_n hx hb dX5_beginLoans_14 rfl (lv_at hl 1 rfl) ?_
      refine me_aald (k := k) hC hM (sp_a3 _ _ _ _) (t0 := 8) rfl rfl (by omega) (by decide) (sp_arr_at (by omega)) dX5_beginLoans_15 ?_
      refine fg_X5_90 hC hM (sp_loan _ _ _ _ (by omega)) rfl dX5_beginLoans_16 ?_
      refine lv_if_ne (tgt := 48) hx hb dX5_beginLoans_19 (by decide) (fun c_2 => ?_) (fun c_2 => ?_)
      · refine lv_iinc (v := nI (k + 1)) (lv' := [(1, .int (nI (k + 1))), (0, .ref a)]) hx hb dX5_beginLoans_48 hl (k := 1) rfl (nx_add rfl rfl) (by decide) rfl (fun ls hl => ?_)
        refine lv_goto (tgt := 2) hx hb dX5_beginLoans_51 (by decide) ?_
        exact ih_2 r1 (by omega) (k + 1) (bgS k g1) _ _ _ (by omega) hq (wf_bg hW1 (by omega)) (hM.eq (by rw [show bgS k g1 = _ from if_neg (fun z => c_2 z.1)])) (lv_sub hl [1, 0] rfl)
      · refine lv_aload_n hx hb dX5_beginLoans_22 rfl (lv_at hl 0 rfl) ?_
        refine fg_X5_25 hC hM (sp_st _ _ _ _) rfl dX5_beginLoans_23 ?_
        refine lv_iload_n hx hb dX5_beginLoans_26 rfl (lv_at hl 1 rfl) ?_
        refine me_aald (k := k) hC hM (sp_a3 _ _ _ _) (t0 := 8) rfl rfl (by omega) (by decide) (sp_arr_at (by omega)) dX5_beginLoans_27 ?_
        refine fg_X5_183 hC hM (sp_loan _ _ _ _ (by omega)) rfl dX5_beginLoans_28 ?_
        refine lv_aload_n hx hb dX5_beginLoans_31 rfl (lv_at hl 0 rfl) ?_
        refine fg_X5_39 hC hM (sp_st _ _ _ _) rfl dX5_beginLoans_32 ?_
        refine lv_icmp_ne (tgt := 48) hx hb dX5_beginLoans_35 (by decide) (fun c_3 => ?_) (fun c_3 => ?_)
        · refine lv_iinc (v := nI (k + 1)) (lv' := [(1, .int (nI (k + 1))), (0, .ref a)]) hx hb dX5_beginLoans_48 hl (k := 1) rfl (nx_add rfl rfl) (by decide) rfl (fun ls hl => ?_)
          refine lv_goto (tgt := 2) hx hb dX5_beginLoans_51 (by decide) ?_
          exact ih_2 r1 (by omega) (k + 1) (bgS k g1) _ _ _ (by omega) hq (wf_bg hW1 (by omega)) (hM.eq (by rw [show bgS k g1 = _ from if_neg (fun z => c_3 z.2)])) (lv_sub hl [1, 0] rfl)
        · refine lv_aload_n hx hb dX5_beginLoans_38 rfl (lv_at hl 0 rfl) ?_
          refine fg_X5_25 hC hM (sp_st _ _ _ _) rfl dX5_beginLoans_39 ?_
          refine lv_iload_n hx hb dX5_beginLoans_42 rfl (lv_at hl 1 rfl) ?_
          refine me_aald (k := k) hC hM (sp_a3 _ _ _ _) (t0 := 8) rfl rfl (by omega) (by decide) (sp_arr_at (by omega)) dX5_beginLoans_43 ?_
          refine lv_iconst (v := 1) hx hb dX5_beginLoans_44 (by decide) ?_
          refine fp_X5_90 hC hM (sp_loan _ _ _ _ (by omega)) (Nat.le_of_ble_eq_true rfl) (M2 := sp tb a (upd g1 (261 + 5 * k + 4) 1) M0) (sp_w_loan (k := k) 4 (by omega) (by decide) (by simp [upd])) dX5_beginLoans_45 (fun H locs hM => ?_)
          refine lv_iinc (v := nI (k + 1)) (lv' := [(1, .int (nI (k + 1))), (0, .ref a)]) hx hb dX5_beginLoans_48 hl (k := 1) rfl (nx_add rfl rfl) (by decide) rfl (fun ls hl => ?_)
          refine lv_goto (tgt := 2) hx hb dX5_beginLoans_51 (by decide) ?_
          exact ih_2 r1 (by omega) (k + 1) (bgS k g1) _ _ _ (by omega) hq (wf_bg hW1 (by omega)) (hM.eq (by rw [show bgS k g1 = _ from if_pos ⟨c_2, c_3⟩])) (lv_sub hl [1, 0] rfl)
  exact lp_2 L 0 g _ _ _ (by omega) rfl hW hM (lv_sub hl [1, 0] rfl)
set_option maxHeartbeats 4000000 in
theorem c_X5_endLoans (l : Launch) (D : va_G) (tb : Nat → ClassId) (X : State → Prop) (z0 n : Nat) (a : Nat) (g : Nat → Int32) (M0 : me_M) (S B L P : Nat)  (hW : wf g S B L P) : Met l yX5_endLoans (.code yX5_endLoans cX5_endLoans 2 none :: ws_all) ({ frames := 1, cells := 0, slots := 0, locals := 20 } : Room) (me_Pc [.ref a] D tb X z0 (sp tb a g M0) n) (me_Qv D z0 (sp tb a (it enS L 0 g) M0) n) 0 0 (me_A z0) := by
  refine me_open (by decide) (Nat.le_of_ble_eq_true rfl) ?_
  intro p e s m args below meth c ls hC hr hlk hnm hM hl
  have hl : lv_has ls 2 [(0, .ref a)] := hl
  have hx := hC.1
  have hb := hC.2.1
  have hw := hC.2.2.2.2.1
  obtain ⟨hS, hS0, hB, hB0, hL, hL0, hP, hP0, hwb, hwl⟩ := id hW
  refine lv_iconst (v := 0) hx hb dX5_endLoans_0 (by decide) ?_
  refine lv_istore_n (lv' := [(1, .int 0), (0, .ref a)]) hx hb dX5_endLoans_1 rfl hl (by decide) rfl (fun ls hl => ?_)
  have lp_2 : ∀ (r : Nat) (k : Nat) (g1 : Nat → Int32) (H : Heap) (locs : List Loc) (ls : Array Slot), (k + r = L) → (it enS L 0 g = it enS r k g1) → (wf g1 S B L P) → me_at D z0 (sp tb a g1 M0) n s H locs → lv_has ls 2 [(0, .ref a), (1, .int (nI k))] → W p l e (({ frames := 1, cells := 0, slots := 0, locals := 20 } : Room)) s m args below meth c H locs 0 0 (MQ below (me_Qv D z0 (sp tb a (it enS L 0 g) M0) n) args s 0 0 (me_A z0)) (F0 m 2 ls []) := by
    intro r
    refine Nat.strongRecOn r ?_
    intro r ih_2 k g1 H locs ls hk hq hW1 hM hl
    obtain ⟨hS, hS0, hB, hB0, hL, hL0, hP, hP0, hwb, hwl⟩ := id hW1
    refine lv_iload_n hx hb dX5_endLoans_2 rfl (lv_at hl 1 rfl) ?_
    refine lv_aload_n hx hb dX5_endLoans_3 rfl (lv_at hl 0 rfl) ?_
    refine fg_X5_61 hC hM (sp_st _ _ _ _) rfl dX5_endLoans_4 ?_
    refine lv_icmp_ge (tgt := 55) hx hb dX5_endLoans_7 (by decide) (fun c_1 => ?_) (fun c_1 => ?_)
    · have c_1 := (br_le hL rfl (by omega) (by omega)).mp c_1
      exact me_vret hC hr hlk hM (by rw [hq, show r = 0 by omega]; rfl) (rfl) dX5_endLoans_55
    · have c_1 := (not_congr (br_le hL rfl (by omega) (by omega))).mp c_1
      obtain ⟨r1, rfl⟩ : ∃ r1, r = r1 + 1 := ⟨r - 1, by omega⟩
      refine lv_aload_n hx hb dX5_endLoans_10 rfl (lv_at hl 0 rfl) ?_
      refine fg_X5_25 hC hM (sp_st _ _ _ _) rfl dX5_endLoans_11 ?_
      refine lv_iload_n hx hb dX5_endLoans_14 rfl (lv_at hl 1 rfl) ?_
      refine me_aald (k := k) hC hM (sp_a3 _ _ _ _) (t0 := 8) rfl rfl (by omega) (by decide) (sp_arr_at (by omega)) dX5_endLoans_15 ?_
      refine fg_X5_90 hC hM (sp_loan _ _ _ _ (by omega)) rfl dX5_endLoans_16 ?_
      refine lv_iconst (v := 1) hx hb dX5_endLoans_19 (by decide) ?_
      refine lv_icmp_ne (tgt := 49) hx hb dX5_endLoans_20 (by decide) (fun c_2 => ?_) (fun c_2 => ?_)
      · refine lv_iinc (v := nI (k + 1)) (lv' := [(1, .int (nI (k + 1))), (0, .ref a)]) hx hb dX5_endLoans_49 hl (k := 1) rfl (nx_add rfl rfl) (by decide) rfl (fun ls hl => ?_)
        refine lv_goto (tgt := 2) hx hb dX5_endLoans_52 (by decide) ?_
        exact ih_2 r1 (by omega) (k + 1) (enS k g1) _ _ _ (by omega) hq (wf_en hW1 (by omega)) (hM.eq (by rw [show enS k g1 = _ from if_neg (fun z => c_2 z.1)])) (lv_sub hl [1, 0] rfl)
      · refine lv_aload_n hx hb dX5_endLoans_23 rfl (lv_at hl 0 rfl) ?_
        refine fg_X5_25 hC hM (sp_st _ _ _ _) rfl dX5_endLoans_24 ?_
        refine lv_iload_n hx hb dX5_endLoans_27 rfl (lv_at hl 1 rfl) ?_
        refine me_aald (k := k) hC hM (sp_a3 _ _ _ _) (t0 := 8) rfl rfl (by omega) (by decide) (sp_arr_at (by omega)) dX5_endLoans_28 ?_
        refine me_callVi (As := []) (rest := []) hC hl.1 hM (c_X2_end l D tb X z0 n _ _ _ _ _ _ _  (sp_loan _ _ _ _ (by omega))) (kv_X5_208 hw rfl rfl ⟨Nat.le_of_ble_eq_true rfl, Nat.le_of_ble_eq_true rfl⟩) rfl rfl (sp_loan _ _ _ _ (by omega)) rfl (Nat.le_of_ble_eq_true rfl) dX5_endLoans_29 ⟨Nat.le_of_ble_eq_true rfl, Nat.le_of_ble_eq_true rfl⟩ (fun H locs hM => ?_)
        refine lv_aload_n hx hb dX5_endLoans_32 rfl (lv_at hl 0 rfl) ?_
        refine fg_X5_39 hC hM (sp_st _ _ _ _) rfl dX5_endLoans_33 ?_
        refine lv_icmp_ne (tgt := 49) hx hb dX5_endLoans_36 (by decide) (fun c_3 => ?_) (fun c_3 => ?_)
        · refine lv_iinc (v := nI (k + 1)) (lv' := [(1, .int (nI (k + 1))), (0, .ref a)]) hx hb dX5_endLoans_49 hl (k := 1) rfl (nx_add rfl rfl) (by decide) rfl (fun ls hl => ?_)
          refine lv_goto (tgt := 2) hx hb dX5_endLoans_52 (by decide) ?_
          exact ih_2 r1 (by omega) (k + 1) (enS k g1) _ _ _ (by omega) hq (wf_en hW1 (by omega)) (hM.eq (by rw [show enS k g1 = _ from if_neg (fun z => c_3 z.2)])) (lv_sub hl [1, 0] rfl)
        · refine lv_aload_n hx hb dX5_endLoans_39 rfl (lv_at hl 0 rfl) ?_
          refine fg_X5_25 hC hM (sp_st _ _ _ _) rfl dX5_endLoans_40 ?_
          refine lv_iload_n hx hb dX5_endLoans_43 rfl (lv_at hl 1 rfl) ?_
          refine me_aald (k := k) hC hM (sp_a3 _ _ _ _) (t0 := 8) rfl rfl (by omega) (by decide) (sp_arr_at (by omega)) dX5_endLoans_44 ?_
          refine lv_iconst (v := 2) hx hb dX5_endLoans_45 (by decide) ?_
          refine fp_X5_90 hC hM (sp_loan _ _ _ _ (by omega)) (Nat.le_of_ble_eq_true rfl) (M2 := sp tb a (upd g1 (261 + 5 * k + 4) 2) M0) (sp_w_loan (k := k) 4 (by omega) (by decide) (by simp [upd])) dX5_endLoans_46 (fun H locs hM => ?_)
          refine lv_iinc (v := nI (k + 1)) (lv' := [(1, .int (nI (k + 1))), (0, .ref a)]) hx hb dX5_endLoans_49 hl (k := 1) rfl (nx_add rfl rfl) (by decide) rfl (fun ls hl => ?_)
          refine lv_goto (tgt := 2) hx hb dX5_endLoans_52 (by decide) ?_
          exact ih_2 r1 (by omega) (k + 1) (enS k g1) _ _ _ (by omega) hq (wf_en hW1 (by omega)) (hM.eq (by rw [show enS k g1 = _ from if_pos ⟨c_2, c_3⟩])) (lv_sub hl [1, 0] rfl)
  exact lp_2 L 0 g _ _ _ (by omega) rfl hW hM (lv_sub hl [1, 0] rfl)
set_option maxHeartbeats 4000000 in
theorem c_X5_chargeLateLoans (l : Launch) (D : va_G) (tb : Nat → ClassId) (X : State → Prop) (z0 n : Nat) (a : Nat) (g : Nat → Int32) (M0 : me_M) (S B L P : Nat)  (hW : wf g S B L P) : Met l yX5_chargeLateLoans (.code yX5_chargeLateLoans cX5_chargeLateLoans 3 (some .int) :: ws_all) ({ frames := 1, cells := 0, slots := 0, locals := 20 } : Room) (me_Pc [.ref a] D tb X z0 (sp tb a g M0) n) (me_Qi D z0 (nI (chN L 0 g)) (sp tb a (it chS L 0 g) M0) n) 0 0 (me_A z0) := by
  refine me_open (by decide) (Nat.le_of_ble_eq_true rfl) ?_
  intro p e s m args below meth c ls hC hr hlk hnm hM hl
  have hl : lv_has ls 3 [(0, .ref a)] := hl
  have hx := hC.1
  have hb := hC.2.1
  have hw := hC.2.2.2.2.1
  obtain ⟨hS, hS0, hB, hB0, hL, hL0, hP, hP0, hwb, hwl⟩ := id hW
  refine lv_iconst (v := 0) hx hb dX5_chargeLateLoans_0 (by decide) ?_
  refine lv_istore_n (lv' := [(1, .int 0), (0, .ref a)]) hx hb dX5_chargeLateLoans_1 rfl hl (by decide) rfl (fun ls hl => ?_)
  refine lv_iconst (v := 0) hx hb dX5_chargeLateLoans_2 (by decide) ?_
  refine lv_istore_n (lv' := [(2, .int 0), (1, .int 0), (0, .ref a)]) hx hb dX5_chargeLateLoans_3 rfl hl (by decide) rfl (fun ls hl => ?_)
  have lp_4 : ∀ (r : Nat) (k : Nat) (g1 : Nat → Int32) (ct : Nat) (H : Heap) (locs : List Loc) (ls : Array Slot), (k + r = L) → (it chS L 0 g = it chS r k g1) → (wf g1 S B L P) → (chN L 0 g = ct + chN r k g1) → me_at D z0 (sp tb a g1 M0) n s H locs → lv_has ls 3 [(0, .ref a), (1, .int (nI ct)), (2, .int (nI k))] → W p l e (({ frames := 1, cells := 0, slots := 0, locals := 20 } : Room)) s m args below meth c H locs 0 0 (MQ below (me_Qi D z0 (nI (chN L 0 g)) (sp tb a (it chS L 0 g) M0) n) args s 0 0 (me_A z0)) (F0 m 4 ls []) := by
    intro r
    refine Nat.strongRecOn r ?_
    intro r ih_4 k g1 ct H locs ls hk hq hW1 hc hM hl
    obtain ⟨hS, hS0, hB, hB0, hL, hL0, hP, hP0, hwb, hwl⟩ := id hW1
    refine lv_iload_n hx hb dX5_chargeLateLoans_4 rfl (lv_at hl 2 rfl) ?_
    refine lv_aload_n hx hb dX5_chargeLateLoans_5 rfl (lv_at hl 0 rfl) ?_
    refine fg_X5_61 hC hM (sp_st _ _ _ _) rfl dX5_chargeLateLoans_6 ?_
    refine lv_icmp_ge (tgt := 104) hx hb dX5_chargeLateLoans_9 (by decide) (fun c_1 => ?_) (fun c_1 => ?_)
    · have c_1 := (br_le hL rfl (by omega) (by omega)).mp c_1
      refine lv_iload_n hx hb dX5_chargeLateLoans_104 rfl (lv_at hl 1 rfl) ?_
      exact me_iret hC hr hlk hM (by rw [hc, show r = 0 by omega]; rfl) (by rw [hq, show r = 0 by omega]; rfl) (rfl) dX5_chargeLateLoans_105
    · have c_1 := (not_congr (br_le hL rfl (by omega) (by omega))).mp c_1
      obtain ⟨r1, rfl⟩ : ∃ r1, r = r1 + 1 := ⟨r - 1, by omega⟩
      have hkl_ := hwl k (by omega)
      refine lv_aload_n hx hb dX5_chargeLateLoans_12 rfl (lv_at hl 0 rfl) ?_
      refine fg_X5_25 hC hM (sp_st _ _ _ _) rfl dX5_chargeLateLoans_13 ?_
      refine lv_iload_n hx hb dX5_chargeLateLoans_16 rfl (lv_at hl 2 rfl) ?_
      refine me_aald (k := k) hC hM (sp_a3 _ _ _ _) (t0 := 8) rfl rfl (by omega) (by decide) (sp_arr_at (by omega)) dX5_chargeLateLoans_17 ?_
      refine fg_X5_90 hC hM (sp_loan _ _ _ _ (by omega)) rfl dX5_chargeLateLoans_18 ?_
      refine lv_iconst (v := 2) hx hb dX5_chargeLateLoans_21 (by decide) ?_
      refine lv_icmp_ne (tgt := 98) hx hb dX5_chargeLateLoans_22 (by decide) (fun c_2 => ?_) (fun c_2 => ?_)
      · refine lv_iinc (v := nI (k + 1)) (lv' := [(2, .int (nI (k + 1))), (0, .ref a), (1, .int (nI ct))]) hx hb dX5_chargeLateLoans_98 hl (k := 2) rfl (nx_add rfl rfl) (by decide) rfl (fun ls hl => ?_)
        refine lv_goto (tgt := 4) hx hb dX5_chargeLateLoans_101 (by decide) ?_
        exact ih_4 r1 (by omega) (k + 1) (chS k g1) ct _ _ _ (by omega) hq (wf_ch hW1 (by omega)) (by rw [hc]; show ct + ((if laP g1 k then 1 else 0) + chN r1 (k + 1) (chS k g1)) = _; rw [if_neg (fun z => c_2 z.1)]; omega) (hM.eq (by rw [show chS k g1 = _ from if_neg (fun z => c_2 z.1)])) (lv_sub hl [1, 2, 0] rfl)
      · refine lv_aload_n hx hb dX5_chargeLateLoans_25 rfl (lv_at hl 0 rfl) ?_
        refine fg_X5_25 hC hM (sp_st _ _ _ _) rfl dX5_chargeLateLoans_26 ?_
        refine lv_iload_n hx hb dX5_chargeLateLoans_29 rfl (lv_at hl 2 rfl) ?_
        refine me_aald (k := k) hC hM (sp_a3 _ _ _ _) (t0 := 8) rfl rfl (by omega) (by decide) (sp_arr_at (by omega)) dX5_chargeLateLoans_30 ?_
        refine me_callVi (As := []) (rest := []) hC hl.1 hM (c_X2_end l D tb X z0 n _ _ _ _ _ _ _  (sp_loan _ _ _ _ (by omega))) (kv_X5_208 hw rfl rfl ⟨Nat.le_of_ble_eq_true rfl, Nat.le_of_ble_eq_true rfl⟩) rfl rfl (sp_loan _ _ _ _ (by omega)) rfl (Nat.le_of_ble_eq_true rfl) dX5_chargeLateLoans_31 ⟨Nat.le_of_ble_eq_true rfl, Nat.le_of_ble_eq_true rfl⟩ (fun H locs hM => ?_)
        refine lv_aload_n hx hb dX5_chargeLateLoans_34 rfl (lv_at hl 0 rfl) ?_
        refine fg_X5_43 hC hM (sp_st _ _ _ _) rfl dX5_chargeLateLoans_35 ?_
        refine lv_iadd hx hb dX5_chargeLateLoans_38 ?_
        refine lv_aload_n hx hb dX5_chargeLateLoans_39 rfl (lv_at hl 0 rfl) ?_
        refine fg_X5_39 hC hM (sp_st _ _ _ _) rfl dX5_chargeLateLoans_40 ?_
        refine lv_icmp_ne (tgt := 98) hx hb dX5_chargeLateLoans_43 (by decide) (fun c_3 => ?_) (fun c_3 => ?_)
        · refine lv_iinc (v := nI (k + 1)) (lv' := [(2, .int (nI (k + 1))), (0, .ref a), (1, .int (nI ct))]) hx hb dX5_chargeLateLoans_98 hl (k := 2) rfl (nx_add rfl rfl) (by decide) rfl (fun ls hl => ?_)
          refine lv_goto (tgt := 4) hx hb dX5_chargeLateLoans_101 (by decide) ?_
          exact ih_4 r1 (by omega) (k + 1) (chS k g1) ct _ _ _ (by omega) hq (wf_ch hW1 (by omega)) (by rw [hc]; show ct + ((if laP g1 k then 1 else 0) + chN r1 (k + 1) (chS k g1)) = _; rw [if_neg (fun z => c_3 z.2)]; omega) (hM.eq (by rw [show chS k g1 = _ from if_neg (fun z => c_3 z.2)])) (lv_sub hl [1, 2, 0] rfl)
        · refine lv_aload_n hx hb dX5_chargeLateLoans_46 rfl (lv_at hl 0 rfl) ?_
          refine fg_X5_25 hC hM (sp_st _ _ _ _) rfl dX5_chargeLateLoans_47 ?_
          refine lv_iload_n hx hb dX5_chargeLateLoans_50 rfl (lv_at hl 2 rfl) ?_
          refine me_aald (k := k) hC hM (sp_a3 _ _ _ _) (t0 := 8) rfl rfl (by omega) (by decide) (sp_arr_at (by omega)) dX5_chargeLateLoans_51 ?_
          refine lv_iconst (v := 4) hx hb dX5_chargeLateLoans_52 (by decide) ?_
          refine fp_X5_90 hC hM (sp_loan _ _ _ _ (by omega)) (Nat.le_of_ble_eq_true rfl) (M2 := sp tb a (upd g1 (261 + 5 * k + 4) 4) M0) (sp_w_loan (k := k) 4 (by omega) (by decide) (by simp [upd])) dX5_chargeLateLoans_53 (fun H locs hM => ?_)
          refine lv_aload_n hx hb dX5_chargeLateLoans_56 rfl (lv_at hl 0 rfl) ?_
          refine fg_X5_19 hC hM (sp_st _ _ _ _) rfl dX5_chargeLateLoans_57 ?_
          refine lv_aload_n hx hb dX5_chargeLateLoans_60 rfl (lv_at hl 0 rfl) ?_
          refine fg_X5_25 hC hM (sp_st _ _ _ _) rfl dX5_chargeLateLoans_61 ?_
          refine lv_iload_n hx hb dX5_chargeLateLoans_64 rfl (lv_at hl 2 rfl) ?_
          refine me_aald (k := k) hC hM (sp_a3 _ _ _ _) (t0 := 8) rfl rfl (by omega) (by decide) (sp_arr_at (by omega)) dX5_chargeLateLoans_65 ?_
          refine fg_X5_84 hC hM (sp_loan _ _ _ _ (by omega)) rfl dX5_chargeLateLoans_66 ?_
          refine me_evi (y := g1 (261 + 5 * k)) (upd_n (by omega)) ?_
          refine me_aald (k := ow g1 k) hC hM (sp_a2 _ _ _ _) (t0 := 7) rfl (hwl k (by omega)).1 (by omega) (by decide) (sp_arr_at (by omega)) dX5_chargeLateLoans_69 ?_
          refine lv_dup hx hb dX5_chargeLateLoans_70 rfl ?_
          refine fg_X5_141 hC hM (sp_borrower _ _ _ _ (by omega)) rfl dX5_chargeLateLoans_71 ?_
          refine me_evi (y := g1 (89 + 11 * (ow g1 k) + 2)) (upd_n (by omega)) ?_
          refine lv_aload_n hx hb dX5_chargeLateLoans_74 rfl (lv_at hl 0 rfl) ?_
          refine fg_X5_46 hC hM (sp_st _ _ _ _) rfl dX5_chargeLateLoans_75 ?_
          refine me_evi (y := g1 1) (upd_n (by omega)) ?_
          refine lv_isub hx hb dX5_chargeLateLoans_78 ?_
          refine fp_X5_141 hC hM (sp_borrower _ _ _ _ (by omega)) (Nat.le_of_ble_eq_true rfl) (M2 := sp tb a (upd (upd g1 (261 + 5 * k + 4) 4) (89 + 11 * (ow g1 k) + 2) ((g1 (89 + 11 * (ow g1 k) + 2)) - (g1 1))) M0) (sp_w_borrower (k := ow g1 k) 2 (by omega) (by decide) (by simp [upd])) dX5_chargeLateLoans_79 (fun H locs hM => ?_)
          refine lv_aload_n hx hb dX5_chargeLateLoans_82 rfl (lv_at hl 0 rfl) ?_
          refine lv_dup hx hb dX5_chargeLateLoans_83 rfl ?_
          refine fg_X5_52 hC hM (sp_st _ _ _ _) rfl dX5_chargeLateLoans_84 ?_
          refine me_evi (y := g1 8) ((upd_n (by omega)).trans (upd_n (by omega))) ?_
          refine lv_aload_n hx hb dX5_chargeLateLoans_87 rfl (lv_at hl 0 rfl) ?_
          refine fg_X5_46 hC hM (sp_st _ _ _ _) rfl dX5_chargeLateLoans_88 ?_
          refine me_evi (y := g1 1) ((upd_n (by omega)).trans (upd_n (by omega))) ?_
          refine lv_iadd hx hb dX5_chargeLateLoans_91 ?_
          refine fp_X5_52 hC hM (sp_st _ _ _ _) (Nat.le_of_ble_eq_true rfl) (M2 := sp tb a (upd (upd (upd g1 (261 + 5 * k + 4) 4) (89 + 11 * (ow g1 k) + 2) ((g1 (89 + 11 * (ow g1 k) + 2)) - (g1 1))) (8) ((g1 8) + (g1 1))) M0) (sp_w_st 8 (by decide) (by simp [upd])) dX5_chargeLateLoans_92 (fun H locs hM => ?_)
          refine lv_iinc (v := nI (ct + 1)) (lv' := [(1, .int (nI (ct + 1))), (0, .ref a), (2, .int (nI k))]) hx hb dX5_chargeLateLoans_95 hl (k := 1) rfl (nx_add rfl rfl) (by decide) rfl (fun ls hl => ?_)
          refine lv_iinc (v := nI (k + 1)) (lv' := [(2, .int (nI (k + 1))), (1, .int (nI (ct + 1))), (0, .ref a)]) hx hb dX5_chargeLateLoans_98 hl (k := 2) rfl (nx_add rfl rfl) (by decide) rfl (fun ls hl => ?_)
          refine lv_goto (tgt := 4) hx hb dX5_chargeLateLoans_101 (by decide) ?_
          exact ih_4 r1 (by omega) (k + 1) (chS k g1) (ct + 1) _ _ _ (by omega) hq (wf_ch hW1 (by omega)) (by rw [hc]; show ct + ((if laP g1 k then 1 else 0) + chN r1 (k + 1) (chS k g1)) = _; rw [if_pos (⟨c_2, c_3⟩)]; omega) (hM.eq (by rw [show chS k g1 = _ from if_pos (⟨c_2, c_3⟩)])) (lv_sub hl [2, 1, 0] rfl)
  exact lp_4 L 0 g 0 _ _ _ (by omega) rfl hW ((Nat.zero_add _).symm) hM (lv_sub hl [2, 1, 0] rfl)
set_option maxHeartbeats 4000000 in
theorem c_X5_cancelLoan (l : Launch) (D : va_G) (tb : Nat → ClassId) (X : State → Prop) (z0 n : Nat) (a : Nat) (g : Nat → Int32) (M0 : me_M) (S B L P : Nat) (k : Nat)  (hW : wf g S B L P) (hk : k < L) : Met l yX5_cancelLoan (.code yX5_cancelLoan cX5_cancelLoan 2 none :: ws_all) ({ frames := 0, cells := 0, slots := 0, locals := 0 } : Room) (me_Pc [.ref a, .int (nI k)] D tb X z0 (sp tb a g M0) n) (me_Qv D z0 (sp tb a (caS k g) M0) n) 0 0 (me_A z0) := by
  refine me_open (by decide) (Nat.le_of_ble_eq_true rfl) ?_
  intro p e s m args below meth c ls hC hr hlk hnm hM hl
  have hl : lv_has ls 2 [(0, .ref a), (1, .int (nI k))] := hl
  have hx := hC.1
  have hb := hC.2.1
  have hw := hC.2.2.2.2.1
  obtain ⟨hS, hS0, hB, hB0, hL, hL0, hP, hP0, hwb, hwl⟩ := id hW
  have hkl_ := hwl k (by omega)
  refine lv_aload_n hx hb dX5_cancelLoan_0 rfl (lv_at hl 0 rfl) ?_
  refine fg_X5_25 hC hM (sp_st _ _ _ _) rfl dX5_cancelLoan_1 ?_
  refine lv_iload_n hx hb dX5_cancelLoan_4 rfl (lv_at hl 1 rfl) ?_
  refine me_aald (k := k) hC hM (sp_a3 _ _ _ _) (t0 := 8) rfl rfl (by omega) (by decide) (sp_arr_at (by omega)) dX5_cancelLoan_5 ?_
  refine lv_iconst (v := 5) hx hb dX5_cancelLoan_6 (by decide) ?_
  refine fp_X5_90 hC hM (sp_loan _ _ _ _ (by omega)) (Nat.le_of_ble_eq_true rfl) (M2 := sp tb a (upd g (261 + 5 * k + 4) 5) M0) (sp_w_loan (k := k) 4 (by omega) (by decide) (by simp [upd])) dX5_cancelLoan_7 (fun H locs hM => ?_)
  refine lv_aload_n hx hb dX5_cancelLoan_10 rfl (lv_at hl 0 rfl) ?_
  refine fg_X5_19 hC hM (sp_st _ _ _ _) rfl dX5_cancelLoan_11 ?_
  refine lv_aload_n hx hb dX5_cancelLoan_14 rfl (lv_at hl 0 rfl) ?_
  refine fg_X5_25 hC hM (sp_st _ _ _ _) rfl dX5_cancelLoan_15 ?_
  refine lv_iload_n hx hb dX5_cancelLoan_18 rfl (lv_at hl 1 rfl) ?_
  refine me_aald (k := k) hC hM (sp_a3 _ _ _ _) (t0 := 8) rfl rfl (by omega) (by decide) (sp_arr_at (by omega)) dX5_cancelLoan_19 ?_
  refine fg_X5_84 hC hM (sp_loan _ _ _ _ (by omega)) rfl dX5_cancelLoan_20 ?_
  refine me_evi (y := g (261 + 5 * k)) (upd_n (by omega)) ?_
  refine me_aald (k := ow g k) hC hM (sp_a2 _ _ _ _) (t0 := 7) rfl (hwl k (by omega)).1 (by omega) (by decide) (sp_arr_at (by omega)) dX5_cancelLoan_23 ?_
  refine lv_dup hx hb dX5_cancelLoan_24 rfl ?_
  refine fg_X5_141 hC hM (sp_borrower _ _ _ _ (by omega)) rfl dX5_cancelLoan_25 ?_
  refine me_evi (y := g (89 + 11 * (ow g k) + 2)) (upd_n (by omega)) ?_
  refine lv_aload_n hx hb dX5_cancelLoan_28 rfl (lv_at hl 0 rfl) ?_
  refine fg_X5_25 hC hM (sp_st _ _ _ _) rfl dX5_cancelLoan_29 ?_
  refine lv_iload_n hx hb dX5_cancelLoan_32 rfl (lv_at hl 1 rfl) ?_
  refine me_aald (k := k) hC hM (sp_a3 _ _ _ _) (t0 := 8) rfl rfl (by omega) (by decide) (sp_arr_at (by omega)) dX5_cancelLoan_33 ?_
  refine fg_X5_144 hC hM (sp_loan _ _ _ _ (by omega)) rfl dX5_cancelLoan_34 ?_
  refine me_evi (y := g (261 + 5 * k + 3)) (upd_n (by omega)) ?_
  refine lv_iadd hx hb dX5_cancelLoan_37 ?_
  refine fp_X5_141 hC hM (sp_borrower _ _ _ _ (by omega)) (Nat.le_of_ble_eq_true rfl) (M2 := sp tb a (upd (upd g (261 + 5 * k + 4) 5) (89 + 11 * (ow g k) + 2) ((g (89 + 11 * (ow g k) + 2)) + (g (261 + 5 * k + 3)))) M0) (sp_w_borrower (k := ow g k) 2 (by omega) (by decide) (by simp [upd])) dX5_cancelLoan_38 (fun H locs hM => ?_)
  exact me_vret hC hr hlk hM (rfl) (rfl) dX5_cancelLoan_41
set_option maxHeartbeats 4000000 in
theorem c_X0_hear (l : Launch) (D : va_G) (tb : Nat → ClassId) (X : State → Prop) (z0 n : Nat) (M : me_M) (q : Nat) (xn xs xi xc xr xt n9 : Int32) (he : M q = some (.inr (0, [.int xn, .int xs, .int xi, .int xc, .int xr, .int xt]))) : Met l yX0_hear (.code yX0_hear cX0_hear 2 none :: ws_all) ({ frames := 1, cells := 0, slots := 0, locals := 21 } : Room) (me_Pc [.ref q, .int n9] D tb X z0 (M) n) (me_Qv D z0 (me_up M q (.inr (0, [.int xn, .int xs, .int (hrI n9 xi xr xt), .int xc, .int (hrR n9 xr), .int (hrT n9 xt)]))) n) 0 0 (me_A z0) := by
  refine me_open (by decide) (Nat.le_of_ble_eq_true rfl) ?_
  intro p e s m args below meth c ls hC hr hlk hnm hM hl
  have hl : lv_has ls 2 [(0, .ref q), (1, .int n9)] := hl
  have hx := hC.1
  have hb := hC.2.1
  have hw := hC.2.2.2.2.1
  have hM := hM.eq (me_up_id he).symm
  refine lv_iload_n hx hb dX0_hear_0 rfl (lv_at hl 1 rfl) ?_
  refine lv_if_ne (tgt := 42) hx hb dX0_hear_1 (by decide) (fun c_1 => ?_) (fun c_1 => ?_)
  · refine lv_iload_n hx hb dX0_hear_42 rfl (lv_at hl 1 rfl) ?_
    refine lv_bipush (v := 80) hx hb dX0_hear_43 (by decide) ?_
    refine lv_icmp_lt (tgt := 87) hx hb dX0_hear_45 (by decide) (fun c_2 => ?_) (fun c_2 => ?_)
    · have c_2q := Int32.not_le.mpr c_2
      exact me_vret hC hr hlk hM (by simp [hrI, hrJ, hrR, hrT, c_1, c_2, c_2q]) (rfl) dX0_hear_87
    · have c_2q := Int32.not_lt.mp c_2
      refine lv_aload_n hx hb dX0_hear_48 rfl (lv_at hl 0 rfl) ?_
      refine lv_dup hx hb dX0_hear_49 rfl ?_
      refine fg_X0_27 hC hM (me_up_s _ _ _) rfl dX0_hear_50 ?_
      refine lv_iconst (v := 1) hx hb dX0_hear_53 (by decide) ?_
      refine lv_iadd hx hb dX0_hear_54 ?_
      refine fp_X0_27 hC hM (me_up_s _ _ _) (Nat.le_of_ble_eq_true rfl) (M2 := me_up M q (.inr (0, [.int xn, .int xs, .int xi, .int xc, .int xr, .int (xt + 1)]))) (me_up_up _ _ _ _) dX0_hear_55 (fun H locs hM => ?_)
      refine lv_aload_n hx hb dX0_hear_58 rfl (lv_at hl 0 rfl) ?_
      refine fg_X0_27 hC hM (me_up_s _ _ _) rfl dX0_hear_59 ?_
      refine lv_bipush (v := 12) hx hb dX0_hear_62 (by decide) ?_
      refine lv_icmp_ne (tgt := 87) hx hb dX0_hear_64 (by decide) (fun c_3 => ?_) (fun c_3 => ?_)
      · exact me_vret hC hr hlk hM (by simp [hrI, hrJ, hrR, hrT, c_1, c_2, c_3, c_2q]) (rfl) dX0_hear_87
      · refine lv_aload_n hx hb dX0_hear_67 rfl (lv_at hl 0 rfl) ?_
        refine lv_iconst (v := 0) hx hb dX0_hear_68 (by decide) ?_
        refine fp_X0_27 hC hM (me_up_s _ _ _) (Nat.le_of_ble_eq_true rfl) (M2 := me_up M q (.inr (0, [.int xn, .int xs, .int xi, .int xc, .int xr, .int 0]))) (me_up_up _ _ _ _) dX0_hear_69 (fun H locs hM => ?_)
        refine lv_aload_n hx hb dX0_hear_72 rfl (lv_at hl 0 rfl) ?_
        refine lv_aload_n hx hb dX0_hear_73 rfl (lv_at hl 0 rfl) ?_
        refine fg_X0_18 hC hM (me_up_s _ _ _) rfl dX0_hear_74 ?_
        refine lv_iconst (v := 1) hx hb dX0_hear_77 (by decide) ?_
        refine lv_iadd hx hb dX0_hear_78 ?_
        refine lv_bipush (v := 9) hx hb dX0_hear_79 (by decide) ?_
        refine va_mmin hx hb (hC.2.2.1.trans hl.1.symm) hC.2.2.2.1 (hw _ w_515) (hw _ w_404) (hw _ w_13) (hw _ w_405) (Nat.le_of_ble_eq_true rfl) (Nat.le_of_ble_eq_true rfl) (by first | omega | exact Nat.le_of_ble_eq_true rfl) (by first | omega | exact Nat.le_of_ble_eq_true rfl) dX0_hear_81 ?_
        refine fp_X0_18 hC hM (me_up_s _ _ _) (Nat.le_of_ble_eq_true rfl) (M2 := me_up M q (.inr (0, [.int xn, .int xs, .int (if 9 < xi + 1 then 9 else xi + 1), .int xc, .int xr, .int 0]))) (me_up_up _ _ _ _) dX0_hear_84 (fun H locs hM => ?_)
        exact me_vret hC hr hlk hM (by simp [hrI, hrJ, hrR, hrT, c_1, c_2, c_3, c_2q]) (rfl) dX0_hear_87
  · refine lv_aload_n hx hb dX0_hear_4 rfl (lv_at hl 0 rfl) ?_
    refine lv_dup hx hb dX0_hear_5 rfl ?_
    refine fg_X0_24 hC hM (me_up_s _ _ _) rfl dX0_hear_6 ?_
    refine lv_iconst (v := 1) hx hb dX0_hear_9 (by decide) ?_
    refine lv_iadd hx hb dX0_hear_10 ?_
    refine fp_X0_24 hC hM (me_up_s _ _ _) (Nat.le_of_ble_eq_true rfl) (M2 := me_up M q (.inr (0, [.int xn, .int xs, .int xi, .int xc, .int (xr + 1), .int xt]))) (me_up_up _ _ _ _) dX0_hear_11 (fun H locs hM => ?_)
    refine lv_aload_n hx hb dX0_hear_14 rfl (lv_at hl 0 rfl) ?_
    refine fg_X0_24 hC hM (me_up_s _ _ _) rfl dX0_hear_15 ?_
    refine lv_bipush (v := 6) hx hb dX0_hear_18 (by decide) ?_
    refine lv_icmp_ne (tgt := 42) hx hb dX0_hear_20 (by decide) (fun c_4 => ?_) (fun c_4 => ?_)
    · refine lv_iload_n hx hb dX0_hear_42 rfl (lv_at hl 1 rfl) ?_
      refine lv_bipush (v := 80) hx hb dX0_hear_43 (by decide) ?_
      refine lv_icmp_lt (tgt := 87) hx hb dX0_hear_45 (by decide) (fun c_5 => ?_) (fun c_5 => ?_)
      · have c_5q := Int32.not_le.mpr c_5
        exact me_vret hC hr hlk hM (by simp [hrI, hrJ, hrR, hrT, c_1, c_4, c_5, c_5q]) (rfl) dX0_hear_87
      · have c_5q := Int32.not_lt.mp c_5
        refine lv_aload_n hx hb dX0_hear_48 rfl (lv_at hl 0 rfl) ?_
        refine lv_dup hx hb dX0_hear_49 rfl ?_
        refine fg_X0_27 hC hM (me_up_s _ _ _) rfl dX0_hear_50 ?_
        refine lv_iconst (v := 1) hx hb dX0_hear_53 (by decide) ?_
        refine lv_iadd hx hb dX0_hear_54 ?_
        refine fp_X0_27 hC hM (me_up_s _ _ _) (Nat.le_of_ble_eq_true rfl) (M2 := me_up M q (.inr (0, [.int xn, .int xs, .int xi, .int xc, .int (xr + 1), .int (xt + 1)]))) (me_up_up _ _ _ _) dX0_hear_55 (fun H locs hM => ?_)
        refine lv_aload_n hx hb dX0_hear_58 rfl (lv_at hl 0 rfl) ?_
        refine fg_X0_27 hC hM (me_up_s _ _ _) rfl dX0_hear_59 ?_
        refine lv_bipush (v := 12) hx hb dX0_hear_62 (by decide) ?_
        refine lv_icmp_ne (tgt := 87) hx hb dX0_hear_64 (by decide) (fun c_6 => ?_) (fun c_6 => ?_)
        · exact me_vret hC hr hlk hM (by subst c_1; exact absurd (by decide) c_5) (rfl) dX0_hear_87
        · refine lv_aload_n hx hb dX0_hear_67 rfl (lv_at hl 0 rfl) ?_
          refine lv_iconst (v := 0) hx hb dX0_hear_68 (by decide) ?_
          refine fp_X0_27 hC hM (me_up_s _ _ _) (Nat.le_of_ble_eq_true rfl) (M2 := me_up M q (.inr (0, [.int xn, .int xs, .int xi, .int xc, .int (xr + 1), .int 0]))) (me_up_up _ _ _ _) dX0_hear_69 (fun H locs hM => ?_)
          refine lv_aload_n hx hb dX0_hear_72 rfl (lv_at hl 0 rfl) ?_
          refine lv_aload_n hx hb dX0_hear_73 rfl (lv_at hl 0 rfl) ?_
          refine fg_X0_18 hC hM (me_up_s _ _ _) rfl dX0_hear_74 ?_
          refine lv_iconst (v := 1) hx hb dX0_hear_77 (by decide) ?_
          refine lv_iadd hx hb dX0_hear_78 ?_
          refine lv_bipush (v := 9) hx hb dX0_hear_79 (by decide) ?_
          refine va_mmin hx hb (hC.2.2.1.trans hl.1.symm) hC.2.2.2.1 (hw _ w_515) (hw _ w_404) (hw _ w_13) (hw _ w_405) (Nat.le_of_ble_eq_true rfl) (Nat.le_of_ble_eq_true rfl) (by first | omega | exact Nat.le_of_ble_eq_true rfl) (by first | omega | exact Nat.le_of_ble_eq_true rfl) dX0_hear_81 ?_
          refine fp_X0_18 hC hM (me_up_s _ _ _) (Nat.le_of_ble_eq_true rfl) (M2 := me_up M q (.inr (0, [.int xn, .int xs, .int (if 9 < xi + 1 then 9 else xi + 1), .int xc, .int (xr + 1), .int 0]))) (me_up_up _ _ _ _) dX0_hear_84 (fun H locs hM => ?_)
          exact me_vret hC hr hlk hM (by subst c_1; exact absurd (by decide) c_5) (rfl) dX0_hear_87
    · refine lv_aload_n hx hb dX0_hear_23 rfl (lv_at hl 0 rfl) ?_
      refine lv_iconst (v := 0) hx hb dX0_hear_24 (by decide) ?_
      refine fp_X0_24 hC hM (me_up_s _ _ _) (Nat.le_of_ble_eq_true rfl) (M2 := me_up M q (.inr (0, [.int xn, .int xs, .int xi, .int xc, .int 0, .int xt]))) (me_up_up _ _ _ _) dX0_hear_25 (fun H locs hM => ?_)
      refine lv_aload_n hx hb dX0_hear_28 rfl (lv_at hl 0 rfl) ?_
      refine lv_aload_n hx hb dX0_hear_29 rfl (lv_at hl 0 rfl) ?_
      refine fg_X0_18 hC hM (me_up_s _ _ _) rfl dX0_hear_30 ?_
      refine lv_iconst (v := 1) hx hb dX0_hear_33 (by decide) ?_
      refine lv_isub hx hb dX0_hear_34 ?_
      refine lv_iconst (v := 0) hx hb dX0_hear_35 (by decide) ?_
      refine va_mmax hx hb (hC.2.2.1.trans hl.1.symm) hC.2.2.2.1 (hw _ w_512) (hw _ w_513) (hw _ w_13) (hw _ w_514) (Nat.le_of_ble_eq_true rfl) (Nat.le_of_ble_eq_true rfl) (by first | omega | exact Nat.le_of_ble_eq_true rfl) (by first | omega | exact Nat.le_of_ble_eq_true rfl) dX0_hear_36 ?_
      refine fp_X0_18 hC hM (me_up_s _ _ _) (Nat.le_of_ble_eq_true rfl) (M2 := me_up M q (.inr (0, [.int xn, .int xs, .int (if xi - 1 < 0 then 0 else xi - 1), .int xc, .int 0, .int xt]))) (me_up_up _ _ _ _) dX0_hear_39 (fun H locs hM => ?_)
      refine lv_iload_n hx hb dX0_hear_42 rfl (lv_at hl 1 rfl) ?_
      refine lv_bipush (v := 80) hx hb dX0_hear_43 (by decide) ?_
      refine lv_icmp_lt (tgt := 87) hx hb dX0_hear_45 (by decide) (fun c_7 => ?_) (fun c_7 => ?_)
      · have c_7q := Int32.not_le.mpr c_7
        exact me_vret hC hr hlk hM (by simp [hrI, hrJ, hrR, hrT, c_1, c_4, c_7, c_7q]) (rfl) dX0_hear_87
      · have c_7q := Int32.not_lt.mp c_7
        refine lv_aload_n hx hb dX0_hear_48 rfl (lv_at hl 0 rfl) ?_
        refine lv_dup hx hb dX0_hear_49 rfl ?_
        refine fg_X0_27 hC hM (me_up_s _ _ _) rfl dX0_hear_50 ?_
        refine lv_iconst (v := 1) hx hb dX0_hear_53 (by decide) ?_
        refine lv_iadd hx hb dX0_hear_54 ?_
        refine fp_X0_27 hC hM (me_up_s _ _ _) (Nat.le_of_ble_eq_true rfl) (M2 := me_up M q (.inr (0, [.int xn, .int xs, .int (if xi - 1 < 0 then 0 else xi - 1), .int xc, .int 0, .int (xt + 1)]))) (me_up_up _ _ _ _) dX0_hear_55 (fun H locs hM => ?_)
        refine lv_aload_n hx hb dX0_hear_58 rfl (lv_at hl 0 rfl) ?_
        refine fg_X0_27 hC hM (me_up_s _ _ _) rfl dX0_hear_59 ?_
        refine lv_bipush (v := 12) hx hb dX0_hear_62 (by decide) ?_
        refine lv_icmp_ne (tgt := 87) hx hb dX0_hear_64 (by decide) (fun c_8 => ?_) (fun c_8 => ?_)
        · exact me_vret hC hr hlk hM (by subst c_1; exact absurd (by decide) c_7) (rfl) dX0_hear_87
        · refine lv_aload_n hx hb dX0_hear_67 rfl (lv_at hl 0 rfl) ?_
          refine lv_iconst (v := 0) hx hb dX0_hear_68 (by decide) ?_
          refine fp_X0_27 hC hM (me_up_s _ _ _) (Nat.le_of_ble_eq_true rfl) (M2 := me_up M q (.inr (0, [.int xn, .int xs, .int (if xi - 1 < 0 then 0 else xi - 1), .int xc, .int 0, .int 0]))) (me_up_up _ _ _ _) dX0_hear_69 (fun H locs hM => ?_)
          refine lv_aload_n hx hb dX0_hear_72 rfl (lv_at hl 0 rfl) ?_
          refine lv_aload_n hx hb dX0_hear_73 rfl (lv_at hl 0 rfl) ?_
          refine fg_X0_18 hC hM (me_up_s _ _ _) rfl dX0_hear_74 ?_
          refine lv_iconst (v := 1) hx hb dX0_hear_77 (by decide) ?_
          refine lv_iadd hx hb dX0_hear_78 ?_
          refine lv_bipush (v := 9) hx hb dX0_hear_79 (by decide) ?_
          refine va_mmin hx hb (hC.2.2.1.trans hl.1.symm) hC.2.2.2.1 (hw _ w_515) (hw _ w_404) (hw _ w_13) (hw _ w_405) (Nat.le_of_ble_eq_true rfl) (Nat.le_of_ble_eq_true rfl) (by first | omega | exact Nat.le_of_ble_eq_true rfl) (by first | omega | exact Nat.le_of_ble_eq_true rfl) dX0_hear_81 ?_
          refine fp_X0_18 hC hM (me_up_s _ _ _) (Nat.le_of_ble_eq_true rfl) (M2 := me_up M q (.inr (0, [.int xn, .int xs, .int (if 9 < (if xi - 1 < 0 then 0 else xi - 1) + 1 then 9 else (if xi - 1 < 0 then 0 else xi - 1) + 1), .int xc, .int 0, .int 0]))) (me_up_up _ _ _ _) dX0_hear_84 (fun H locs hM => ?_)
          exact me_vret hC hr hlk hM (by subst c_1; exact absurd (by decide) c_7) (rfl) dX0_hear_87
set_option maxHeartbeats 4000000 in
theorem c_X5_soundStreets (l : Launch) (D : va_G) (tb : Nat → ClassId) (X : State → Prop) (z0 n : Nat) (a : Nat) (g : Nat → Int32) (M0 : me_M) (S B L P : Nat) (hN : ∀ U, X U → me_nest U) (hW : wf g S B L P) : Met l yX5_soundStreets (.code yX5_soundStreets cX5_soundStreets 3 none :: ws_all) ({ frames := 3, cells := 0, slots := 0, locals := 68 } : Room) (me_Pc [.ref a] D tb X z0 (sp tb a g M0) n) (me_Qv D z0 (sp tb a (soF g S L P) M0) n) 0 0 (me_A z0) := by
  refine me_open (by decide) (Nat.le_of_ble_eq_true rfl) ?_
  intro p e s m args below meth c ls hC hr hlk hnm hM hl
  have hl : lv_has ls 3 [(0, .ref a)] := hl
  have hx := hC.1
  have hb := hC.2.1
  have hw := hC.2.2.2.2.1
  obtain ⟨hS, hS0, hB, hB0, hL, hL0, hP, hP0, hwb, hwl⟩ := id hW
  refine lv_aload_n hx hb dX5_soundStreets_0 rfl (lv_at hl 0 rfl) ?_
  refine lv_aload_n hx hb dX5_soundStreets_1 rfl (lv_at hl 0 rfl) ?_
  refine fg_X5_39 hC hM (sp_st _ _ _ _) rfl dX5_soundStreets_2 ?_
  refine me_callVi (As := [.int (g 2)]) (rest := []) hC hl.1 hM (c_X5_silentStreet l D tb X z0 n a g M0 S B L P (g 2) hW ) (kv_X5_108 hw rfl rfl ⟨Nat.le_of_ble_eq_true rfl, Nat.le_of_ble_eq_true rfl⟩) rfl rfl (sp_st _ _ _ _) rfl (Nat.le_of_ble_eq_true rfl) dX5_soundStreets_5 ⟨Nat.le_of_ble_eq_true rfl, Nat.le_of_ble_eq_true rfl⟩ (fun H locs hM => ?_)
  refine me_evi (y := quF g L) rfl ?_
  refine lv_istore_n (lv' := [(1, .int (quF g L)), (0, .ref a)]) hx hb dX5_soundStreets_8 rfl hl (by decide) rfl (fun ls hl => ?_)
  refine lv_iconst (v := 0) hx hb dX5_soundStreets_9 (by decide) ?_
  refine lv_istore_n (lv' := [(2, .int 0), (1, .int (quF g L)), (0, .ref a)]) hx hb dX5_soundStreets_10 rfl hl (by decide) rfl (fun ls hl => ?_)
  have lp_11 : ∀ (r : Nat) (k : Nat) (g1 : Nat → Int32) (H : Heap) (locs : List Loc) (ls : Array Slot), (k + r = S) → (it (soS L P (quF g L)) S 0 g = it (soS L P (quF g L)) r k g1) → (wf g1 S B L P) → (quF g1 L = quF g L) → me_at D z0 (sp tb a g1 M0) n s H locs → lv_has ls 3 [(0, .ref a), (1, .int (quF g L)), (2, .int (nI k))] → W p l e (({ frames := 3, cells := 0, slots := 0, locals := 68 } : Room)) s m args below meth c H locs 0 0 (MQ below (me_Qv D z0 (sp tb a (soF g S L P) M0) n) args s 0 0 (me_A z0)) (F0 m 11 ls []) := by
    intro r
    refine Nat.strongRecOn r ?_
    intro r ih_11 k g1 H locs ls hk hq hW1 hqq hM hl
    obtain ⟨hS, hS0, hB, hB0, hL, hL0, hP, hP0, hwb, hwl⟩ := id hW1
    refine lv_iload_n hx hb dX5_soundStreets_11 rfl (lv_at hl 2 rfl) ?_
    refine lv_aload_n hx hb dX5_soundStreets_12 rfl (lv_at hl 0 rfl) ?_
    refine fg_X5_55 hC hM (sp_st _ _ _ _) rfl dX5_soundStreets_13 ?_
    refine lv_icmp_ge (tgt := 95) hx hb dX5_soundStreets_16 (by decide) (fun c_1 => ?_) (fun c_1 => ?_)
    · have c_1 := (br_le hS rfl (by omega) (by omega)).mp c_1
      exact me_vret hC hr hlk hM (by unfold soF; rw [hq, show r = 0 by omega]; rfl) (rfl) dX5_soundStreets_95
    · have c_1 := (not_congr (br_le hS rfl (by omega) (by omega))).mp c_1
      obtain ⟨r1, rfl⟩ : ∃ r1, r = r1 + 1 := ⟨r - 1, by omega⟩
      refine lv_aload_n hx hb dX5_soundStreets_19 rfl (lv_at hl 0 rfl) ?_
      refine fg_X5_11 hC hM (sp_st _ _ _ _) rfl dX5_soundStreets_20 ?_
      refine lv_iload_n hx hb dX5_soundStreets_23 rfl (lv_at hl 2 rfl) ?_
      refine me_aald (k := k) hC hM (sp_a1 _ _ _ _) (t0 := 6) rfl rfl (by omega) (by decide) (sp_arr_at (by omega)) dX5_soundStreets_24 ?_
      refine lv_iload_n hx hb dX5_soundStreets_25 rfl (lv_at hl 2 rfl) ?_
      refine lv_iload_n hx hb dX5_soundStreets_26 rfl (lv_at hl 1 rfl) ?_
      refine lv_icmp_ne (tgt := 34) hx hb dX5_soundStreets_27 (by decide) (fun c_2 => ?_) (fun c_2 => ?_)
      · refine lv_aload_n hx hb dX5_soundStreets_34 rfl (lv_at hl 0 rfl) ?_
        refine lv_iload_n hx hb dX5_soundStreets_35 rfl (lv_at hl 2 rfl) ?_
        refine lv_aload_n hx hb dX5_soundStreets_36 rfl (lv_at hl 0 rfl) ?_
        refine fg_X5_39 hC hM (sp_st _ _ _ _) rfl dX5_soundStreets_37 ?_
        refine me_callVi (As := [.int (nI k), .int (g1 2)]) (rest := [.ref (a + 5 + k)]) hC hl.1 hM (c_X5_outdoorNoise l D tb X z0 n a g1 M0 S B L P k (g1 2) hN hW1 (by omega)) (kv_X5_111 hw rfl rfl ⟨Nat.le_of_ble_eq_true rfl, Nat.le_of_ble_eq_true rfl⟩) rfl rfl (sp_st _ _ _ _) rfl (Nat.le_of_ble_eq_true rfl) dX5_soundStreets_40 ⟨Nat.le_of_ble_eq_true rfl, Nat.le_of_ble_eq_true rfl⟩ (fun H locs hM => ?_)
        refine me_evi (y := noF g1 L P k (g1 2)) (no_f (by omega) hqq c_2).symm ?_
        refine fp_X5_198 hC hM (sp_street _ _ _ _ (by omega)) (Nat.le_of_ble_eq_true rfl) (M2 := sp tb a (upd g1 (9 + 10 * k + 5) (noF g1 L P k (g1 2))) M0) (sp_w_street (k := k) 5 (by omega) (by decide) (by simp [upd])) dX5_soundStreets_43 (fun H locs hM => ?_)
        refine lv_aload_n hx hb dX5_soundStreets_46 rfl (lv_at hl 0 rfl) ?_
        refine fg_X5_11 hC hM (sp_st _ _ _ _) rfl dX5_soundStreets_47 ?_
        refine lv_iload_n hx hb dX5_soundStreets_50 rfl (lv_at hl 2 rfl) ?_
        refine me_aald (k := k) hC hM (sp_a1 _ _ _ _) (t0 := 6) rfl rfl (by omega) (by decide) (sp_arr_at (by omega)) dX5_soundStreets_51 ?_
        refine lv_dup hx hb dX5_soundStreets_52 rfl ?_
        refine fg_X5_168 hC hM (sp_street _ _ _ _ (by omega)) rfl dX5_soundStreets_53 ?_
        refine me_evi (y := g1 (9 + 10 * k + 2)) (upd_n (by omega)) ?_
        refine lv_aload_n hx hb dX5_soundStreets_56 rfl (lv_at hl 0 rfl) ?_
        refine fg_X5_11 hC hM (sp_st _ _ _ _) rfl dX5_soundStreets_57 ?_
        refine lv_iload_n hx hb dX5_soundStreets_60 rfl (lv_at hl 2 rfl) ?_
        refine me_aald (k := k) hC hM (sp_a1 _ _ _ _) (t0 := 6) rfl rfl (by omega) (by decide) (sp_arr_at (by omega)) dX5_soundStreets_61 ?_
        refine fg_X5_198 hC hM (sp_street _ _ _ _ (by omega)) rfl dX5_soundStreets_62 ?_
        refine me_evi (y := noF g1 L P k (g1 2)) (upd_s _ _ _) ?_
        refine lv_iadd hx hb dX5_soundStreets_65 ?_
        refine fp_X5_168 hC hM (sp_street _ _ _ _ (by omega)) (Nat.le_of_ble_eq_true rfl) (M2 := sp tb a (upd (upd g1 (9 + 10 * k + 5) (noF g1 L P k (g1 2))) (9 + 10 * k + 2) ((g1 (9 + 10 * k + 2)) + (noF g1 L P k (g1 2)))) M0) (sp_w_street (k := k) 2 (by omega) (by decide) (by simp [upd])) dX5_soundStreets_66 (fun H locs hM => ?_)
        refine lv_iload_n hx hb dX5_soundStreets_69 rfl (lv_at hl 2 rfl) ?_
        refine lv_iload_n hx hb dX5_soundStreets_70 rfl (lv_at hl 1 rfl) ?_
        refine lv_icmp_ne (tgt := 89) hx hb dX5_soundStreets_71 (by decide) (fun c_3 => ?_) (fun c_3 => ?_)
        · refine lv_iinc (v := nI (k + 1)) (lv' := [(2, .int (nI (k + 1))), (0, .ref a), (1, .int (quF g L))]) hx hb dX5_soundStreets_89 hl (k := 2) rfl (nx_add rfl rfl) (by decide) rfl (fun ls hl => ?_)
          refine lv_goto (tgt := 11) hx hb dX5_soundStreets_92 (by decide) ?_
          exact ih_11 r1 (by omega) (k + 1) ((soS L P (quF g L)) k g1) _ _ _ (by omega) hq (wf_so hW1 (by omega)) ((qu_so (by omega)).trans hqq) (hM.eq (by rw [show soS L P (quF g L) k g1 = _ from if_neg c_3])) (lv_sub hl [1, 2, 0] rfl)
        · refine lv_aload_n hx hb dX5_soundStreets_74 rfl (lv_at hl 0 rfl) ?_
          refine fg_X5_11 hC hM (sp_st _ _ _ _) rfl dX5_soundStreets_75 ?_
          refine lv_iload_n hx hb dX5_soundStreets_78 rfl (lv_at hl 2 rfl) ?_
          refine me_aald (k := k) hC hM (sp_a1 _ _ _ _) (t0 := 6) rfl rfl (by omega) (by decide) (sp_arr_at (by omega)) dX5_soundStreets_79 ?_
          refine lv_dup hx hb dX5_soundStreets_80 rfl ?_
          refine fg_X5_171 hC hM (sp_street _ _ _ _ (by omega)) rfl dX5_soundStreets_81 ?_
          refine me_evi (y := g1 (9 + 10 * k + 3)) ((upd_n (by omega)).trans (upd_n (by omega))) ?_
          refine lv_iconst (v := 1) hx hb dX5_soundStreets_84 (by decide) ?_
          refine lv_iadd hx hb dX5_soundStreets_85 ?_
          refine fp_X5_171 hC hM (sp_street _ _ _ _ (by omega)) (Nat.le_of_ble_eq_true rfl) (M2 := sp tb a (upd (upd (upd g1 (9 + 10 * k + 5) (noF g1 L P k (g1 2))) (9 + 10 * k + 2) ((g1 (9 + 10 * k + 2)) + (noF g1 L P k (g1 2)))) (9 + 10 * k + 3) ((g1 (9 + 10 * k + 3)) + 1)) M0) (sp_w_street (k := k) 3 (by omega) (by decide) (by simp [upd])) dX5_soundStreets_86 (fun H locs hM => ?_)
          refine lv_iinc (v := nI (k + 1)) (lv' := [(2, .int (nI (k + 1))), (0, .ref a), (1, .int (quF g L))]) hx hb dX5_soundStreets_89 hl (k := 2) rfl (nx_add rfl rfl) (by decide) rfl (fun ls hl => ?_)
          refine lv_goto (tgt := 11) hx hb dX5_soundStreets_92 (by decide) ?_
          exact ih_11 r1 (by omega) (k + 1) ((soS L P (quF g L)) k g1) _ _ _ (by omega) hq (wf_so hW1 (by omega)) ((qu_so (by omega)).trans hqq) (hM.eq (by rw [show soS L P (quF g L) k g1 = _ from if_pos c_3])) (lv_sub hl [1, 2, 0] rfl)
      · refine lv_iconst (v := 0) hx hb dX5_soundStreets_30 (by decide) ?_
        refine lv_goto (tgt := 43) hx hb dX5_soundStreets_31 (by decide) ?_
        refine me_evi (y := noF g1 L P k (g1 2)) (no_t (by omega) hqq c_2).symm ?_
        refine fp_X5_198 hC hM (sp_street _ _ _ _ (by omega)) (Nat.le_of_ble_eq_true rfl) (M2 := sp tb a (upd g1 (9 + 10 * k + 5) (noF g1 L P k (g1 2))) M0) (sp_w_street (k := k) 5 (by omega) (by decide) (by simp [upd])) dX5_soundStreets_43 (fun H locs hM => ?_)
        refine lv_aload_n hx hb dX5_soundStreets_46 rfl (lv_at hl 0 rfl) ?_
        refine fg_X5_11 hC hM (sp_st _ _ _ _) rfl dX5_soundStreets_47 ?_
        refine lv_iload_n hx hb dX5_soundStreets_50 rfl (lv_at hl 2 rfl) ?_
        refine me_aald (k := k) hC hM (sp_a1 _ _ _ _) (t0 := 6) rfl rfl (by omega) (by decide) (sp_arr_at (by omega)) dX5_soundStreets_51 ?_
        refine lv_dup hx hb dX5_soundStreets_52 rfl ?_
        refine fg_X5_168 hC hM (sp_street _ _ _ _ (by omega)) rfl dX5_soundStreets_53 ?_
        refine me_evi (y := g1 (9 + 10 * k + 2)) (upd_n (by omega)) ?_
        refine lv_aload_n hx hb dX5_soundStreets_56 rfl (lv_at hl 0 rfl) ?_
        refine fg_X5_11 hC hM (sp_st _ _ _ _) rfl dX5_soundStreets_57 ?_
        refine lv_iload_n hx hb dX5_soundStreets_60 rfl (lv_at hl 2 rfl) ?_
        refine me_aald (k := k) hC hM (sp_a1 _ _ _ _) (t0 := 6) rfl rfl (by omega) (by decide) (sp_arr_at (by omega)) dX5_soundStreets_61 ?_
        refine fg_X5_198 hC hM (sp_street _ _ _ _ (by omega)) rfl dX5_soundStreets_62 ?_
        refine me_evi (y := noF g1 L P k (g1 2)) (upd_s _ _ _) ?_
        refine lv_iadd hx hb dX5_soundStreets_65 ?_
        refine fp_X5_168 hC hM (sp_street _ _ _ _ (by omega)) (Nat.le_of_ble_eq_true rfl) (M2 := sp tb a (upd (upd g1 (9 + 10 * k + 5) (noF g1 L P k (g1 2))) (9 + 10 * k + 2) ((g1 (9 + 10 * k + 2)) + (noF g1 L P k (g1 2)))) M0) (sp_w_street (k := k) 2 (by omega) (by decide) (by simp [upd])) dX5_soundStreets_66 (fun H locs hM => ?_)
        refine lv_iload_n hx hb dX5_soundStreets_69 rfl (lv_at hl 2 rfl) ?_
        refine lv_iload_n hx hb dX5_soundStreets_70 rfl (lv_at hl 1 rfl) ?_
        refine lv_icmp_ne (tgt := 89) hx hb dX5_soundStreets_71 (by decide) (fun c_4 => ?_) (fun c_4 => ?_)
        · refine lv_iinc (v := nI (k + 1)) (lv' := [(2, .int (nI (k + 1))), (0, .ref a), (1, .int (quF g L))]) hx hb dX5_soundStreets_89 hl (k := 2) rfl (nx_add rfl rfl) (by decide) rfl (fun ls hl => ?_)
          refine lv_goto (tgt := 11) hx hb dX5_soundStreets_92 (by decide) ?_
          exact ih_11 r1 (by omega) (k + 1) ((soS L P (quF g L)) k g1) _ _ _ (by omega) hq (wf_so hW1 (by omega)) ((qu_so (by omega)).trans hqq) (hM.eq (by rw [show soS L P (quF g L) k g1 = _ from if_neg c_4])) (lv_sub hl [1, 2, 0] rfl)
        · refine lv_aload_n hx hb dX5_soundStreets_74 rfl (lv_at hl 0 rfl) ?_
          refine fg_X5_11 hC hM (sp_st _ _ _ _) rfl dX5_soundStreets_75 ?_
          refine lv_iload_n hx hb dX5_soundStreets_78 rfl (lv_at hl 2 rfl) ?_
          refine me_aald (k := k) hC hM (sp_a1 _ _ _ _) (t0 := 6) rfl rfl (by omega) (by decide) (sp_arr_at (by omega)) dX5_soundStreets_79 ?_
          refine lv_dup hx hb dX5_soundStreets_80 rfl ?_
          refine fg_X5_171 hC hM (sp_street _ _ _ _ (by omega)) rfl dX5_soundStreets_81 ?_
          refine me_evi (y := g1 (9 + 10 * k + 3)) ((upd_n (by omega)).trans (upd_n (by omega))) ?_
          refine lv_iconst (v := 1) hx hb dX5_soundStreets_84 (by decide) ?_
          refine lv_iadd hx hb dX5_soundStreets_85 ?_
          refine fp_X5_171 hC hM (sp_street _ _ _ _ (by omega)) (Nat.le_of_ble_eq_true rfl) (M2 := sp tb a (upd (upd (upd g1 (9 + 10 * k + 5) (noF g1 L P k (g1 2))) (9 + 10 * k + 2) ((g1 (9 + 10 * k + 2)) + (noF g1 L P k (g1 2)))) (9 + 10 * k + 3) ((g1 (9 + 10 * k + 3)) + 1)) M0) (sp_w_street (k := k) 3 (by omega) (by decide) (by simp [upd])) dX5_soundStreets_86 (fun H locs hM => ?_)
          refine lv_iinc (v := nI (k + 1)) (lv' := [(2, .int (nI (k + 1))), (0, .ref a), (1, .int (quF g L))]) hx hb dX5_soundStreets_89 hl (k := 2) rfl (nx_add rfl rfl) (by decide) rfl (fun ls hl => ?_)
          refine lv_goto (tgt := 11) hx hb dX5_soundStreets_92 (by decide) ?_
          exact ih_11 r1 (by omega) (k + 1) ((soS L P (quF g L)) k g1) _ _ _ (by omega) hq (wf_so hW1 (by omega)) ((qu_so (by omega)).trans hqq) (hM.eq (by rw [show soS L P (quF g L) k g1 = _ from if_pos c_4])) (lv_sub hl [1, 2, 0] rfl)
  exact lp_11 S 0 g _ _ _ (by omega) rfl hW rfl hM (lv_sub hl [2, 1, 0] rfl)
set_option maxHeartbeats 4000000 in
theorem c_X5_passHours (l : Launch) (D : va_G) (tb : Nat → ClassId) (X : State → Prop) (z0 n : Nat) (a : Nat) (g : Nat → Int32) (M0 : me_M) (S B L P : Nat) (hh : Nat) (hN : ∀ U, X U → me_nest U) (hW : wf g S B L P) (hh0 : hh ≤ 200) : Met l yX5_passHours (.code yX5_passHours cX5_passHours 5 (some .int) :: ws_all) ({ frames := 4, cells := 0, slots := 0, locals := 90 } : Room) (me_Pc [.ref a, .int (nI hh)] D tb X z0 (sp tb a g M0) n) (me_Qi D z0 (nI (paN S B L P hh g)) (sp tb a (paG S B L P hh g) M0) n) 0 0 (me_A z0) := by
  refine me_open (by decide) (Nat.le_of_ble_eq_true rfl) ?_
  intro p e s m args below meth c ls hC hr hlk hnm hM hl
  have hl : lv_has ls 5 [(0, .ref a), (1, .int (nI hh))] := hl
  have hx := hC.1
  have hb := hC.2.1
  have hw := hC.2.2.2.2.1
  obtain ⟨hS, hS0, hB, hB0, hL, hL0, hP, hP0, hwb, hwl⟩ := id hW
  refine lv_iconst (v := 0) hx hb dX5_passHours_0 (by decide) ?_
  refine lv_istore_n (lv' := [(2, .int 0), (0, .ref a), (1, .int (nI hh))]) hx hb dX5_passHours_1 rfl hl (by decide) rfl (fun ls hl => ?_)
  refine lv_iconst (v := 0) hx hb dX5_passHours_2 (by decide) ?_
  refine lv_istore_n (lv' := [(3, .int 0), (2, .int 0), (0, .ref a), (1, .int (nI hh))]) hx hb dX5_passHours_3 rfl hl (by decide) rfl (fun ls hl => ?_)
  have lp_4 : ∀ (r : Nat) (j : Nat) (ct : Nat) (g1 : Nat → Int32) (H : Heap) (locs : List Loc) (ls : Array Slot), (j + r = hh) → (paG S B L P hh g = paG S B L P r g1) → (paN S B L P hh g = ct + paN S B L P r g1) → (wf g1 S B L P) → me_at D z0 (sp tb a g1 M0) n s H locs → lv_has ls 5 [(0, .ref a), (1, .int (nI hh)), (2, .int (nI ct)), (3, .int (nI j))] → W p l e (({ frames := 4, cells := 0, slots := 0, locals := 90 } : Room)) s m args below meth c H locs 0 0 (MQ below (me_Qi D z0 (nI (paN S B L P hh g)) (sp tb a (paG S B L P hh g) M0) n) args s 0 0 (me_A z0)) (F0 m 4 ls []) := by
    intro r
    refine Nat.strongRecOn r ?_
    intro r ih_4 j ct g1 H locs ls hj hg hc hW1 hM hl
    obtain ⟨hS, hS0, hB, hB0, hL, hL0, hP, hP0, hwb, hwl⟩ := id hW1
    refine lv_iload_n hx hb dX5_passHours_4 rfl (lv_at hl 3 rfl) ?_
    refine lv_iload_n hx hb dX5_passHours_5 rfl (lv_at hl 1 rfl) ?_
    refine lv_icmp_ge (tgt := 90) hx hb dX5_passHours_6 (by decide) (fun c_1 => ?_) (fun c_1 => ?_)
    · have c_1 := (br_le rfl rfl (by omega) (by omega)).mp c_1
      refine lv_iload_n hx hb dX5_passHours_90 rfl (lv_at hl 2 rfl) ?_
      exact me_iret hC hr hlk hM (by rw [hc, show r = 0 by omega]; rfl) (by rw [hg, show r = 0 by omega]; rfl) (rfl) dX5_passHours_91
    · have c_1 := (not_congr (br_le rfl rfl (by omega) (by omega))).mp c_1
      obtain ⟨r1, rfl⟩ : ∃ r1, r = r1 + 1 := ⟨r - 1, by omega⟩
      refine lv_aload_n hx hb dX5_passHours_9 rfl (lv_at hl 0 rfl) ?_
      refine me_callVv (As := []) (rest := []) hC hl.1 hM (c_X5_beginLoans l D tb X z0 n a g1 M0 S B L P hW1 ) (kv_X5_192 hw rfl rfl ⟨Nat.le_of_ble_eq_true rfl, Nat.le_of_ble_eq_true rfl⟩) rfl rfl (sp_st _ _ _ _) rfl (Nat.le_of_ble_eq_true rfl) dX5_passHours_10 ⟨Nat.le_of_ble_eq_true rfl, Nat.le_of_ble_eq_true rfl⟩ (fun H locs hM => ?_)
      refine lv_aload_n hx hb dX5_passHours_13 rfl (lv_at hl 0 rfl) ?_
      refine me_callVv (As := []) (rest := []) hC hl.1 hM (c_X5_soundStreets l D tb X z0 n a (it bgS L 0 g1) M0 S B L P hN (wf_it L 0 _ hW1 (fun j g _ h2 h3 => wf_bg h3 (by omega))) ) (kv_X5_195 hw rfl rfl ⟨Nat.le_of_ble_eq_true rfl, Nat.le_of_ble_eq_true rfl⟩) rfl rfl (sp_st _ _ _ _) rfl (Nat.le_of_ble_eq_true rfl) dX5_passHours_14 ⟨Nat.le_of_ble_eq_true rfl, Nat.le_of_ble_eq_true rfl⟩ (fun H locs hM => ?_)
      refine lv_iconst (v := 0) hx hb dX5_passHours_17 (by decide) ?_
      refine lv_istore (lv' := [(4, .int 0), (0, .ref a), (1, .int (nI hh)), (2, .int (nI ct)), (3, .int (nI j))]) hx hb dX5_passHours_18 hl (by decide) rfl (fun ls hl => ?_)
      have lp_20 : ∀ (r2 : Nat) (k : Nat) (g2 : Nat → Int32) (H : Heap) (locs : List Loc) (ls : Array Slot), (k + r2 = B) → (it heS B 0 (soF (it bgS L 0 g1) S L P) = it heS r2 k g2) → (wf g2 S B L P) → me_at D z0 (sp tb a g2 M0) n s H locs → lv_has ls 5 [(0, .ref a), (1, .int (nI hh)), (2, .int (nI ct)), (3, .int (nI j)), (4, .int (nI k))] → W p l e (({ frames := 4, cells := 0, slots := 0, locals := 90 } : Room)) s m args below meth c H locs 0 0 (MQ below (me_Qi D z0 (nI (paN S B L P hh g)) (sp tb a (paG S B L P hh g) M0) n) args s 0 0 (me_A z0)) (F0 m 20 ls []) := by
        intro r2
        refine Nat.strongRecOn r2 ?_
        intro r2 ih_20 k g2 H locs ls hk hq hW2 hM hl
        obtain ⟨hS, hS0, hB, hB0, hL, hL0, hP, hP0, hwb, hwl⟩ := id hW2
        refine lv_iload hx hb dX5_passHours_20 (lv_at hl 4 rfl) ?_
        refine lv_aload_n hx hb dX5_passHours_22 rfl (lv_at hl 0 rfl) ?_
        refine fg_X5_58 hC hM (sp_st _ _ _ _) rfl dX5_passHours_23 ?_
        refine lv_icmp_ge (tgt := 63) hx hb dX5_passHours_26 (by decide) (fun c_2 => ?_) (fun c_2 => ?_)
        · have c_2 := (br_le hB rfl (by omega) (by omega)).mp c_2
          obtain rfl : r2 = 0 := by omega
          have hq : it heS B 0 (soF (it bgS L 0 g1) S L P) = g2 := hq
          refine lv_aload_n hx hb dX5_passHours_63 rfl (lv_at hl 0 rfl) ?_
          refine lv_dup hx hb dX5_passHours_64 rfl ?_
          refine fg_X5_39 hC hM (sp_st _ _ _ _) rfl dX5_passHours_65 ?_
          refine lv_iconst (v := 1) hx hb dX5_passHours_68 (by decide) ?_
          refine lv_iadd hx hb dX5_passHours_69 ?_
          refine fp_X5_39 hC hM (sp_st _ _ _ _) (Nat.le_of_ble_eq_true rfl) (M2 := sp tb a (upd g2 (2) ((g2 2) + 1)) M0) (sp_w_st 2 (by decide) (by simp [upd])) dX5_passHours_70 (fun H locs hM => ?_)
          have hM := hM.eq (M2 := sp tb a (upd (it heS B 0 (soF (it bgS L 0 g1) S L P)) 2 (it heS B 0 (soF (it bgS L 0 g1) S L P) 2 + 1)) M0) (by rw [hq])
          have hW3 : wf (upd (it heS B 0 (soF (it bgS L 0 g1) S L P)) 2 (it heS B 0 (soF (it bgS L 0 g1) S L P) 2 + 1)) S B L P := by rw [hq]; exact wf_upd hW2 (by omega) (fun b hb => by omega) (fun j hj => by omega)
          refine lv_aload_n hx hb dX5_passHours_73 rfl (lv_at hl 0 rfl) ?_
          refine me_callVv (As := []) (rest := []) hC hl.1 hM (c_X5_endLoans l D tb X z0 n a (upd (it heS B 0 (soF (it bgS L 0 g1) S L P)) 2 (it heS B 0 (soF (it bgS L 0 g1) S L P) 2 + 1)) M0 S B L P hW3 ) (kv_X5_201 hw rfl rfl ⟨Nat.le_of_ble_eq_true rfl, Nat.le_of_ble_eq_true rfl⟩) rfl rfl (sp_st _ _ _ _) rfl (Nat.le_of_ble_eq_true rfl) dX5_passHours_74 ⟨Nat.le_of_ble_eq_true rfl, Nat.le_of_ble_eq_true rfl⟩ (fun H locs hM => ?_)
          refine lv_iload_n hx hb dX5_passHours_77 rfl (lv_at hl 2 rfl) ?_
          refine lv_aload_n hx hb dX5_passHours_78 rfl (lv_at hl 0 rfl) ?_
          refine me_callVi (As := []) (rest := [.int (nI ct)]) hC hl.1 hM (c_X5_chargeLateLoans l D tb X z0 n a (hoA S B L P g1) M0 S B L P (wf_A hW1) ) (kv_X5_204 hw rfl rfl ⟨Nat.le_of_ble_eq_true rfl, Nat.le_of_ble_eq_true rfl⟩) rfl rfl (sp_st _ _ _ _) rfl (Nat.le_of_ble_eq_true rfl) dX5_passHours_79 ⟨Nat.le_of_ble_eq_true rfl, Nat.le_of_ble_eq_true rfl⟩ (fun H locs hM => ?_)
          refine lv_iadd hx hb dX5_passHours_82 ?_
          refine me_evi (y := nI (ct + chN L 0 (hoA S B L P g1))) (nx_add rfl rfl) ?_
          refine lv_istore_n (lv' := [(2, .int (nI (ct + chN L 0 (hoA S B L P g1)))), (0, .ref a), (1, .int (nI hh)), (3, .int (nI j)), (4, .int (nI k))]) hx hb dX5_passHours_83 rfl hl (by decide) rfl (fun ls hl => ?_)
          refine lv_iinc (v := nI (j + 1)) (lv' := [(3, .int (nI (j + 1))), (2, .int (nI (ct + chN L 0 (hoA S B L P g1)))), (0, .ref a), (1, .int (nI hh)), (4, .int (nI k))]) hx hb dX5_passHours_84 hl (k := 3) rfl (nx_add rfl rfl) (by decide) rfl (fun ls hl => ?_)
          refine lv_goto (tgt := 4) hx hb dX5_passHours_87 (by decide) ?_
          exact ih_4 r1 (by omega) (j + 1) (ct + chN L 0 (hoA S B L P g1)) (hoS S B L P g1) _ _ _ (by omega) hg (by rw [hc]; show ct + (chN L 0 (hoA S B L P g1) + paN S B L P r1 (hoS S B L P g1)) = _; omega) (wf_h hW1) hM (lv_sub hl [2, 3, 1, 0] rfl)
        · have c_2 := (not_congr (br_le hB rfl (by omega) (by omega))).mp c_2
          obtain ⟨r3, rfl⟩ : ∃ r3, r2 = r3 + 1 := ⟨r2 - 1, by omega⟩
          have hkb_ := hwb k (by omega)
          refine lv_aload_n hx hb dX5_passHours_29 rfl (lv_at hl 0 rfl) ?_
          refine fg_X5_19 hC hM (sp_st _ _ _ _) rfl dX5_passHours_30 ?_
          refine lv_iload hx hb dX5_passHours_33 (lv_at hl 4 rfl) ?_
          refine me_aald (k := k) hC hM (sp_a2 _ _ _ _) (t0 := 7) rfl rfl (by omega) (by decide) (sp_arr_at (by omega)) dX5_passHours_35 ?_
          refine lv_aload_n hx hb dX5_passHours_36 rfl (lv_at hl 0 rfl) ?_
          refine fg_X5_11 hC hM (sp_st _ _ _ _) rfl dX5_passHours_37 ?_
          refine lv_aload_n hx hb dX5_passHours_40 rfl (lv_at hl 0 rfl) ?_
          refine fg_X5_19 hC hM (sp_st _ _ _ _) rfl dX5_passHours_41 ?_
          refine lv_iload hx hb dX5_passHours_44 (lv_at hl 4 rfl) ?_
          refine me_aald (k := k) hC hM (sp_a2 _ _ _ _) (t0 := 7) rfl rfl (by omega) (by decide) (sp_arr_at (by omega)) dX5_passHours_46 ?_
          refine fg_X5_87 hC hM (sp_borrower _ _ _ _ (by omega)) rfl dX5_passHours_47 ?_
          refine me_aald (k := hm g2 k) hC hM (sp_a1 _ _ _ _) (t0 := 6) rfl (hwb k (by omega)).1 (by omega) (by decide) (sp_arr_at (by omega)) dX5_passHours_50 ?_
          refine fg_X5_198 hC hM (sp_street _ _ _ _ (by omega)) rfl dX5_passHours_51 ?_
          refine me_callVv (As := [.int (g2 (9 + 10 * (hm g2 k) + 5))]) (rest := []) hC hl.1 hM (c_X0_hear l D tb X z0 n _ _ _ _ _ _ _ _ (g2 (9 + 10 * (hm g2 k) + 5)) (sp_borrower _ _ _ _ (by omega))) (kv_X5_134 hw rfl rfl ⟨Nat.le_of_ble_eq_true rfl, Nat.le_of_ble_eq_true rfl⟩) rfl rfl (sp_borrower _ _ _ _ (by omega)) rfl (Nat.le_of_ble_eq_true rfl) dX5_passHours_54 ⟨Nat.le_of_ble_eq_true rfl, Nat.le_of_ble_eq_true rfl⟩ (fun H locs hM => ?_)
          have hM := hM.eq (sp_he (by omega))
          refine lv_iinc (v := nI (k + 1)) (lv' := [(4, .int (nI (k + 1))), (0, .ref a), (1, .int (nI hh)), (2, .int (nI ct)), (3, .int (nI j))]) hx hb dX5_passHours_57 hl (k := 4) rfl (nx_add rfl rfl) (by decide) rfl (fun ls hl => ?_)
          refine lv_goto (tgt := 20) hx hb dX5_passHours_60 (by decide) ?_
          exact ih_20 r3 (by omega) (k + 1) (heS k g2) _ _ _ (by omega) hq (wf_he hW2 (by omega)) hM (lv_sub hl [1, 2, 3, 4, 0] rfl)
      exact lp_20 B 0 (soF (it bgS L 0 g1) S L P) _ _ _ (by omega) rfl (wf_so2 (wf_it L 0 _ hW1 (fun j g _ h2 h3 => wf_bg h3 (by omega)))) hM (lv_sub hl [1, 2, 3, 4, 0] rfl)
  exact lp_4 hh 0 0 g _ _ _ (by omega) rfl ((Nat.zero_add _).symm) hW hM (lv_sub hl [2, 3, 1, 0] rfl)
