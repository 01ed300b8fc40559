theorem wb_fr {tb : Nat → ClassId} {bo n : Nat} {G : Nat → Nat → Int32} {F F' sf inp out out' g : Nat → Int32} {M0 : me_M} (h : ∀ q, n ≤ q → sp tb (bo + 722) g (bq tb bo G F sf inp out M0) q = none) : ∀ q, n ≤ q → sp tb (bo + 722) g (bq tb bo G F' sf inp out' M0) q = none := by
  intro q hq
  have h1 := h q hq
  by_cases c : bo + 722 ≤ q ∧ q < bo + 722 + 65
  · unfold sp at h1; rw [if_pos c] at h1; cases h1
  · rw [sp_out (by omega)] at h1 ⊢
    by_cases c2 : (q = bo ∨ q = bo + 66 ∨ q = bo + 67 ∨ q = bo + 718 ∨ q = bo + 719 ∨ q = bo + 720 ∨ q = bo + 721)
    · exfalso
      rcases c2 with rfl | rfl | rfl | rfl | rfl | rfl | rfl
      · rw [bq_hd h_b] at h1; cases h1
      · rw [bq_hd h_h] at h1; cases h1
      · rw [bq_hd h_ha] at h1; cases h1
      · rw [bq_hd h_sa] at h1; cases h1
      · rw [bq_hd h_sf] at h1; cases h1
      · rw [bq_hd h_in] at h1; cases h1
      · rw [bq_hd h_ou] at h1; cases h1
    · rw [bq_no (hdq_none c2)] at h1 ⊢; exact h1
set_option maxHeartbeats 4000000 in
theorem c_X7_addName (l : Launch) (D : va_G) (tb : Nat → ClassId) (X : State → Prop) (z0 n : Nat) (kK kV : Nat → Nat) (kO kT N0 k0 : Nat) (nm : Int32) (t0 : Nat → Int32) (M : me_M)  (hKS : ∀ U, X U → me_ks kK kV z0 U) (hKD : ∀ U, X U → me_kd kO kT z0 U) (hfr : ∀ q, N0 ≤ q → M q = none) (hk0 : k0 + 6 ≤ 34) (hft0 : sb_Fit t0) (hna : n = sn N0 k0) : Met l yX7_addName (.code yX7_addName cX7_addName 4 none :: ws_all) ({ frames := 6, cells := 6, slots := 204, locals := 133 } : Room) (me_Pc [.ref N0, .int nm] D tb X z0 (sbT tb M N0 k0 t0) n) (me_Qv D z0 (sbT tb M N0 (anF nm 6 k0 t0).1 (anF nm 6 k0 t0).2) (sn N0 (anF nm 6 k0 t0).1)) 6 204 (me_A z0) := by
  subst hna
  refine me_open (by decide) (Nat.le_of_ble_eq_true rfl) ?_
  intro p e s m args below meth c ls hC hr hlk hnm hM hl
  have hl : lv_has ls 4 [(0, .ref N0), (1, .int nm)] := hl
  have hx := hC.1
  have hb := hC.2.1
  have hw := hC.2.2.2.2.1
  refine lv_bipush (v := 25) hx hb dX7_addName_0 (by decide) ?_
  refine lv_istore_n (lv' := [(2, .int 25), (0, .ref N0), (1, .int nm)]) hx hb dX7_addName_2 rfl hl (by decide) rfl (fun ls hl => ?_)
  have lp_3 : ∀ (r : Nat) (x : Int32) (k : Nat) (t : Nat → Int32) (H : Heap) (locs : List Loc) (ls : Array Slot), (x = shF r) → (r ≤ 6) → (anF nm 6 k0 t0 = anF nm r k t) → (sb_Fit t) → (k + r ≤ 34) → me_at D z0 (sbT tb M N0 k t) (sn N0 k) s H locs → lv_has ls 4 [(0, .ref N0), (1, .int nm), (2, .int x)] → W p l e (({ frames := 6, cells := 6, slots := 204, locals := 133 } : Room)) s m args below meth c H locs (6 - r) (34 * (6 - r)) (MQ below (me_Qv D z0 (sbT tb M N0 (anF nm 6 k0 t0).1 (anF nm 6 k0 t0).2) (sn N0 (anF nm 6 k0 t0).1)) args s 6 204 (me_A z0)) (F0 m 3 ls []) := by
    intro r
    refine Nat.strongRecOn r ?_
    intro r ih_3 x k t H locs ls hx9 hr6 hq hft hk9 hM hl
    refine lv_iload_n hx hb dX7_addName_3 rfl (lv_at hl 2 rfl) ?_
    refine lv_if_lt (tgt := 36) hx hb dX7_addName_4 (by decide) (fun c_1 => ?_) (fun c_1 => ?_)
    · have c_1q := Int32.not_le.mpr c_1
      refine W.widen (k := 6) (n := 204) (by omega) (by omega) ?_
      exact me_vret hC hr hlk hM (by rw [hq, sh_0 hr6 (by rw [← hx9]; exact c_1)]; rfl) (by rw [hq, sh_0 hr6 (by rw [← hx9]; exact c_1)]; rfl) dX7_addName_36
    · have c_1q := Int32.not_lt.mp c_1
      obtain ⟨r1, hr1, hx1⟩ := sh_1 hr6 (by rw [← hx9]; exact c_1)
      rw [← hx9] at hx1
      rw [hr1] at hq
      refine lv_iload_n hx hb dX7_addName_7 rfl (lv_at hl 1 rfl) ?_
      refine lv_iload_n hx hb dX7_addName_8 rfl (lv_at hl 2 rfl) ?_
      refine lv_ishr hx hb dX7_addName_9 ?_
      refine lv_bipush (v := 31) hx hb dX7_addName_10 (by decide) ?_
      refine lv_iand hx hb dX7_addName_12 ?_
      refine lv_istore_n (lv' := [(3, .int ((nm >>> (x &&& 31)) &&& 31)), (0, .ref N0), (1, .int nm), (2, .int x)]) hx hb dX7_addName_13 rfl hl (by decide) rfl (fun ls hl => ?_)
      refine lv_iload_n hx hb dX7_addName_14 rfl (lv_at hl 0 rfl) ?_
      refine lv_if_eq (tgt := 30) hx hb dX7_addName_15 (by decide) (fun c_2 => ?_) (fun c_2 => ?_)
      · have hL : nlF nm r1 = 0 := by rw [show nlF nm r1 = (nm >>> (x &&& 31)) &&& 31 by rw [hx1]; rfl]; exact c_2
        refine lv_iinc (v := x + (-5)) (lv' := [(2, .int (x + (-5))), (3, .int ((nm >>> (x &&& 31)) &&& 31)), (0, .ref N0), (1, .int nm)]) hx hb dX7_addName_30 hl (k := 3) rfl rfl (by decide) rfl (fun ls hl => ?_)
        refine lv_goto (tgt := 3) hx hb dX7_addName_33 (by decide) ?_
        refine W.widen (k := 6 - r1) (n := 34 * (6 - r1)) (by omega) (by omega) ?_
        exact ih_3 r1 (by omega) (x + (-5)) k t _ _ _ (by rw [hx1]; exact (Int32.sub_eq_add_neg ..).symm) (by omega) (hq.trans (an_t hL)) hft (by omega) hM (lv_sub hl [2, 3, 0] rfl)
      · have hL : ¬ nlF nm r1 = 0 := by rw [show nlF nm r1 = (nm >>> (x &&& 31)) &&& 31 by rw [hx1]; rfl]; exact c_2
        refine lv_aload_n hx hb dX7_addName_18 rfl (lv_at hl 1 rfl) ?_
        refine lv_bipush (v := 97) hx hb dX7_addName_19 (by decide) ?_
        refine lv_iload_n hx hb dX7_addName_21 rfl (lv_at hl 0 rfl) ?_
        refine lv_iadd hx hb dX7_addName_22 ?_
        refine lv_iconst (v := 1) hx hb dX7_addName_23 (by decide) ?_
        refine lv_isub hx hb dX7_addName_24 ?_
        refine lv_i2c (v := (((97 + ((nm >>> (x &&& 31)) &&& 31)) - 1).toUInt32 % 65536).toInt32) hx hb dX7_addName_25 rfl ?_
        refine me_evi (y := nI (96 + nlN nm r1)) (by rw [show (nm >>> (x &&& 31)) &&& 31 = nlF nm r1 by rw [hx1]; rfl]; exact nl_char hL) ?_
        have hl31 := (nl_in nm r1).2
        refine me_callVr (As := [.int (nI (96 + nlN nm r1))]) (rest := []) hC hl.1 hM (c_J4_append_cf468 l D tb X z0 kK kV kO kT N0 k (96 + nlN nm r1) t M hKS hKD hfr (by omega) (by omega) hft) (kv_X7_339 hw rfl rfl ⟨Nat.le_of_ble_eq_true rfl, Nat.le_of_ble_eq_true rfl⟩) rfl rfl sbT_o rfl (Nat.le_of_ble_eq_true rfl) dX7_addName_26 ⟨by show (6 - r) + 1 ≤ 6; omega, by show (34 * (6 - r)) + 34 ≤ 204; omega⟩ (fun H locs hM => ?_)
        refine lv_pop hx hb dX7_addName_29 rfl ?_
        refine lv_iinc (v := x + (-5)) (lv' := [(2, .int (x + (-5))), (3, .int ((nm >>> (x &&& 31)) &&& 31)), (0, .ref N0), (1, .int nm)]) hx hb dX7_addName_30 hl (k := 3) rfl rfl (by decide) rfl (fun ls hl => ?_)
        refine lv_goto (tgt := 3) hx hb dX7_addName_33 (by decide) ?_
        refine W.widen (k := 6 - r1) (n := 34 * (6 - r1)) (by omega) (by omega) ?_
        exact ih_3 r1 (by omega) (x + (-5)) (k + 1) (upd t k (sb_b (96 + nlN nm r1))) _ _ _ (by rw [hx1]; exact (Int32.sub_eq_add_neg ..).symm) (by omega) (hq.trans (an_f hL)) (sb_fitU hft (sb_fitB _)) (by omega) hM (lv_sub hl [2, 3, 0] rfl)
  refine W.widen (k := 6 - 6) (n := 34 * (6 - 6)) (by omega) (by omega) ?_
  exact lp_3 6 25 k0 t0 _ _ _ rfl (by decide) rfl hft0 (by omega) hM (lv_sub hl [1, 2, 0] rfl)
set_option maxHeartbeats 4000000 in
theorem c_X7_writeBorrower_0 (l : Launch) (D : va_G) (tb : Nat → ClassId) (X : State → Prop) (z0 n : Nat) (bo : Nat) (g : Nat → Int32) (G : Nat → Nat → Int32) (F sf inp out : Nat → Int32) (M0 : me_M) (S B L P : Nat) (kK kV : Nat → Nat) (kO kT : Nat) (b il w : Nat)  (hW : wf g S B L P) (hKS : ∀ U, X U → me_ks kK kV z0 U) (hKD : ∀ U, X U → me_kd kO kT z0 U) (hb9 : b < B) (hbn : bo + 919 ≤ n) (hil : g (89 + 11 * b + 1) = nI il) (hil0 : il ≤ 9) (hcr : g (89 + 11 * b + 2) = nI w) (hw9 : w < 1000000000) : Met l yX7_writeBorrower (.code yX7_writeBorrower cX7_writeBorrower 5 (some .int) :: ws_all) ({ frames := 7, cells := 19, slots := 598, locals := 156 } : Room) (me_Pc [.ref bo, .int (nI b)] D tb X z0 (sp tb (bo + 722) g (bq tb bo G F sf inp out M0)) n) (me_Qi D z0 (nI (wb6 g b il 0 w).1) (sp tb (bo + 722) g (bq tb bo G (upd F 1 (nI (wb6 g b il 0 w).1)) sf inp (it (otS (wb6 g b il 0 w).2) (wb6 g b il 0 w).1 0 out) M0)) (sn n (wb6 g b il 0 w).1)) 19 598 (me_A z0) := by
  refine me_open (by decide) (Nat.le_of_ble_eq_true rfl) ?_
  intro p e s m args below meth c ls hC hr hlk hnm hM hl
  have hl : lv_has ls 5 [(0, .ref bo), (1, .int (nI b))] := hl
  have hx := hC.1
  have hb := hC.2.1
  have hw := hC.2.2.2.2.1
  obtain ⟨hS, hS0, hB, hB0, hL, hL0, hP, hP0, hwb, hwl⟩ := id hW
  have hkb_ := hwb b (by omega)
  have hfr := me_fresh hM
  have w1 := wb_1 g b
  have w2 := wb_2 g b
  have w3 := wb_3 g b
  have w4 := wb_4 g b hil0
  have w5 := wb_5 g b hil0
  have w6 := wb_6 g b (sg := 0) (w := w) hil0 (by omega)
  have hdw := sb_dg_in w
  have hdi := dg_1 hil0
  have hfr : ∀ q, n ≤ q → (sp tb (bo + 722) g (bq tb bo G F sf inp out M0)) q = none := hfr
  refine lv_aload_n hx hb dX7_writeBorrower_0 rfl (lv_at hl 0 rfl) ?_
  refine lv_iload_n hx hb dX7_writeBorrower_1 rfl (lv_at hl 1 rfl) ?_
  refine me_callVv (As := [.int (nI b)]) (rest := []) hC hl.1 hM (c_X7_needBorrower l D tb X z0 n bo g G F sf inp out M0 S B L P b hW (by omega)) (kv_X7_167 hw rfl rfl ⟨Nat.le_of_ble_eq_true rfl, Nat.le_of_ble_eq_true rfl⟩) rfl rfl (bq_at h_b) rfl (Nat.le_of_ble_eq_true rfl) dX7_writeBorrower_2 ⟨Nat.le_of_ble_eq_true rfl, Nat.le_of_ble_eq_true rfl⟩ (fun H locs hM => ?_)
  refine lv_aload_n hx hb dX7_writeBorrower_5 rfl (lv_at hl 0 rfl) ?_
  refine fg_X7_71 hC hM (bq_at h_b) rfl dX7_writeBorrower_6 ?_
  refine fg_X7_170 hC hM (sp_st _ _ _ _) rfl dX7_writeBorrower_9 ?_
  refine lv_iload_n hx hb dX7_writeBorrower_12 rfl (lv_at hl 1 rfl) ?_
  refine me_aald (k := b) hC hM (sp_a2 _ _ _ _) (t0 := 7) rfl rfl (by omega) (by decide) (sp_arr_at (by omega)) dX7_writeBorrower_13 ?_
  refine lv_astore_n (lv' := [(2, .ref (bo + 722 + 13 + b)), (0, .ref bo), (1, .int (nI b))]) hx hb dX7_writeBorrower_14 rfl hl (by decide) rfl (fun ls hl => ?_)
  refine me_new (C := RJ4) (T := TJ4) (N := 4) (ci := 9) (fs := [.null, .int 0, .int 0, .int 0]) (M2 := me_up (sp tb (bo + 722) g (bq tb bo G F sf inp out M0)) n (.inr (9, [.null, .int 0, .int 0, .int 0]))) hC hM in_J4 tyJ4 tyJ4_ok w_1140 w_1141 w_22 rfl (fun j hj => by rcases (show j = 0 ∨ j = 1 ∨ j = 2 ∨ j = 3 by omega) with rfl | rfl | rfl | rfl <;> rfl) (Nat.le_of_ble_eq_true rfl) (Nat.le_of_ble_eq_true rfl) rfl dX7_writeBorrower_15 (fun H hM => ?_)
  refine lv_dup hx hb dX7_writeBorrower_18 rfl ?_
  refine me_callIv (As := []) (rest := [.ref n]) hC hl.1 hM (c_J4_init_da8c8 l D tb X z0 (n + 1) kK kV n (me_up (sp tb (bo + 722) g (bq tb bo G F sf inp out M0)) n (.inr (9, [.null, .int 0, .int 0, .int 0]))) hKS (me_up_s _ _ _) (by omega)) (ki_X7_334 hw rfl rfl ⟨Nat.le_of_ble_eq_true rfl, Nat.le_of_ble_eq_true rfl⟩) rfl rfl (Nat.le_of_ble_eq_true rfl) dX7_writeBorrower_19 ⟨Nat.le_of_ble_eq_true rfl, Nat.le_of_ble_eq_true rfl⟩ (fun H locs hM => ?_)
  have hM := hM.eq sb_start
  have hM := me_atn hM (show n + 1 + 1 = sn n 0 from rfl)
  refine lv_astore_n (lv' := [(3, .ref n), (2, .ref (bo + 722 + 13 + b)), (0, .ref bo), (1, .int (nI b))]) hx hb dX7_writeBorrower_22 rfl hl (by decide) rfl (fun ls hl => ?_)
  refine lv_aload_n hx hb dX7_writeBorrower_23 rfl (lv_at hl 0 rfl) ?_
  refine lv_aload_n hx hb dX7_writeBorrower_24 rfl (lv_at hl 1 rfl) ?_
  refine fg_X7_326 hC hM ((sbT_out (by omega)).trans (sp_borrower _ _ _ _ (by omega))) rfl dX7_writeBorrower_25 ?_
  refine me_callSv (As := [.ref n, .int (g (89 + 11 * b + 5))]) (rest := []) hC hl.1 hM (c_X7_addName l D tb X z0 (sn n 0) kK kV kO kT n 0 (g (89 + 11 * b + 5)) (fun _ => 0) (sp tb (bo + 722) g (bq tb bo G F sf inp out M0)) hKS hKD hfr (by omega) sb_fit0 rfl) (ks_X7_335 hw rfl rfl ⟨Nat.le_of_ble_eq_true rfl, Nat.le_of_ble_eq_true rfl⟩) rfl rfl (Nat.le_of_ble_eq_true rfl) dX7_writeBorrower_28 ⟨Nat.le_of_ble_eq_true rfl, Nat.le_of_ble_eq_true rfl⟩ (fun H locs hM => ?_)
  refine lv_aload_n hx hb dX7_writeBorrower_31 rfl (lv_at hl 0 rfl) ?_
  refine lv_bipush (v := 64) hx hb dX7_writeBorrower_32 (by decide) ?_
  refine me_stk (st2 := [.int (nI 64), .ref n]) (by rw [(nx_c 64)]) ?_
  refine me_callVr (As := [.int (nI 64)]) (rest := []) hC hl.1 hM (c_J4_append_cf468 l D tb X z0 kK kV kO kT n ((wb1 g b).1) 64 ((wb1 g b).2) (sp tb (bo + 722) g (bq tb bo G F sf inp out M0)) hKS hKD hfr (by omega) (by omega) w1.2.1) (kv_X7_339 hw rfl rfl ⟨Nat.le_of_ble_eq_true rfl, Nat.le_of_ble_eq_true rfl⟩) rfl rfl sbT_o rfl (Nat.le_of_ble_eq_true rfl) dX7_writeBorrower_34 ⟨Nat.le_of_ble_eq_true rfl, Nat.le_of_ble_eq_true rfl⟩ (fun H locs hM => ?_)
  refine lv_pop hx hb dX7_writeBorrower_37 rfl ?_
  refine lv_aload_n hx hb dX7_writeBorrower_38 rfl (lv_at hl 0 rfl) ?_
  refine lv_aload_n hx hb dX7_writeBorrower_39 rfl (lv_at hl 2 rfl) ?_
  refine fg_X7_71 hC hM ((sbT_out (by omega)).trans (bq_at h_b)) rfl dX7_writeBorrower_40 ?_
  refine fg_X7_155 hC hM ((sbT_out (by omega)).trans (sp_st _ _ _ _)) rfl dX7_writeBorrower_43 ?_
  refine lv_aload_n hx hb dX7_writeBorrower_46 rfl (lv_at hl 1 rfl) ?_
  refine fg_X7_174 hC hM ((sbT_out (by omega)).trans (sp_borrower _ _ _ _ (by omega))) rfl dX7_writeBorrower_47 ?_
  refine me_aald (k := hm g b) hC hM ((sbT_out (by omega)).trans (sp_a1 _ _ _ _)) (t0 := 6) rfl (hwb b (by omega)).1 (by omega) (by decide) (sp_arr_at (by omega)) dX7_writeBorrower_50 ?_
  refine fg_X7_343 hC hM ((sbT_out (by omega)).trans (sp_street _ _ _ _ (by omega))) rfl dX7_writeBorrower_51 ?_
  refine me_callSv (As := [.ref n, .int (g (9 + 10 * (hm g b) + 4))]) (rest := []) hC hl.1 hM (c_X7_addName l D tb X z0 (sn n ((wb1 g b).1 + 1)) kK kV kO kT n ((wb1 g b).1 + 1) (g (9 + 10 * (hm g b) + 4)) (upd (wb1 g b).2 (wb1 g b).1 (sb_b 64)) (sp tb (bo + 722) g (bq tb bo G F sf inp out M0)) hKS hKD hfr (by omega) (sb_fitU w1.2.1 (sb_fitB _)) rfl) (ks_X7_335 hw rfl rfl ⟨Nat.le_of_ble_eq_true rfl, Nat.le_of_ble_eq_true rfl⟩) rfl rfl (Nat.le_of_ble_eq_true rfl) dX7_writeBorrower_54 ⟨Nat.le_of_ble_eq_true rfl, Nat.le_of_ble_eq_true rfl⟩ (fun H locs hM => ?_)
  refine lv_aload_n hx hb dX7_writeBorrower_57 rfl (lv_at hl 0 rfl) ?_
  refine lv_bipush (v := 32) hx hb dX7_writeBorrower_58 (by decide) ?_
  refine me_stk (st2 := [.int (nI 32), .ref n]) (by rw [(nx_c 32)]) ?_
  refine me_callVr (As := [.int (nI 32)]) (rest := []) hC hl.1 hM (c_J4_append_cf468 l D tb X z0 kK kV kO kT n ((wb2 g b).1) 32 ((wb2 g b).2) (sp tb (bo + 722) g (bq tb bo G F sf inp out M0)) hKS hKD hfr (by omega) (by omega) w2.2.1) (kv_X7_339 hw rfl rfl ⟨Nat.le_of_ble_eq_true rfl, Nat.le_of_ble_eq_true rfl⟩) rfl rfl sbT_o rfl (Nat.le_of_ble_eq_true rfl) dX7_writeBorrower_60 ⟨Nat.le_of_ble_eq_true rfl, Nat.le_of_ble_eq_true rfl⟩ (fun H locs hM => ?_)
  refine lv_pop hx hb dX7_writeBorrower_63 rfl ?_
  refine lv_aload_n hx hb dX7_writeBorrower_64 rfl (lv_at hl 0 rfl) ?_
  refine lv_aload_n hx hb dX7_writeBorrower_65 rfl (lv_at hl 1 rfl) ?_
  refine fg_X7_179 hC hM ((sbT_out (by omega)).trans (sp_borrower _ _ _ _ (by omega))) rfl dX7_writeBorrower_66 ?_
  refine me_evi (y := nI il) hil ?_
  refine me_callVr (As := [.int (nI il)]) (rest := []) hC hl.1 hM (c_J4_appI0 l D tb X z0 kK kV kO kT n ((wb3 g b).1) il ((wb3 g b).2) (sp tb (bo + 722) g (bq tb bo G F sf inp out M0)) hKS hKD hfr (show (wb3 g b).1 + (sb_dg il + 0) ≤ 34 by omega) (by omega) w3.2.1) (kv_X7_344 hw rfl rfl ⟨Nat.le_of_ble_eq_true rfl, Nat.le_of_ble_eq_true rfl⟩) rfl rfl sbT_o rfl (Nat.le_of_ble_eq_true rfl) dX7_writeBorrower_69 ⟨Nat.le_of_ble_eq_true rfl, Nat.le_of_ble_eq_true rfl⟩ (fun H locs hM => ?_)
  refine lv_pop hx hb dX7_writeBorrower_72 rfl ?_
  refine lv_aload_n hx hb dX7_writeBorrower_73 rfl (lv_at hl 0 rfl) ?_
  refine lv_bipush (v := 32) hx hb dX7_writeBorrower_74 (by decide) ?_
  refine me_stk (st2 := [.int (nI 32), .ref n]) (by rw [(nx_c 32)]) ?_
  refine me_callVr (As := [.int (nI 32)]) (rest := []) hC hl.1 hM (c_J4_append_cf468 l D tb X z0 kK kV kO kT n ((wb4 g b il).1) 32 ((wb4 g b il).2) (sp tb (bo + 722) g (bq tb bo G F sf inp out M0)) hKS hKD hfr (by omega) (by omega) w4.2.1) (kv_X7_339 hw rfl rfl ⟨Nat.le_of_ble_eq_true rfl, Nat.le_of_ble_eq_true rfl⟩) rfl rfl sbT_o rfl (Nat.le_of_ble_eq_true rfl) dX7_writeBorrower_76 ⟨Nat.le_of_ble_eq_true rfl, Nat.le_of_ble_eq_true rfl⟩ (fun H locs hM => ?_)
  refine lv_pop hx hb dX7_writeBorrower_79 rfl ?_
  refine lv_aload_n hx hb dX7_writeBorrower_80 rfl (lv_at hl 0 rfl) ?_
  refine lv_aload_n hx hb dX7_writeBorrower_81 rfl (lv_at hl 1 rfl) ?_
  refine fg_X7_182 hC hM ((sbT_out (by omega)).trans (sp_borrower _ _ _ _ (by omega))) rfl dX7_writeBorrower_82 ?_
  refine me_evi (y := nI w) hcr ?_
  refine me_callVr (As := [.int (nI w)]) (rest := []) hC hl.1 hM (c_J4_appI0 l D tb X z0 kK kV kO kT n ((wb5 g b il).1) w ((wb5 g b il).2) (sp tb (bo + 722) g (bq tb bo G F sf inp out M0)) hKS hKD hfr (show (wb5 g b il).1 + (sb_dg w + 0) ≤ 34 by omega) (by omega) w5.2.1) (kv_X7_344 hw rfl rfl ⟨Nat.le_of_ble_eq_true rfl, Nat.le_of_ble_eq_true rfl⟩) rfl rfl sbT_o rfl (Nat.le_of_ble_eq_true rfl) dX7_writeBorrower_85 ⟨Nat.le_of_ble_eq_true rfl, Nat.le_of_ble_eq_true rfl⟩ (fun H locs hM => ?_)
  refine lv_pop hx hb dX7_writeBorrower_88 rfl ?_
  refine lv_aload_n hx hb dX7_writeBorrower_89 rfl (lv_at hl 2 rfl) ?_
  refine lv_aload_n hx hb dX7_writeBorrower_90 rfl (lv_at hl 0 rfl) ?_
  refine me_callVi (As := []) (rest := [.ref bo]) hC hl.1 hM (c_J4_length_8abf5 l D tb X z0 (sn n ((wb6 g b il 0 w).1)) n (sv n ((wb6 g b il 0 w).1)) (sc ((wb6 g b il 0 w).1)) ((wb6 g b il 0 w).1) (tx ((wb6 g b il 0 w).1) ((wb6 g b il 0 w).2)) (sp tb (bo + 722) g (bq tb bo G F sf inp out M0)) (sv_in n _).1) (kv_X7_347 hw rfl rfl ⟨Nat.le_of_ble_eq_true rfl, Nat.le_of_ble_eq_true rfl⟩) rfl rfl sbT_o rfl (Nat.le_of_ble_eq_true rfl) dX7_writeBorrower_91 ⟨Nat.le_of_ble_eq_true rfl, Nat.le_of_ble_eq_true rfl⟩ (fun H locs hM => ?_)
  refine lv_bipush (v := 64) hx hb dX7_writeBorrower_94 (by decide) ?_
  refine va_mmin hx hb (hC.2.2.1.trans hl.1.symm) hC.2.2.2.1 (hw _ w_1284) (hw _ w_409) (hw _ w_13) (hw _ w_410) (Nat.le_of_ble_eq_true rfl) (Nat.le_of_ble_eq_true rfl) (by first | omega | exact Nat.le_of_ble_eq_true rfl) (by first | omega | exact Nat.le_of_ble_eq_true rfl) dX7_writeBorrower_96 ?_
  refine me_evi (y := nI (wb6 g b il 0 w).1) (if_neg (fun z => absurd ((nI_ltI (by omega) (by omega)).mp (show nI 64 < nI (wb6 g b il 0 w).1 from z)) (by omega))) ?_
  refine fp_X7_42 hC hM ((sbT_out (by omega)).trans (bq_at h_b)) (Nat.le_of_ble_eq_true rfl) (M2 := sbT tb (sp tb (bo + 722) g (bq tb bo G (upd F 1 (nI ((wb6 g b il 0 w).1))) sf inp out M0)) n ((wb6 g b il 0 w).1) ((wb6 g b il 0 w).2)) ((sbT_up (by omega)).trans (congrArg (fun Z => sbT tb Z n ((wb6 g b il 0 w).1) ((wb6 g b il 0 w).2)) (bq_wb (i := 1) (by omega) (by simp [upd])))) dX7_writeBorrower_99 (fun H locs hM => ?_)
  refine lv_iconst (v := 0) hx hb dX7_writeBorrower_102 (by decide) ?_
  refine lv_istore (lv' := [(4, .int 0), (3, .ref n), (2, .ref (bo + 722 + 13 + b)), (0, .ref bo), (1, .int (nI b))]) hx hb dX7_writeBorrower_103 hl (by decide) rfl (fun ls hl => ?_)
  have lp_105 : ∀ (r : Nat) (i : Nat) (out1 : Nat → Int32) (H : Heap) (locs : List Loc) (ls : Array Slot), (i + r = (wb6 g b il 0 w).1) → (it (otS (wb6 g b il 0 w).2) (wb6 g b il 0 w).1 0 out = it (otS (wb6 g b il 0 w).2) r i out1) → me_at D z0 (sbT tb (sp tb (bo + 722) g (bq tb bo G (upd F 1 (nI (wb6 g b il 0 w).1)) sf inp out1 M0)) n ((wb6 g b il 0 w).1) ((wb6 g b il 0 w).2)) (sn n (wb6 g b il 0 w).1) s H locs → lv_has ls 5 [(0, .ref bo), (3, .ref n), (4, .int (nI i))] → W p l e (({ frames := 7, cells := 19, slots := 598, locals := 156 } : Room)) s m args below meth c H locs 19 598 (MQ below (me_Qi D z0 (nI (wb6 g b il 0 w).1) (sp tb (bo + 722) g (bq tb bo G (upd F 1 (nI (wb6 g b il 0 w).1)) sf inp (it (otS (wb6 g b il 0 w).2) (wb6 g b il 0 w).1 0 out) M0)) (sn n (wb6 g b il 0 w).1)) args s 19 598 (me_A z0)) (F0 m 105 ls []) := by
    intro r
    refine Nat.strongRecOn r ?_
    intro r ih_105 i out1 H locs ls hk hq hM hl
    refine lv_iload hx hb dX7_writeBorrower_105 (lv_at hl 2 rfl) ?_
    refine lv_aload_n hx hb dX7_writeBorrower_107 rfl (lv_at hl 0 rfl) ?_
    refine fg_X7_42 hC hM ((sbT_out (by omega)).trans (bq_at h_b)) rfl dX7_writeBorrower_108 ?_
    refine lv_icmp_ge (tgt := 134) hx hb dX7_writeBorrower_111 (by decide) (fun c_1 => ?_) (fun c_1 => ?_)
    · have c_1 := (br_le (upd_s _ _ _) rfl (by omega) (by omega)).mp c_1
      have hM := sbT_sub hM (wb_fr hfr)
      refine lv_aload_n hx hb dX7_writeBorrower_134 rfl (lv_at hl 0 rfl) ?_
      refine fg_X7_42 hC hM (bq_at h_b) rfl dX7_writeBorrower_135 ?_
      exact me_iret hC hr hlk hM (rfl) (by rw [hq, show r = 0 by omega]; rfl) (rfl) dX7_writeBorrower_138
    · have c_1 := (not_congr (br_le (upd_s _ _ _) rfl (by omega) (by omega))).mp c_1
      obtain ⟨r1, rfl⟩ : ∃ r1, r = r1 + 1 := ⟨r - 1, by omega⟩
      refine lv_aload_n hx hb dX7_writeBorrower_114 rfl (lv_at hl 0 rfl) ?_
      refine fg_X7_39 hC hM ((sbT_out (by omega)).trans (bq_at h_b)) rfl dX7_writeBorrower_115 ?_
      refine lv_iload hx hb dX7_writeBorrower_118 (lv_at hl 2 rfl) ?_
      refine lv_aload_n hx hb dX7_writeBorrower_120 rfl (lv_at hl 1 rfl) ?_
      refine lv_iload hx hb dX7_writeBorrower_121 (lv_at hl 2 rfl) ?_
      obtain ⟨c9, hc9, hfi⟩ := w6.2.2 i (by omega)
      refine me_callVi (As := [.int (nI i)]) (rest := [.int (nI i), .ref (bo + 721)]) hC hl.1 hM (c_J4_charAt_5068e l D tb X z0 (sn n (wb6 g b il 0 w).1) kK kV n (sv n ((wb6 g b il 0 w).1)) (sc ((wb6 g b il 0 w).1)) ((wb6 g b il 0 w).1) (tx ((wb6 g b il 0 w).1) ((wb6 g b il 0 w).2)) (sp tb (bo + 722) g (bq tb bo G (upd F 1 (nI (wb6 g b il 0 w).1)) sf inp out1 M0)) i c9 hKS (sv_in n _).1 (by omega) ((sc_in _).2 (by omega)) (sc_in _).1 hc9 ((tx_at (by omega)).trans hfi)) (kv_X7_353 hw rfl rfl ⟨Nat.le_of_ble_eq_true rfl, Nat.le_of_ble_eq_true rfl⟩) rfl rfl sbT_o rfl (Nat.le_of_ble_eq_true rfl) dX7_writeBorrower_123 ⟨Nat.le_of_ble_eq_true rfl, Nat.le_of_ble_eq_true rfl⟩ (fun H locs hM => ?_)
      refine lv_i2b (v := (nI c9).toInt8.toInt32) hx hb dX7_writeBorrower_126 rfl ?_
      refine me_bast (k := i) (M2 := sbT tb (sp tb (bo + 722) g (bq tb bo G (upd F 1 (nI (wb6 g b il 0 w).1)) sf inp (upd out1 i (vp_nar .byte ((nI c9).toInt8.toInt32))) M0)) n ((wb6 g b il 0 w).1) ((wb6 g b il 0 w).2)) hC hM ((sbT_out (by omega)).trans (bq_at h_ou)) rfl (by omega) (by first | decide | omega) ((sbT_up (by omega)).trans (congrArg (fun Z => sbT tb Z n ((wb6 g b il 0 w).1) ((wb6 g b il 0 w).2)) bq_wou)) dX7_writeBorrower_127 (fun H locs hM => ?_)
      refine lv_iinc (v := nI (i + 1)) (lv' := [(4, .int (nI (i + 1))), (0, .ref bo), (3, .ref n)]) hx hb dX7_writeBorrower_128 hl (k := 2) rfl (nx_add rfl rfl) (by decide) rfl (fun ls hl => ?_)
      refine lv_goto (tgt := 105) hx hb dX7_writeBorrower_131 (by decide) ?_
      exact ih_105 r1 (by omega) (i + 1) (otS (wb6 g b il 0 w).2 i out1) _ _ _ (by omega) hq (hM.eq (by rw [pk_vb, show (nI c9).toInt8.toInt32 = (wb6 g b il 0 w).2 i from hfi.symm]; rfl)) (lv_sub hl [1, 2, 0] rfl)
  exact lp_105 ((wb6 g b il 0 w).1) 0 out _ _ _ (by omega) rfl hM (lv_sub hl [3, 1, 0] rfl)
set_option maxHeartbeats 4000000 in
theorem c_X7_writeBorrower_1 (l : Launch) (D : va_G) (tb : Nat → ClassId) (X : State → Prop) (z0 n : Nat) (bo : Nat) (g : Nat → Int32) (G : Nat → Nat → Int32) (F sf inp out : Nat → Int32) (M0 : me_M) (S B L P : Nat) (kK kV : Nat → Nat) (kO kT : Nat) (b il w : Nat)  (hW : wf g S B L P) (hKS : ∀ U, X U → me_ks kK kV z0 U) (hKD : ∀ U, X U → me_kd kO kT z0 U) (hb9 : b < B) (hbn : bo + 919 ≤ n) (hil : g (89 + 11 * b + 1) = nI il) (hil0 : il ≤ 9) (hcr : g (89 + 11 * b + 2) = -(nI w)) (hw9 : w < 1000000000) (hw0 : 0 < w) : Met l yX7_writeBorrower (.code yX7_writeBorrower cX7_writeBorrower 5 (some .int) :: ws_all) ({ frames := 7, cells := 19, slots := 598, locals := 156 } : Room) (me_Pc [.ref bo, .int (nI b)] D tb X z0 (sp tb (bo + 722) g (bq tb bo G F sf inp out M0)) n) (me_Qi D z0 (nI (wb6 g b il 1 w).1) (sp tb (bo + 722) g (bq tb bo G (upd F 1 (nI (wb6 g b il 1 w).1)) sf inp (it (otS (wb6 g b il 1 w).2) (wb6 g b il 1 w).1 0 out) M0)) (sn n (wb6 g b il 1 w).1)) 19 598 (me_A z0) := by
  refine me_open (by decide) (Nat.le_of_ble_eq_true rfl) ?_
  intro p e s m args below meth c ls hC hr hlk hnm hM hl
  have hl : lv_has ls 5 [(0, .ref bo), (1, .int (nI b))] := hl
  have hx := hC.1
  have hb := hC.2.1
  have hw := hC.2.2.2.2.1
  obtain ⟨hS, hS0, hB, hB0, hL, hL0, hP, hP0, hwb, hwl⟩ := id hW
  have hkb_ := hwb b (by omega)
  have hfr := me_fresh hM
  have w1 := wb_1 g b
  have w2 := wb_2 g b
  have w3 := wb_3 g b
  have w4 := wb_4 g b hil0
  have w5 := wb_5 g b hil0
  have w6 := wb_6 g b (sg := 1) (w := w) hil0 (by omega)
  have hdw := sb_dg_in w
  have hdi := dg_1 hil0
  have hfr : ∀ q, n ≤ q → (sp tb (bo + 722) g (bq tb bo G F sf inp out M0)) q = none := hfr
  refine lv_aload_n hx hb dX7_writeBorrower_0 rfl (lv_at hl 0 rfl) ?_
  refine lv_iload_n hx hb dX7_writeBorrower_1 rfl (lv_at hl 1 rfl) ?_
  refine me_callVv (As := [.int (nI b)]) (rest := []) hC hl.1 hM (c_X7_needBorrower l D tb X z0 n bo g G F sf inp out M0 S B L P b hW (by omega)) (kv_X7_167 hw rfl rfl ⟨Nat.le_of_ble_eq_true rfl, Nat.le_of_ble_eq_true rfl⟩) rfl rfl (bq_at h_b) rfl (Nat.le_of_ble_eq_true rfl) dX7_writeBorrower_2 ⟨Nat.le_of_ble_eq_true rfl, Nat.le_of_ble_eq_true rfl⟩ (fun H locs hM => ?_)
  refine lv_aload_n hx hb dX7_writeBorrower_5 rfl (lv_at hl 0 rfl) ?_
  refine fg_X7_71 hC hM (bq_at h_b) rfl dX7_writeBorrower_6 ?_
  refine fg_X7_170 hC hM (sp_st _ _ _ _) rfl dX7_writeBorrower_9 ?_
  refine lv_iload_n hx hb dX7_writeBorrower_12 rfl (lv_at hl 1 rfl) ?_
  refine me_aald (k := b) hC hM (sp_a2 _ _ _ _) (t0 := 7) rfl rfl (by omega) (by decide) (sp_arr_at (by omega)) dX7_writeBorrower_13 ?_
  refine lv_astore_n (lv' := [(2, .ref (bo + 722 + 13 + b)), (0, .ref bo), (1, .int (nI b))]) hx hb dX7_writeBorrower_14 rfl hl (by decide) rfl (fun ls hl => ?_)
  refine me_new (C := RJ4) (T := TJ4) (N := 4) (ci := 9) (fs := [.null, .int 0, .int 0, .int 0]) (M2 := me_up (sp tb (bo + 722) g (bq tb bo G F sf inp out M0)) n (.inr (9, [.null, .int 0, .int 0, .int 0]))) hC hM in_J4 tyJ4 tyJ4_ok w_1140 w_1141 w_22 rfl (fun j hj => by rcases (show j = 0 ∨ j = 1 ∨ j = 2 ∨ j = 3 by omega) with rfl | rfl | rfl | rfl <;> rfl) (Nat.le_of_ble_eq_true rfl) (Nat.le_of_ble_eq_true rfl) rfl dX7_writeBorrower_15 (fun H hM => ?_)
  refine lv_dup hx hb dX7_writeBorrower_18 rfl ?_
  refine me_callIv (As := []) (rest := [.ref n]) hC hl.1 hM (c_J4_init_da8c8 l D tb X z0 (n + 1) kK kV n (me_up (sp tb (bo + 722) g (bq tb bo G F sf inp out M0)) n (.inr (9, [.null, .int 0, .int 0, .int 0]))) hKS (me_up_s _ _ _) (by omega)) (ki_X7_334 hw rfl rfl ⟨Nat.le_of_ble_eq_true rfl, Nat.le_of_ble_eq_true rfl⟩) rfl rfl (Nat.le_of_ble_eq_true rfl) dX7_writeBorrower_19 ⟨Nat.le_of_ble_eq_true rfl, Nat.le_of_ble_eq_true rfl⟩ (fun H locs hM => ?_)
  have hM := hM.eq sb_start
  have hM := me_atn hM (show n + 1 + 1 = sn n 0 from rfl)
  refine lv_astore_n (lv' := [(3, .ref n), (2, .ref (bo + 722 + 13 + b)), (0, .ref bo), (1, .int (nI b))]) hx hb dX7_writeBorrower_22 rfl hl (by decide) rfl (fun ls hl => ?_)
  refine lv_aload_n hx hb dX7_writeBorrower_23 rfl (lv_at hl 0 rfl) ?_
  refine lv_aload_n hx hb dX7_writeBorrower_24 rfl (lv_at hl 1 rfl) ?_
  refine fg_X7_326 hC hM ((sbT_out (by omega)).trans (sp_borrower _ _ _ _ (by omega))) rfl dX7_writeBorrower_25 ?_
  refine me_callSv (As := [.ref n, .int (g (89 + 11 * b + 5))]) (rest := []) hC hl.1 hM (c_X7_addName l D tb X z0 (sn n 0) kK kV kO kT n 0 (g (89 + 11 * b + 5)) (fun _ => 0) (sp tb (bo + 722) g (bq tb bo G F sf inp out M0)) hKS hKD hfr (by omega) sb_fit0 rfl) (ks_X7_335 hw rfl rfl ⟨Nat.le_of_ble_eq_true rfl, Nat.le_of_ble_eq_true rfl⟩) rfl rfl (Nat.le_of_ble_eq_true rfl) dX7_writeBorrower_28 ⟨Nat.le_of_ble_eq_true rfl, Nat.le_of_ble_eq_true rfl⟩ (fun H locs hM => ?_)
  refine lv_aload_n hx hb dX7_writeBorrower_31 rfl (lv_at hl 0 rfl) ?_
  refine lv_bipush (v := 64) hx hb dX7_writeBorrower_32 (by decide) ?_
  refine me_stk (st2 := [.int (nI 64), .ref n]) (by rw [(nx_c 64)]) ?_
  refine me_callVr (As := [.int (nI 64)]) (rest := []) hC hl.1 hM (c_J4_append_cf468 l D tb X z0 kK kV kO kT n ((wb1 g b).1) 64 ((wb1 g b).2) (sp tb (bo + 722) g (bq tb bo G F sf inp out M0)) hKS hKD hfr (by omega) (by omega) w1.2.1) (kv_X7_339 hw rfl rfl ⟨Nat.le_of_ble_eq_true rfl, Nat.le_of_ble_eq_true rfl⟩) rfl rfl sbT_o rfl (Nat.le_of_ble_eq_true rfl) dX7_writeBorrower_34 ⟨Nat.le_of_ble_eq_true rfl, Nat.le_of_ble_eq_true rfl⟩ (fun H locs hM => ?_)
  refine lv_pop hx hb dX7_writeBorrower_37 rfl ?_
  refine lv_aload_n hx hb dX7_writeBorrower_38 rfl (lv_at hl 0 rfl) ?_
  refine lv_aload_n hx hb dX7_writeBorrower_39 rfl (lv_at hl 2 rfl) ?_
  refine fg_X7_71 hC hM ((sbT_out (by omega)).trans (bq_at h_b)) rfl dX7_writeBorrower_40 ?_
  refine fg_X7_155 hC hM ((sbT_out (by omega)).trans (sp_st _ _ _ _)) rfl dX7_writeBorrower_43 ?_
  refine lv_aload_n hx hb dX7_writeBorrower_46 rfl (lv_at hl 1 rfl) ?_
  refine fg_X7_174 hC hM ((sbT_out (by omega)).trans (sp_borrower _ _ _ _ (by omega))) rfl dX7_writeBorrower_47 ?_
  refine me_aald (k := hm g b) hC hM ((sbT_out (by omega)).trans (sp_a1 _ _ _ _)) (t0 := 6) rfl (hwb b (by omega)).1 (by omega) (by decide) (sp_arr_at (by omega)) dX7_writeBorrower_50 ?_
  refine fg_X7_343 hC hM ((sbT_out (by omega)).trans (sp_street _ _ _ _ (by omega))) rfl dX7_writeBorrower_51 ?_
  refine me_callSv (As := [.ref n, .int (g (9 + 10 * (hm g b) + 4))]) (rest := []) hC hl.1 hM (c_X7_addName l D tb X z0 (sn n ((wb1 g b).1 + 1)) kK kV kO kT n ((wb1 g b).1 + 1) (g (9 + 10 * (hm g b) + 4)) (upd (wb1 g b).2 (wb1 g b).1 (sb_b 64)) (sp tb (bo + 722) g (bq tb bo G F sf inp out M0)) hKS hKD hfr (by omega) (sb_fitU w1.2.1 (sb_fitB _)) rfl) (ks_X7_335 hw rfl rfl ⟨Nat.le_of_ble_eq_true rfl, Nat.le_of_ble_eq_true rfl⟩) rfl rfl (Nat.le_of_ble_eq_true rfl) dX7_writeBorrower_54 ⟨Nat.le_of_ble_eq_true rfl, Nat.le_of_ble_eq_true rfl⟩ (fun H locs hM => ?_)
  refine lv_aload_n hx hb dX7_writeBorrower_57 rfl (lv_at hl 0 rfl) ?_
  refine lv_bipush (v := 32) hx hb dX7_writeBorrower_58 (by decide) ?_
  refine me_stk (st2 := [.int (nI 32), .ref n]) (by rw [(nx_c 32)]) ?_
  refine me_callVr (As := [.int (nI 32)]) (rest := []) hC hl.1 hM (c_J4_append_cf468 l D tb X z0 kK kV kO kT n ((wb2 g b).1) 32 ((wb2 g b).2) (sp tb (bo + 722) g (bq tb bo G F sf inp out M0)) hKS hKD hfr (by omega) (by omega) w2.2.1) (kv_X7_339 hw rfl rfl ⟨Nat.le_of_ble_eq_true rfl, Nat.le_of_ble_eq_true rfl⟩) rfl rfl sbT_o rfl (Nat.le_of_ble_eq_true rfl) dX7_writeBorrower_60 ⟨Nat.le_of_ble_eq_true rfl, Nat.le_of_ble_eq_true rfl⟩ (fun H locs hM => ?_)
  refine lv_pop hx hb dX7_writeBorrower_63 rfl ?_
  refine lv_aload_n hx hb dX7_writeBorrower_64 rfl (lv_at hl 0 rfl) ?_
  refine lv_aload_n hx hb dX7_writeBorrower_65 rfl (lv_at hl 1 rfl) ?_
  refine fg_X7_179 hC hM ((sbT_out (by omega)).trans (sp_borrower _ _ _ _ (by omega))) rfl dX7_writeBorrower_66 ?_
  refine me_evi (y := nI il) hil ?_
  refine me_callVr (As := [.int (nI il)]) (rest := []) hC hl.1 hM (c_J4_appI0 l D tb X z0 kK kV kO kT n ((wb3 g b).1) il ((wb3 g b).2) (sp tb (bo + 722) g (bq tb bo G F sf inp out M0)) hKS hKD hfr (show (wb3 g b).1 + (sb_dg il + 0) ≤ 34 by omega) (by omega) w3.2.1) (kv_X7_344 hw rfl rfl ⟨Nat.le_of_ble_eq_true rfl, Nat.le_of_ble_eq_true rfl⟩) rfl rfl sbT_o rfl (Nat.le_of_ble_eq_true rfl) dX7_writeBorrower_69 ⟨Nat.le_of_ble_eq_true rfl, Nat.le_of_ble_eq_true rfl⟩ (fun H locs hM => ?_)
  refine lv_pop hx hb dX7_writeBorrower_72 rfl ?_
  refine lv_aload_n hx hb dX7_writeBorrower_73 rfl (lv_at hl 0 rfl) ?_
  refine lv_bipush (v := 32) hx hb dX7_writeBorrower_74 (by decide) ?_
  refine me_stk (st2 := [.int (nI 32), .ref n]) (by rw [(nx_c 32)]) ?_
  refine me_callVr (As := [.int (nI 32)]) (rest := []) hC hl.1 hM (c_J4_append_cf468 l D tb X z0 kK kV kO kT n ((wb4 g b il).1) 32 ((wb4 g b il).2) (sp tb (bo + 722) g (bq tb bo G F sf inp out M0)) hKS hKD hfr (by omega) (by omega) w4.2.1) (kv_X7_339 hw rfl rfl ⟨Nat.le_of_ble_eq_true rfl, Nat.le_of_ble_eq_true rfl⟩) rfl rfl sbT_o rfl (Nat.le_of_ble_eq_true rfl) dX7_writeBorrower_76 ⟨Nat.le_of_ble_eq_true rfl, Nat.le_of_ble_eq_true rfl⟩ (fun H locs hM => ?_)
  refine lv_pop hx hb dX7_writeBorrower_79 rfl ?_
  refine lv_aload_n hx hb dX7_writeBorrower_80 rfl (lv_at hl 0 rfl) ?_
  refine lv_aload_n hx hb dX7_writeBorrower_81 rfl (lv_at hl 1 rfl) ?_
  refine fg_X7_182 hC hM ((sbT_out (by omega)).trans (sp_borrower _ _ _ _ (by omega))) rfl dX7_writeBorrower_82 ?_
  refine me_evi (y := -(nI w)) hcr ?_
  refine me_callVr (As := [.int (-(nI w))]) (rest := []) hC hl.1 hM (c_J4_appI1 l D tb X z0 kK kV kO kT n ((wb5 g b il).1) w ((wb5 g b il).2) (sp tb (bo + 722) g (bq tb bo G F sf inp out M0)) hKS hKD hfr (show (wb5 g b il).1 + (sb_dg w + 1) ≤ 34 by omega) (by omega) hw0 w5.2.1) (kv_X7_344 hw rfl rfl ⟨Nat.le_of_ble_eq_true rfl, Nat.le_of_ble_eq_true rfl⟩) rfl rfl sbT_o rfl (Nat.le_of_ble_eq_true rfl) dX7_writeBorrower_85 ⟨Nat.le_of_ble_eq_true rfl, Nat.le_of_ble_eq_true rfl⟩ (fun H locs hM => ?_)
  refine lv_pop hx hb dX7_writeBorrower_88 rfl ?_
  refine lv_aload_n hx hb dX7_writeBorrower_89 rfl (lv_at hl 2 rfl) ?_
  refine lv_aload_n hx hb dX7_writeBorrower_90 rfl (lv_at hl 0 rfl) ?_
  refine me_callVi (As := []) (rest := [.ref bo]) hC hl.1 hM (c_J4_length_8abf5 l D tb X z0 (sn n ((wb6 g b il 1 w).1)) n (sv n ((wb6 g b il 1 w).1)) (sc ((wb6 g b il 1 w).1)) ((wb6 g b il 1 w).1) (tx ((wb6 g b il 1 w).1) ((wb6 g b il 1 w).2)) (sp tb (bo + 722) g (bq tb bo G F sf inp out M0)) (sv_in n _).1) (kv_X7_347 hw rfl rfl ⟨Nat.le_of_ble_eq_true rfl, Nat.le_of_ble_eq_true rfl⟩) rfl rfl sbT_o rfl (Nat.le_of_ble_eq_true rfl) dX7_writeBorrower_91 ⟨Nat.le_of_ble_eq_true rfl, Nat.le_of_ble_eq_true rfl⟩ (fun H locs hM => ?_)
  refine lv_bipush (v := 64) hx hb dX7_writeBorrower_94 (by decide) ?_
  refine va_mmin hx hb (hC.2.2.1.trans hl.1.symm) hC.2.2.2.1 (hw _ w_1284) (hw _ w_409) (hw _ w_13) (hw _ w_410) (Nat.le_of_ble_eq_true rfl) (Nat.le_of_ble_eq_true rfl) (by first | omega | exact Nat.le_of_ble_eq_true rfl) (by first | omega | exact Nat.le_of_ble_eq_true rfl) dX7_writeBorrower_96 ?_
  refine me_evi (y := nI (wb6 g b il 1 w).1) (if_neg (fun z => absurd ((nI_ltI (by omega) (by omega)).mp (show nI 64 < nI (wb6 g b il 1 w).1 from z)) (by omega))) ?_
  refine fp_X7_42 hC hM ((sbT_out (by omega)).trans (bq_at h_b)) (Nat.le_of_ble_eq_true rfl) (M2 := sbT tb (sp tb (bo + 722) g (bq tb bo G (upd F 1 (nI ((wb6 g b il 1 w).1))) sf inp out M0)) n ((wb6 g b il 1 w).1) ((wb6 g b il 1 w).2)) ((sbT_up (by omega)).trans (congrArg (fun Z => sbT tb Z n ((wb6 g b il 1 w).1) ((wb6 g b il 1 w).2)) (bq_wb (i := 1) (by omega) (by simp [upd])))) dX7_writeBorrower_99 (fun H locs hM => ?_)
  refine lv_iconst (v := 0) hx hb dX7_writeBorrower_102 (by decide) ?_
  refine lv_istore (lv' := [(4, .int 0), (3, .ref n), (2, .ref (bo + 722 + 13 + b)), (0, .ref bo), (1, .int (nI b))]) hx hb dX7_writeBorrower_103 hl (by decide) rfl (fun ls hl => ?_)
  have lp_105 : ∀ (r : Nat) (i : Nat) (out1 : Nat → Int32) (H : Heap) (locs : List Loc) (ls : Array Slot), (i + r = (wb6 g b il 1 w).1) → (it (otS (wb6 g b il 1 w).2) (wb6 g b il 1 w).1 0 out = it (otS (wb6 g b il 1 w).2) r i out1) → me_at D z0 (sbT tb (sp tb (bo + 722) g (bq tb bo G (upd F 1 (nI (wb6 g b il 1 w).1)) sf inp out1 M0)) n ((wb6 g b il 1 w).1) ((wb6 g b il 1 w).2)) (sn n (wb6 g b il 1 w).1) s H locs → lv_has ls 5 [(0, .ref bo), (3, .ref n), (4, .int (nI i))] → W p l e (({ frames := 7, cells := 19, slots := 598, locals := 156 } : Room)) s m args below meth c H locs 19 598 (MQ below (me_Qi D z0 (nI (wb6 g b il 1 w).1) (sp tb (bo + 722) g (bq tb bo G (upd F 1 (nI (wb6 g b il 1 w).1)) sf inp (it (otS (wb6 g b il 1 w).2) (wb6 g b il 1 w).1 0 out) M0)) (sn n (wb6 g b il 1 w).1)) args s 19 598 (me_A z0)) (F0 m 105 ls []) := by
    intro r
    refine Nat.strongRecOn r ?_
    intro r ih_105 i out1 H locs ls hk hq hM hl
    refine lv_iload hx hb dX7_writeBorrower_105 (lv_at hl 2 rfl) ?_
    refine lv_aload_n hx hb dX7_writeBorrower_107 rfl (lv_at hl 0 rfl) ?_
    refine fg_X7_42 hC hM ((sbT_out (by omega)).trans (bq_at h_b)) rfl dX7_writeBorrower_108 ?_
    refine lv_icmp_ge (tgt := 134) hx hb dX7_writeBorrower_111 (by decide) (fun c_1 => ?_) (fun c_1 => ?_)
    · have c_1 := (br_le (upd_s _ _ _) rfl (by omega) (by omega)).mp c_1
      have hM := sbT_sub hM (wb_fr hfr)
      refine lv_aload_n hx hb dX7_writeBorrower_134 rfl (lv_at hl 0 rfl) ?_
      refine fg_X7_42 hC hM (bq_at h_b) rfl dX7_writeBorrower_135 ?_
      exact me_iret hC hr hlk hM (rfl) (by rw [hq, show r = 0 by omega]; rfl) (rfl) dX7_writeBorrower_138
    · have c_1 := (not_congr (br_le (upd_s _ _ _) rfl (by omega) (by omega))).mp c_1
      obtain ⟨r1, rfl⟩ : ∃ r1, r = r1 + 1 := ⟨r - 1, by omega⟩
      refine lv_aload_n hx hb dX7_writeBorrower_114 rfl (lv_at hl 0 rfl) ?_
      refine fg_X7_39 hC hM ((sbT_out (by omega)).trans (bq_at h_b)) rfl dX7_writeBorrower_115 ?_
      refine lv_iload hx hb dX7_writeBorrower_118 (lv_at hl 2 rfl) ?_
      refine lv_aload_n hx hb dX7_writeBorrower_120 rfl (lv_at hl 1 rfl) ?_
      refine lv_iload hx hb dX7_writeBorrower_121 (lv_at hl 2 rfl) ?_
      obtain ⟨c9, hc9, hfi⟩ := w6.2.2 i (by omega)
      refine me_callVi (As := [.int (nI i)]) (rest := [.int (nI i), .ref (bo + 721)]) hC hl.1 hM (c_J4_charAt_5068e l D tb X z0 (sn n (wb6 g b il 1 w).1) kK kV n (sv n ((wb6 g b il 1 w).1)) (sc ((wb6 g b il 1 w).1)) ((wb6 g b il 1 w).1) (tx ((wb6 g b il 1 w).1) ((wb6 g b il 1 w).2)) (sp tb (bo + 722) g (bq tb bo G (upd F 1 (nI (wb6 g b il 1 w).1)) sf inp out1 M0)) i c9 hKS (sv_in n _).1 (by omega) ((sc_in _).2 (by omega)) (sc_in _).1 hc9 ((tx_at (by omega)).trans hfi)) (kv_X7_353 hw rfl rfl ⟨Nat.le_of_ble_eq_true rfl, Nat.le_of_ble_eq_true rfl⟩) rfl rfl sbT_o rfl (Nat.le_of_ble_eq_true rfl) dX7_writeBorrower_123 ⟨Nat.le_of_ble_eq_true rfl, Nat.le_of_ble_eq_true rfl⟩ (fun H locs hM => ?_)
      refine lv_i2b (v := (nI c9).toInt8.toInt32) hx hb dX7_writeBorrower_126 rfl ?_
      refine me_bast (k := i) (M2 := sbT tb (sp tb (bo + 722) g (bq tb bo G (upd F 1 (nI (wb6 g b il 1 w).1)) sf inp (upd out1 i (vp_nar .byte ((nI c9).toInt8.toInt32))) M0)) n ((wb6 g b il 1 w).1) ((wb6 g b il 1 w).2)) hC hM ((sbT_out (by omega)).trans (bq_at h_ou)) rfl (by omega) (by first | decide | omega) ((sbT_up (by omega)).trans (congrArg (fun Z => sbT tb Z n ((wb6 g b il 1 w).1) ((wb6 g b il 1 w).2)) bq_wou)) dX7_writeBorrower_127 (fun H locs hM => ?_)
      refine lv_iinc (v := nI (i + 1)) (lv' := [(4, .int (nI (i + 1))), (0, .ref bo), (3, .ref n)]) hx hb dX7_writeBorrower_128 hl (k := 2) rfl (nx_add rfl rfl) (by decide) rfl (fun ls hl => ?_)
      refine lv_goto (tgt := 105) hx hb dX7_writeBorrower_131 (by decide) ?_
      exact ih_105 r1 (by omega) (i + 1) (otS (wb6 g b il 1 w).2 i out1) _ _ _ (by omega) hq (hM.eq (by rw [pk_vb, show (nI c9).toInt8.toInt32 = (wb6 g b il 1 w).2 i from hfi.symm]; rfl)) (lv_sub hl [1, 2, 0] rfl)
  exact lp_105 ((wb6 g b il 1 w).1) 0 out _ _ _ (by omega) rfl hM (lv_sub hl [3, 1, 0] rfl)
set_option maxHeartbeats 4000000 in
theorem c_X7_writeBorrower_x1 (l : Launch) (D : va_G) (tb : Nat → ClassId) (X : State → Prop) (z0 n : Nat) (bo : Nat) (g : Nat → Int32) (G : Nat → Nat → Int32) (F sf inp out : Nat → Int32) (M0 : me_M) (S B L P : Nat) (x : Int32)  (hfl : l.stackTraces = false) (hXs : ∀ U, X U → me_xs z0 U) (hbad : x < 0 ∨ g 4 ≤ x) : vx_Met l yX7_writeBorrower (.code yX7_writeBorrower cX7_writeBorrower 5 (some .int) :: ws_all) ({ frames := 7, cells := 1, slots := 6, locals := 111 } : Room) (me_Pc [.ref bo, .int x] D tb X z0 (sp tb (bo + 722) g (bq tb bo G F sf inp out M0)) n) me_no (me_XC D z0 (sp tb (bo + 722) g (bq tb bo G F sf inp out M0)) "java/lang/IndexOutOfBoundsException") 1 6 (me_A z0) := by
  refine me_openX (by decide) (Nat.le_of_ble_eq_true rfl) ?_
  intro p e s m args below meth c ls hC ht hlk hM hl
  have hl : lv_has ls 5 [(0, .ref bo), (1, .int x)] := hl
  have hx := hC.1
  have hb := hC.2.1
  have hw := hC.2.2.2.2.1
  refine lv_aload_n hx hb dX7_writeBorrower_0 rfl (lv_at hl 0 rfl) ?_
  refine lv_iload_n hx hb dX7_writeBorrower_1 rfl (lv_at hl 1 rfl) ?_
  exact me_xV (As := [.int x]) (rest := []) hC hl.1 hM (c_X7_needBorrower_x l D tb X z0 n bo g G F sf inp out M0 S B L P x hfl hXs hbad) (kv_X7_167 hw rfl rfl ⟨Nat.le_of_ble_eq_true rfl, Nat.le_of_ble_eq_true rfl⟩) rfl rfl (bq_at h_b) rfl (Nat.le_of_ble_eq_true rfl) dX7_writeBorrower_2 ⟨Nat.le_of_ble_eq_true rfl, Nat.le_of_ble_eq_true rfl⟩ ht hlk (Nat.le_of_ble_eq_true rfl) (Nat.le_of_ble_eq_true rfl)
