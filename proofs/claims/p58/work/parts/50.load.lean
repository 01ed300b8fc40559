set_option maxHeartbeats 4000000 in
theorem c_X3_init (l : Launch) (D : va_G) (tb : Nat → ClassId) (X : State → Prop) (z0 n : Nat) (M : me_M) (q ta len sd : Nat)  (he : M q = some (.inr (3, [.null, .int 0, .null, .int 0, .int 0, .int 0, .int 0, .int 0]))) : Met l yX3_init (.code yX3_init cX3_init 4 none :: ws_all) ({ frames := 1, cells := 0, slots := 0, locals := 20 } : Room) (me_Pc [.ref q, .ref ta, .int (nI len), .ref sd] D tb X z0 (M) n) (me_Qv D z0 (me_up M q (.inr (3, ps_fs ta len sd ldp))) n) 0 0 (me_A z0) := by
  refine me_open (by decide) (Nat.le_of_ble_eq_true rfl) ?_
  intro p e s m args below meth c ls hC hr hlk hnm hM hl
  have hl : lv_has ls 4 [(0, .ref q), (1, .ref ta), (2, .int (nI len)), (3, .ref sd)] := hl
  have hx := hC.1
  have hb := hC.2.1
  have hw := hC.2.2.2.2.1
  refine lv_aload_n hx hb dX3_init_0 rfl (lv_at hl 0 rfl) ?_
  refine W.objInit hx hb hC.2.2.2.1 (hw _ w_302) (hw _ w_32) (hw _ w_33) rfl (by rw [hC.2.2.1]; exact hl.1) rfl dX3_init_1 (Nat.le_of_ble_eq_true rfl) (Nat.le_of_ble_eq_true rfl) ?_
  refine W.eq (g2 := F0 m 4 ls []) rfl ?_
  refine lv_aload_n hx hb dX3_init_4 rfl (lv_at hl 0 rfl) ?_
  refine lv_iconst (v := 0) hx hb dX3_init_5 (by decide) ?_
  refine fp_X3_9 hC hM he (Nat.le_of_ble_eq_true rfl) (M2 := me_up M q (.inr (3, [.null, .int 0, .null, .int 0, .int 0, .int 0, .int 0, .int 0]))) rfl dX3_init_6 (fun H locs hM => ?_)
  refine lv_aload_n hx hb dX3_init_9 rfl (lv_at hl 0 rfl) ?_
  refine lv_iconst (v := 0) hx hb dX3_init_10 (by decide) ?_
  refine fp_X3_15 hC hM (me_up_s _ _ _) (Nat.le_of_ble_eq_true rfl) (M2 := me_up M q (.inr (3, [.null, .int 0, .null, .int 0, .int 0, .int 0, .int 0, .int 0]))) (me_up_up _ _ _ _) dX3_init_11 (fun H locs hM => ?_)
  refine lv_aload_n hx hb dX3_init_14 rfl (lv_at hl 0 rfl) ?_
  refine lv_iconst (v := 0) hx hb dX3_init_15 (by decide) ?_
  refine fp_X3_18 hC hM (me_up_s _ _ _) (Nat.le_of_ble_eq_true rfl) (M2 := me_up M q (.inr (3, [.null, .int 0, .null, .int 0, .int 0, .int 0, .int 0, .int 0]))) (me_up_up _ _ _ _) dX3_init_16 (fun H locs hM => ?_)
  refine lv_aload_n hx hb dX3_init_19 rfl (lv_at hl 0 rfl) ?_
  refine lv_iconst (v := 0) hx hb dX3_init_20 (by decide) ?_
  refine fp_X3_21 hC hM (me_up_s _ _ _) (Nat.le_of_ble_eq_true rfl) (M2 := me_up M q (.inr (3, [.null, .int 0, .null, .int 0, .int 0, .int 0, .int 0, .int 0]))) (me_up_up _ _ _ _) dX3_init_21 (fun H locs hM => ?_)
  refine lv_aload_n hx hb dX3_init_24 rfl (lv_at hl 0 rfl) ?_
  refine lv_iconst (v := (-1)) hx hb dX3_init_25 (by decide) ?_
  refine fp_X3_24 hC hM (me_up_s _ _ _) (Nat.le_of_ble_eq_true rfl) (M2 := me_up M q (.inr (3, [.null, .int 0, .null, .int 0, .int 0, .int 0, .int 0, .int (-1)]))) (me_up_up _ _ _ _) dX3_init_26 (fun H locs hM => ?_)
  refine lv_aload_n hx hb dX3_init_29 rfl (lv_at hl 0 rfl) ?_
  refine lv_aload_n hx hb dX3_init_30 rfl (lv_at hl 1 rfl) ?_
  refine fp_X3_27 hC hM hnm (me_up_s _ _ _) (Nat.le_of_ble_eq_true rfl) (M2 := me_up M q (.inr (3, [.ref ta, .int 0, .null, .int 0, .int 0, .int 0, .int 0, .int (-1)]))) (me_up_up _ _ _ _) dX3_init_31 (fun H locs hM => ?_)
  refine lv_aload_n hx hb dX3_init_34 rfl (lv_at hl 0 rfl) ?_
  refine lv_iload_n hx hb dX3_init_35 rfl (lv_at hl 2 rfl) ?_
  refine fp_X3_31 hC hM hnm (me_up_s _ _ _) (Nat.le_of_ble_eq_true rfl) (M2 := me_up M q (.inr (3, [.ref ta, .int (nI len), .null, .int 0, .int 0, .int 0, .int 0, .int (-1)]))) (me_up_up _ _ _ _) dX3_init_36 (fun H locs hM => ?_)
  refine lv_aload_n hx hb dX3_init_39 rfl (lv_at hl 0 rfl) ?_
  refine lv_aload_n hx hb dX3_init_40 rfl (lv_at hl 3 rfl) ?_
  refine fp_X3_34 hC hM hnm (me_up_s _ _ _) (Nat.le_of_ble_eq_true rfl) (M2 := me_up M q (.inr (3, [.ref ta, .int (nI len), .ref sd, .int 0, .int 0, .int 0, .int 0, .int (-1)]))) (me_up_up _ _ _ _) dX3_init_41 (fun H locs hM => ?_)
  exact me_vret hC hr hlk hM (rfl) (rfl) dX3_init_44
set_option maxHeartbeats 4000000 in
theorem c_X7_load (l : Launch) (D : va_G) (tb : Nat → ClassId) (X : State → Prop) (z0 n : Nat) (bo : Nat) (g : Nat → Int32) (G : Nat → Nat → Int32) (F sf inp out : Nat → Int32) (M0 : me_M) (hN : ∀ U, X U → me_nest U) (kK kV : Nat → Nat) (len il : Nat)  (hKS : ∀ U, X U → me_ks kK kV z0 U) (hil : F 0 = nI il) (hil0 : il ≤ 700) (hbn : bo + 919 ≤ n) (hlen : len ≤ il) (hek : pEk (rp (ldF inp len (G 0))) = 0) : Met l yX7_load (.code yX7_load cX7_load 4 (some .int) :: ws_all) ({ frames := 6, cells := 1, slots := 8, locals := 137 } : Room) (me_Pc [.ref bo, .int (nI len)] D tb X z0 (sp tb (bo + 722) g (bq tb bo G F sf inp out M0)) n) (me_Qi D z0 ((cpF (rG (ldF inp len (G 0))) (rS (ldF inp len (G 0))) (rB (ldF inp len (G 0))) (rL (ldF inp len (G 0))) (rP (ldF inp len (G 0))) g) 6) (sp tb (bo + 722) (cpF (rG (ldF inp len (G 0))) (rS (ldF inp len (G 0))) (rB (ldF inp len (G 0))) (rL (ldF inp len (G 0))) (rP (ldF inp len (G 0))) g) (bq tb bo (updG G 0 (rG (ldF inp len (G 0)))) (upd (upd (upd (upd F 0 0) 2 (nI (pEk (rp (ldF inp len (G 0)))))) 3 (pEo (rp (ldF inp len (G 0))))) 5 0) (upd (upd sf 0 (vp_nar .boolean 0)) 1 (vp_nar .boolean 0)) inp out (me_up M0 n (.inr (3, ps_fs (bo + 720) len (bo + 1) (rp (ldF inp len (G 0)))))))) (n + 1)) 1 8 (me_A z0) := by
  refine me_open (by decide) (Nat.le_of_ble_eq_true rfl) ?_
  intro p e s m args below meth c ls hC hr hlk hnm hM hl
  have hl : lv_has ls 4 [(0, .ref bo), (1, .int (nI len))] := hl
  have hx := hC.1
  have hb := hC.2.1
  have hw := hC.2.2.2.2.1
  refine lv_iload_n hx hb dX7_load_0 rfl (lv_at hl 1 rfl) ?_
  refine lv_if_lt (tgt := 12) hx hb dX7_load_1 (by decide) (fun c_1 => ?_) (fun c_1 => ?_)
  · have c_1 := (br_lt rfl (show (0 : Int32) = nI 0 from rfl) (by omega) (by omega)).mp c_1
    first | (exfalso; omega) | exact absurd hek c_1
  · have c_1 := (not_congr (br_lt rfl (show (0 : Int32) = nI 0 from rfl) (by omega) (by omega))).mp c_1
    refine lv_iload_n hx hb dX7_load_4 rfl (lv_at hl 1 rfl) ?_
    refine lv_aload_n hx hb dX7_load_5 rfl (lv_at hl 0 rfl) ?_
    refine fg_X7_35 hC hM (bq_at h_b) rfl dX7_load_6 ?_
    refine lv_icmp_le (tgt := 22) hx hb dX7_load_9 (by decide) (fun c_2 => ?_) (fun c_2 => ?_)
    · have c_2 := (br_le rfl hil (by omega) (by omega)).mp c_2
      refine lv_aload_n hx hb dX7_load_22 rfl (lv_at hl 0 rfl) ?_
      refine fg_X7_10 hC hM (bq_at h_b) rfl dX7_load_23 ?_
      have hM := hM.eq (sp_absorb bq_dO)
      refine me_callVv (As := []) (rest := []) hC hl.1 hM (c_X5_clear l D tb X z0 n (bo + 1) (G 0) (sp tb (bo + 722) g (bq tb bo G F sf inp out M0))) (kv_X7_90 hw rfl rfl ⟨Nat.le_of_ble_eq_true rfl, Nat.le_of_ble_eq_true rfl⟩) rfl rfl (sp_st _ _ _ _) rfl (Nat.le_of_ble_eq_true rfl) dX7_load_26 ⟨Nat.le_of_ble_eq_true rfl, Nat.le_of_ble_eq_true rfl⟩ (fun H locs hM => ?_)
      have hM := hM.eq bq_dset
      refine me_new (C := RX3) (T := TX3) (N := 8) (ci := 3) (fs := [.null, .int 0, .null, .int 0, .int 0, .int 0, .int 0, .int 0]) (M2 := sp tb (bo + 722) g (bq tb bo (updG G 0 (clF (G 0))) F sf inp out (me_up M0 n (.inr (3, [.null, .int 0, .null, .int 0, .int 0, .int 0, .int 0, .int 0]))))) hC hM in_X3 tyX3 tyX3_ok w_245 w_246 w_8 rfl (fun j hj => by rcases (show j = 0 ∨ j = 1 ∨ j = 2 ∨ j = 3 ∨ j = 4 ∨ j = 5 ∨ j = 6 ∨ j = 7 by omega) with rfl | rfl | rfl | rfl | rfl | rfl | rfl | rfl <;> rfl) (Nat.le_of_ble_eq_true rfl) (Nat.le_of_ble_eq_true rfl) (bq_new (by omega)) dX7_load_29 (fun H hM => ?_)
      refine lv_dup hx hb dX7_load_32 rfl ?_
      refine lv_aload_n hx hb dX7_load_33 rfl (lv_at hl 0 rfl) ?_
      refine fg_X7_31 hC hM (bq_at h_b) rfl dX7_load_34 ?_
      refine lv_iload_n hx hb dX7_load_37 rfl (lv_at hl 1 rfl) ?_
      refine lv_aload_n hx hb dX7_load_38 rfl (lv_at hl 0 rfl) ?_
      refine fg_X7_10 hC hM (bq_at h_b) rfl dX7_load_39 ?_
      refine me_callIv (As := [.ref (bo + 720), .int (nI len), .ref (bo + 1)]) (rest := [.ref n]) hC hl.1 hM (c_X3_init l D tb X z0 (n + 1) _ n (bo + 720) len (bo + 1) ((bq_nw (by omega)).trans (me_up_s _ _ _))) (ki_X7_65 hw rfl rfl ⟨Nat.le_of_ble_eq_true rfl, Nat.le_of_ble_eq_true rfl⟩) rfl rfl (Nat.le_of_ble_eq_true rfl) dX7_load_42 ⟨Nat.le_of_ble_eq_true rfl, Nat.le_of_ble_eq_true rfl⟩ (fun H locs hM => ?_)
      have hM := hM.eq (bq_upo (by omega))
      refine lv_astore_n (lv' := [(2, .ref n), (0, .ref bo), (1, .int (nI len))]) hx hb dX7_load_45 rfl hl (by decide) rfl (fun ls hl => ?_)
      refine lv_aload_n hx hb dX7_load_46 rfl (lv_at hl 0 rfl) ?_
      have hM := hM.eq (bq_pi (by omega))
      refine me_callVv (As := []) (rest := []) hC hl.1 hM (d_X3_parse l D tb X z0 (n + 1) kK kV (bo + 1) n (bo + 720) 700 len inp (sp tb (bo + 722) g (bq tb bo (updG G 0 (clF (G 0))) F sf inp out M0)) (ldx (G 0)) hKS hN (bq_pE (by omega) (by omega)) (ok_ldx _ _)) (kv_X7_68 hw rfl rfl ⟨Nat.le_of_ble_eq_true rfl, Nat.le_of_ble_eq_true rfl⟩) rfl rfl ((sp_out (by omega)).trans (me_up_s _ _ _)) rfl (Nat.le_of_ble_eq_true rfl) dX7_load_47 ⟨Nat.le_of_ble_eq_true rfl, Nat.le_of_ble_eq_true rfl⟩ (fun H locs hM => ?_)
      have hM := hM.eq (bq_po (by omega))
      have hY := ok_ldF inp len (G 0)
      obtain ⟨y1, y2, y3, y4⟩ := id hY.2.2
      refine lv_aload_n hx hb dX7_load_50 rfl (lv_at hl 1 rfl) ?_
      refine lv_iconst (v := 0) hx hb dX7_load_51 (by decide) ?_
      refine fp_X7_35 hC hM (bq_at h_b) (Nat.le_of_ble_eq_true rfl) (M2 := sp tb (bo + 722) g (bq tb bo (updG G 0 (rG (ldF inp len (G 0)))) (upd F 0 0) sf inp out (me_up M0 n (.inr (3, ps_fs (bo + 720) len (bo + 1) (rp (ldF inp len (G 0)))))))) (bq_wb (i := 0) (by omega) (by simp [upd])) dX7_load_52 (fun H locs hM => ?_)
      refine lv_aload_n hx hb dX7_load_55 rfl (lv_at hl 1 rfl) ?_
      refine lv_aload_n hx hb dX7_load_56 rfl (lv_at hl 0 rfl) ?_
      refine fg_X7_93 hC hM ((bq_nw (by omega)).trans (me_up_s _ _ _)) rfl dX7_load_57 ?_
      refine fp_X7_45 hC hM (bq_at h_b) (Nat.le_of_ble_eq_true rfl) (M2 := sp tb (bo + 722) g (bq tb bo (updG G 0 (rG (ldF inp len (G 0)))) (upd (upd F 0 0) 2 (nI (pEk (rp (ldF inp len (G 0)))))) sf inp out (me_up M0 n (.inr (3, ps_fs (bo + 720) len (bo + 1) (rp (ldF inp len (G 0)))))))) (bq_wb (i := 2) (by omega) (by simp [upd])) dX7_load_60 (fun H locs hM => ?_)
      refine lv_aload_n hx hb dX7_load_63 rfl (lv_at hl 1 rfl) ?_
      refine lv_aload_n hx hb dX7_load_64 rfl (lv_at hl 0 rfl) ?_
      refine fg_X7_96 hC hM ((bq_nw (by omega)).trans (me_up_s _ _ _)) rfl dX7_load_65 ?_
      refine fp_X7_48 hC hM (bq_at h_b) (Nat.le_of_ble_eq_true rfl) (M2 := sp tb (bo + 722) g (bq tb bo (updG G 0 (rG (ldF inp len (G 0)))) (upd (upd (upd F 0 0) 2 (nI (pEk (rp (ldF inp len (G 0)))))) 3 (pEo (rp (ldF inp len (G 0))))) sf inp out (me_up M0 n (.inr (3, ps_fs (bo + 720) len (bo + 1) (rp (ldF inp len (G 0)))))))) (bq_wb (i := 3) (by omega) (by simp [upd])) dX7_load_68 (fun H locs hM => ?_)
      refine lv_aload_n hx hb dX7_load_71 rfl (lv_at hl 1 rfl) ?_
      refine fg_X7_45 hC hM (bq_at h_b) rfl dX7_load_72 ?_
      refine me_evi (y := nI (pEk (rp (ldF inp len (G 0))))) ((upd_n (by omega)).trans (upd_s _ _ _)) ?_
      refine lv_if_eq (tgt := 88) hx hb dX7_load_75 (by decide) (fun c_3 => ?_) (fun c_3 => ?_)
      · have c_3 := (br_eq rfl (show (0 : Int32) = nI 0 from rfl) (by omega) (by omega)).mp c_3
        refine lv_aload_n hx hb dX7_load_88 rfl (lv_at hl 1 rfl) ?_
        refine fg_X7_71 hC hM (bq_at h_b) rfl dX7_load_89 ?_
        refine lv_aload_n hx hb dX7_load_92 rfl (lv_at hl 1 rfl) ?_
        refine fg_X7_10 hC hM (bq_at h_b) rfl dX7_load_93 ?_
        have hO9 : oth tb (bo + 1) (rG (ldF inp len (G 0))) (bq tb bo (updG G 0 (rG (ldF inp len (G 0)))) (upd (upd (upd F 0 0) 2 (nI (pEk (rp (ldF inp len (G 0)))))) 3 (pEo (rp (ldF inp len (G 0))))) sf inp out (me_up M0 n (.inr (3, ps_fs (bo + 720) len (bo + 1) (rp (ldF inp len (G 0))))))) := by have h := bq_dO0 (tb := tb) (bo := bo) (G := updG G 0 (rG (ldF inp len (G 0)))) (F := upd (upd (upd F 0 0) 2 (nI (pEk (rp (ldF inp len (G 0)))))) 3 (pEo (rp (ldF inp len (G 0))))) (sf := sf) (inp := inp) (out := out) (M0 := me_up M0 n (.inr (3, ps_fs (bo + 720) len (bo + 1) (rp (ldF inp len (G 0)))))); rw [updG_s] at h; exact h
        refine me_callVv (As := [.ref (bo + 1)]) (rest := []) hC hl.1 hM (c_X5_copyFrom l D tb X z0 (n + 1) (bo + 722) (bo + 1) g (rG (ldF inp len (G 0))) (bq tb bo (updG G 0 (rG (ldF inp len (G 0)))) (upd (upd (upd F 0 0) 2 (nI (pEk (rp (ldF inp len (G 0)))))) 3 (pEo (rp (ldF inp len (G 0))))) sf inp out (me_up M0 n (.inr (3, ps_fs (bo + 720) len (bo + 1) (rp (ldF inp len (G 0))))))) (rS (ldF inp len (G 0))) (rB (ldF inp len (G 0))) (rL (ldF inp len (G 0))) (rP (ldF inp len (G 0))) hY.1 hO9 (by omega)) (kv_X7_104 hw rfl rfl ⟨Nat.le_of_ble_eq_true rfl, Nat.le_of_ble_eq_true rfl⟩) rfl rfl (sp_st _ _ _ _) rfl (Nat.le_of_ble_eq_true rfl) dX7_load_96 ⟨Nat.le_of_ble_eq_true rfl, Nat.le_of_ble_eq_true rfl⟩ (fun H locs hM => ?_)
        refine lv_aload_n hx hb dX7_load_99 rfl (lv_at hl 1 rfl) ?_
        refine fg_X7_19 hC hM (bq_at h_b) rfl dX7_load_100 ?_
        refine me_callVv (As := []) (rest := []) hC hl.1 hM (c_X1_forget l D tb X z0 (n + 1) bo (cpF (rG (ldF inp len (G 0))) (rS (ldF inp len (G 0))) (rB (ldF inp len (G 0))) (rL (ldF inp len (G 0))) (rP (ldF inp len (G 0))) g) (updG G 0 (rG (ldF inp len (G 0)))) (upd (upd (upd F 0 0) 2 (nI (pEk (rp (ldF inp len (G 0)))))) 3 (pEo (rp (ldF inp len (G 0))))) sf inp out (me_up M0 n (.inr (3, ps_fs (bo + 720) len (bo + 1) (rp (ldF inp len (G 0)))))) 0 0 0 0) (kv_X7_108 hw rfl rfl ⟨Nat.le_of_ble_eq_true rfl, Nat.le_of_ble_eq_true rfl⟩) rfl rfl (bq_at h_h) rfl (Nat.le_of_ble_eq_true rfl) dX7_load_103 ⟨Nat.le_of_ble_eq_true rfl, Nat.le_of_ble_eq_true rfl⟩ (fun H locs hM => ?_)
        refine lv_iconst (v := 0) hx hb dX7_load_106 (by decide) ?_
        refine lv_istore_n (lv' := [(3, .int 0), (2, .ref n), (0, .ref bo), (1, .int (nI len))]) hx hb dX7_load_107 rfl hl (by decide) rfl (fun ls hl => ?_)
        refine lv_iload_n hx hb dX7_load_108 rfl (lv_at hl 0 rfl) ?_
        refine lv_iconst (v := 2) hx hb dX7_load_109 (by decide) ?_
        refine lv_icmp_ge (tgt := 126) hx hb dX7_load_110 (by decide) (fun c_4 => ?_) (fun c_4 => ?_)
        · exact absurd c_4 (by decide)
        · have c_4q := c_4
          have c_4 := Int32.not_le.mp c_4
          refine lv_aload_n hx hb dX7_load_113 rfl (lv_at hl 2 rfl) ?_
          refine fg_X7_27 hC hM (bq_at h_b) rfl dX7_load_114 ?_
          refine lv_iload_n hx hb dX7_load_117 rfl (lv_at hl 0 rfl) ?_
          refine lv_iconst (v := 0) hx hb dX7_load_118 (by decide) ?_
          refine me_zast (k := 0) (M2 := sp tb (bo + 722) (cpF (rG (ldF inp len (G 0))) (rS (ldF inp len (G 0))) (rB (ldF inp len (G 0))) (rL (ldF inp len (G 0))) (rP (ldF inp len (G 0))) g) (bq tb bo (updG G 0 (rG (ldF inp len (G 0)))) (upd (upd (upd (upd F 0 0) 2 (nI (pEk (rp (ldF inp len (G 0)))))) 3 (pEo (rp (ldF inp len (G 0))))) 5 0) (upd sf 0 (vp_nar .boolean 0)) inp out (me_up M0 n (.inr (3, ps_fs (bo + 720) len (bo + 1) (rp (ldF inp len (G 0)))))))) hC hM (bq_at h_sf) (show (0 : Int32) = nI 0 from rfl) (by omega) (by first | decide | omega) bq_wsf dX7_load_119 (fun H locs hM => ?_)
          refine lv_iinc (v := 1) (lv' := [(3, .int 1), (2, .ref n), (0, .ref bo), (1, .int (nI len))]) hx hb dX7_load_120 hl (k := 0) rfl (by decide) (by decide) rfl (fun ls hl => ?_)
          refine lv_goto (tgt := 108) hx hb dX7_load_123 (by decide) ?_
          refine lv_iload_n hx hb dX7_load_108 rfl (lv_at hl 0 rfl) ?_
          refine lv_iconst (v := 2) hx hb dX7_load_109 (by decide) ?_
          refine lv_icmp_ge (tgt := 126) hx hb dX7_load_110 (by decide) (fun c_5 => ?_) (fun c_5 => ?_)
          · exact absurd c_5 (by decide)
          · have c_5q := c_5
            have c_5 := Int32.not_le.mp c_5
            refine lv_aload_n hx hb dX7_load_113 rfl (lv_at hl 2 rfl) ?_
            refine fg_X7_27 hC hM (bq_at h_b) rfl dX7_load_114 ?_
            refine lv_iload_n hx hb dX7_load_117 rfl (lv_at hl 0 rfl) ?_
            refine lv_iconst (v := 0) hx hb dX7_load_118 (by decide) ?_
            refine me_zast (k := 1) (M2 := sp tb (bo + 722) (cpF (rG (ldF inp len (G 0))) (rS (ldF inp len (G 0))) (rB (ldF inp len (G 0))) (rL (ldF inp len (G 0))) (rP (ldF inp len (G 0))) g) (bq tb bo (updG G 0 (rG (ldF inp len (G 0)))) (upd (upd (upd (upd F 0 0) 2 (nI (pEk (rp (ldF inp len (G 0)))))) 3 (pEo (rp (ldF inp len (G 0))))) 5 0) (upd (upd sf 0 (vp_nar .boolean 0)) 1 (vp_nar .boolean 0)) inp out (me_up M0 n (.inr (3, ps_fs (bo + 720) len (bo + 1) (rp (ldF inp len (G 0)))))))) hC hM (bq_at h_sf) (show (1 : Int32) = nI 1 from rfl) (by omega) (by first | decide | omega) bq_wsf dX7_load_119 (fun H locs hM => ?_)
            refine lv_iinc (v := 2) (lv' := [(3, .int 2), (2, .ref n), (0, .ref bo), (1, .int (nI len))]) hx hb dX7_load_120 hl (k := 0) rfl (by decide) (by decide) rfl (fun ls hl => ?_)
            refine lv_goto (tgt := 108) hx hb dX7_load_123 (by decide) ?_
            refine lv_iload_n hx hb dX7_load_108 rfl (lv_at hl 0 rfl) ?_
            refine lv_iconst (v := 2) hx hb dX7_load_109 (by decide) ?_
            refine lv_icmp_ge (tgt := 126) hx hb dX7_load_110 (by decide) (fun c_6 => ?_) (fun c_6 => ?_)
            · have c_6q := c_6
              have c_6 := Int32.not_lt.mpr c_6
              refine lv_aload_n hx hb dX7_load_126 rfl (lv_at hl 2 rfl) ?_
              refine fg_X7_71 hC hM (bq_at h_b) rfl dX7_load_127 ?_
              refine fg_X7_111 hC hM (sp_st _ _ _ _) rfl dX7_load_130 ?_
              exact me_iret hC hr hlk hM (rfl) (rfl) (rfl) dX7_load_133
            · exact absurd c_6 (by decide)
      · have c_3 := (not_congr (br_eq rfl (show (0 : Int32) = nI 0 from rfl) (by omega) (by omega))).mp c_3
        first | (exfalso; omega) | exact absurd hek c_3
    · have c_2 := (not_congr (br_le rfl hil (by omega) (by omega))).mp c_2
      first | (exfalso; omega) | exact absurd hek c_2
set_option maxHeartbeats 4000000 in
theorem c_X7_load_x1 (l : Launch) (D : va_G) (tb : Nat → ClassId) (X : State → Prop) (z0 n : Nat) (bo : Nat) (g : Nat → Int32) (G : Nat → Nat → Int32) (F sf inp out : Nat → Int32) (M0 : me_M) (x : Int32)  (hfl : l.stackTraces = false) (hXs : ∀ U, X U → me_xs z0 U) (hbad : x < 0 ∨ F 0 < x) : vx_Met l yX7_load (.code yX7_load cX7_load 4 (some .int) :: ws_all) ({ frames := 6, cells := 1, slots := 6, locals := 90 } : Room) (me_Pc [.ref bo, .int x] D tb X z0 (sp tb (bo + 722) g (bq tb bo G F sf inp out M0)) n) me_no (me_XC D z0 (sp tb (bo + 722) g (bq tb bo G F sf inp out M0)) "java/lang/IndexOutOfBoundsException") 1 6 (me_A z0) := by
  refine me_openX (by decide) (Nat.le_of_ble_eq_true rfl) ?_
  intro p e s m args below meth c ls hC ht hlk hM hl
  have hl : lv_has ls 4 [(0, .ref bo), (1, .int x)] := hl
  have hx := hC.1
  have hb := hC.2.1
  have hw := hC.2.2.2.2.1
  refine lv_iload_n hx hb dX7_load_0 rfl (lv_at hl 1 rfl) ?_
  refine lv_if_lt (tgt := 12) hx hb dX7_load_1 (by decide) (fun c_1 => ?_) (fun c_1 => ?_)
  · have c_1q := Int32.not_le.mpr c_1
    exact me_throw (ic := 89) hC hl.1 hM ht hlk (hXs s hC.2.2.2.2.2.1.2) hfl (by decide +kernel) xn_f w_577 w_25 xg_I xb_I xo_I (str_717) dX7_load_12 dX7_load_15 dX7_load_16 dX7_load_18 dX7_load_21 (Nat.le_of_ble_eq_true rfl) (Nat.le_of_ble_eq_true rfl) (Nat.le_of_ble_eq_true rfl) (Nat.le_of_ble_eq_true rfl) (Nat.le_of_ble_eq_true rfl) (Nat.le_of_ble_eq_true rfl)
  · have c_1q := Int32.not_lt.mp c_1
    refine lv_iload_n hx hb dX7_load_4 rfl (lv_at hl 1 rfl) ?_
    refine lv_aload_n hx hb dX7_load_5 rfl (lv_at hl 0 rfl) ?_
    refine fg_X7_35 hC hM (bq_at h_b) rfl dX7_load_6 ?_
    refine lv_icmp_le (tgt := 22) hx hb dX7_load_9 (by decide) (fun c_2 => ?_) (fun c_2 => ?_)
    · have c_2q := c_2
      have c_2 := Int32.not_lt.mpr c_2
      exact hbad.elim (fun h => absurd h c_1) (fun h => absurd h c_2)
    · have c_2q := c_2
      have c_2 := Int32.not_le.mp c_2
      exact me_throw (ic := 89) hC hl.1 hM ht hlk (hXs s hC.2.2.2.2.2.1.2) hfl (by decide +kernel) xn_f w_577 w_25 xg_I xb_I xo_I (str_717) dX7_load_12 dX7_load_15 dX7_load_16 dX7_load_18 dX7_load_21 (Nat.le_of_ble_eq_true rfl) (Nat.le_of_ble_eq_true rfl) (Nat.le_of_ble_eq_true rfl) (Nat.le_of_ble_eq_true rfl) (Nat.le_of_ble_eq_true rfl) (Nat.le_of_ble_eq_true rfl)
set_option maxHeartbeats 4000000 in
theorem c_X7_load_x2 (l : Launch) (D : va_G) (tb : Nat → ClassId) (X : State → Prop) (z0 n : Nat) (bo : Nat) (g : Nat → Int32) (G : Nat → Nat → Int32) (F sf inp out : Nat → Int32) (M0 : me_M) (hN : ∀ U, X U → me_nest U) (kK kV : Nat → Nat) (len il : Nat)  (hfl : l.stackTraces = false) (hXs : ∀ U, X U → me_xs z0 U) (hKS : ∀ U, X U → me_ks kK kV z0 U) (hil : F 0 = nI il) (hil0 : il ≤ 700) (hbn : bo + 919 ≤ n) (hlen : len ≤ il) (hek : ¬ pEk (rp (ldF inp len (G 0))) = 0) : vx_Met l yX7_load (.code yX7_load cX7_load 4 (some .int) :: ws_all) ({ frames := 6, cells := 2, slots := 14, locals := 137 } : Room) (me_Pc [.ref bo, .int (nI len)] D tb X z0 (sp tb (bo + 722) g (bq tb bo G F sf inp out M0)) n) me_no (me_XC D z0 (sp tb (bo + 722) g (bq tb bo (updG G 0 (rG (ldF inp len (G 0)))) (upd (upd (upd F 0 0) 2 (nI (pEk (rp (ldF inp len (G 0)))))) 3 (pEo (rp (ldF inp len (G 0))))) sf inp out (me_up M0 n (.inr (3, ps_fs (bo + 720) len (bo + 1) (rp (ldF inp len (G 0)))))))) "java/lang/IllegalArgumentException") 2 14 (me_A z0) := by
  refine me_openX (by decide) (Nat.le_of_ble_eq_true rfl) ?_
  intro p e s m args below meth c ls hC ht hlk hM hl
  have hl : lv_has ls 4 [(0, .ref bo), (1, .int (nI len))] := hl
  have hx := hC.1
  have hb := hC.2.1
  have hw := hC.2.2.2.2.1
  refine lv_iload_n hx hb dX7_load_0 rfl (lv_at hl 1 rfl) ?_
  refine lv_if_lt (tgt := 12) hx hb dX7_load_1 (by decide) (fun c_1 => ?_) (fun c_1 => ?_)
  · have c_1 := (br_lt rfl (show (0 : Int32) = nI 0 from rfl) (by omega) (by omega)).mp c_1
    exfalso; omega
  · have c_1 := (not_congr (br_lt rfl (show (0 : Int32) = nI 0 from rfl) (by omega) (by omega))).mp c_1
    refine lv_iload_n hx hb dX7_load_4 rfl (lv_at hl 1 rfl) ?_
    refine lv_aload_n hx hb dX7_load_5 rfl (lv_at hl 0 rfl) ?_
    refine fg_X7_35 hC hM (bq_at h_b) rfl dX7_load_6 ?_
    refine lv_icmp_le (tgt := 22) hx hb dX7_load_9 (by decide) (fun c_2 => ?_) (fun c_2 => ?_)
    · have c_2 := (br_le rfl hil (by omega) (by omega)).mp c_2
      refine lv_aload_n hx hb dX7_load_22 rfl (lv_at hl 0 rfl) ?_
      refine fg_X7_10 hC hM (bq_at h_b) rfl dX7_load_23 ?_
      have hM := hM.eq (sp_absorb bq_dO)
      refine me_callVv (As := []) (rest := []) hC hl.1 hM (c_X5_clear l D tb X z0 n (bo + 1) (G 0) (sp tb (bo + 722) g (bq tb bo G F sf inp out M0))) (kv_X7_90 hw rfl rfl ⟨Nat.le_of_ble_eq_true rfl, Nat.le_of_ble_eq_true rfl⟩) rfl rfl (sp_st _ _ _ _) rfl (Nat.le_of_ble_eq_true rfl) dX7_load_26 ⟨Nat.le_of_ble_eq_true rfl, Nat.le_of_ble_eq_true rfl⟩ (fun H locs hM => ?_)
      have hM := hM.eq bq_dset
      refine me_new (C := RX3) (T := TX3) (N := 8) (ci := 3) (fs := [.null, .int 0, .null, .int 0, .int 0, .int 0, .int 0, .int 0]) (M2 := sp tb (bo + 722) g (bq tb bo (updG G 0 (clF (G 0))) F sf inp out (me_up M0 n (.inr (3, [.null, .int 0, .null, .int 0, .int 0, .int 0, .int 0, .int 0]))))) hC hM in_X3 tyX3 tyX3_ok w_245 w_246 w_8 rfl (fun j hj => by rcases (show j = 0 ∨ j = 1 ∨ j = 2 ∨ j = 3 ∨ j = 4 ∨ j = 5 ∨ j = 6 ∨ j = 7 by omega) with rfl | rfl | rfl | rfl | rfl | rfl | rfl | rfl <;> rfl) (Nat.le_of_ble_eq_true rfl) (Nat.le_of_ble_eq_true rfl) (bq_new (by omega)) dX7_load_29 (fun H hM => ?_)
      refine lv_dup hx hb dX7_load_32 rfl ?_
      refine lv_aload_n hx hb dX7_load_33 rfl (lv_at hl 0 rfl) ?_
      refine fg_X7_31 hC hM (bq_at h_b) rfl dX7_load_34 ?_
      refine lv_iload_n hx hb dX7_load_37 rfl (lv_at hl 1 rfl) ?_
      refine lv_aload_n hx hb dX7_load_38 rfl (lv_at hl 0 rfl) ?_
      refine fg_X7_10 hC hM (bq_at h_b) rfl dX7_load_39 ?_
      refine me_callIv (As := [.ref (bo + 720), .int (nI len), .ref (bo + 1)]) (rest := [.ref n]) hC hl.1 hM (c_X3_init l D tb X z0 (n + 1) _ n (bo + 720) len (bo + 1) ((bq_nw (by omega)).trans (me_up_s _ _ _))) (ki_X7_65 hw rfl rfl ⟨Nat.le_of_ble_eq_true rfl, Nat.le_of_ble_eq_true rfl⟩) rfl rfl (Nat.le_of_ble_eq_true rfl) dX7_load_42 ⟨Nat.le_of_ble_eq_true rfl, Nat.le_of_ble_eq_true rfl⟩ (fun H locs hM => ?_)
      have hM := hM.eq (bq_upo (by omega))
      refine lv_astore_n (lv' := [(2, .ref n), (0, .ref bo), (1, .int (nI len))]) hx hb dX7_load_45 rfl hl (by decide) rfl (fun ls hl => ?_)
      refine lv_aload_n hx hb dX7_load_46 rfl (lv_at hl 0 rfl) ?_
      have hM := hM.eq (bq_pi (by omega))
      refine me_callVv (As := []) (rest := []) hC hl.1 hM (d_X3_parse l D tb X z0 (n + 1) kK kV (bo + 1) n (bo + 720) 700 len inp (sp tb (bo + 722) g (bq tb bo (updG G 0 (clF (G 0))) F sf inp out M0)) (ldx (G 0)) hKS hN (bq_pE (by omega) (by omega)) (ok_ldx _ _)) (kv_X7_68 hw rfl rfl ⟨Nat.le_of_ble_eq_true rfl, Nat.le_of_ble_eq_true rfl⟩) rfl rfl ((sp_out (by omega)).trans (me_up_s _ _ _)) rfl (Nat.le_of_ble_eq_true rfl) dX7_load_47 ⟨Nat.le_of_ble_eq_true rfl, Nat.le_of_ble_eq_true rfl⟩ (fun H locs hM => ?_)
      have hM := hM.eq (bq_po (by omega))
      have hY := ok_ldF inp len (G 0)
      obtain ⟨y1, y2, y3, y4⟩ := id hY.2.2
      refine lv_aload_n hx hb dX7_load_50 rfl (lv_at hl 1 rfl) ?_
      refine lv_iconst (v := 0) hx hb dX7_load_51 (by decide) ?_
      refine fp_X7_35 hC hM (bq_at h_b) (Nat.le_of_ble_eq_true rfl) (M2 := sp tb (bo + 722) g (bq tb bo (updG G 0 (rG (ldF inp len (G 0)))) (upd F 0 0) sf inp out (me_up M0 n (.inr (3, ps_fs (bo + 720) len (bo + 1) (rp (ldF inp len (G 0)))))))) (bq_wb (i := 0) (by omega) (by simp [upd])) dX7_load_52 (fun H locs hM => ?_)
      refine lv_aload_n hx hb dX7_load_55 rfl (lv_at hl 1 rfl) ?_
      refine lv_aload_n hx hb dX7_load_56 rfl (lv_at hl 0 rfl) ?_
      refine fg_X7_93 hC hM ((bq_nw (by omega)).trans (me_up_s _ _ _)) rfl dX7_load_57 ?_
      refine fp_X7_45 hC hM (bq_at h_b) (Nat.le_of_ble_eq_true rfl) (M2 := sp tb (bo + 722) g (bq tb bo (updG G 0 (rG (ldF inp len (G 0)))) (upd (upd F 0 0) 2 (nI (pEk (rp (ldF inp len (G 0)))))) sf inp out (me_up M0 n (.inr (3, ps_fs (bo + 720) len (bo + 1) (rp (ldF inp len (G 0)))))))) (bq_wb (i := 2) (by omega) (by simp [upd])) dX7_load_60 (fun H locs hM => ?_)
      refine lv_aload_n hx hb dX7_load_63 rfl (lv_at hl 1 rfl) ?_
      refine lv_aload_n hx hb dX7_load_64 rfl (lv_at hl 0 rfl) ?_
      refine fg_X7_96 hC hM ((bq_nw (by omega)).trans (me_up_s _ _ _)) rfl dX7_load_65 ?_
      refine fp_X7_48 hC hM (bq_at h_b) (Nat.le_of_ble_eq_true rfl) (M2 := sp tb (bo + 722) g (bq tb bo (updG G 0 (rG (ldF inp len (G 0)))) (upd (upd (upd F 0 0) 2 (nI (pEk (rp (ldF inp len (G 0)))))) 3 (pEo (rp (ldF inp len (G 0))))) sf inp out (me_up M0 n (.inr (3, ps_fs (bo + 720) len (bo + 1) (rp (ldF inp len (G 0)))))))) (bq_wb (i := 3) (by omega) (by simp [upd])) dX7_load_68 (fun H locs hM => ?_)
      refine lv_aload_n hx hb dX7_load_71 rfl (lv_at hl 1 rfl) ?_
      refine fg_X7_45 hC hM (bq_at h_b) rfl dX7_load_72 ?_
      refine me_evi (y := nI (pEk (rp (ldF inp len (G 0))))) ((upd_n (by omega)).trans (upd_s _ _ _)) ?_
      refine lv_if_eq (tgt := 88) hx hb dX7_load_75 (by decide) (fun c_3 => ?_) (fun c_3 => ?_)
      · have c_3 := (br_eq rfl (show (0 : Int32) = nI 0 from rfl) (by omega) (by omega)).mp c_3
        exact absurd c_3 hek
      · have c_3 := (not_congr (br_eq rfl (show (0 : Int32) = nI 0 from rfl) (by omega) (by omega))).mp c_3
        exact me_throw (ic := 103) hC hl.1 hM ht hlk (hXs s hC.2.2.2.2.2.1.2) hfl (by decide +kernel) xn_f w_722 w_23 xg_A xb_A xo_A (str_731) dX7_load_78 dX7_load_81 dX7_load_82 dX7_load_84 dX7_load_87 (Nat.le_of_ble_eq_true rfl) (Nat.le_of_ble_eq_true rfl) (Nat.le_of_ble_eq_true rfl) (Nat.le_of_ble_eq_true rfl) (Nat.le_of_ble_eq_true rfl) (Nat.le_of_ble_eq_true rfl)
    · have c_2 := (not_congr (br_le rfl hil (by omega) (by omega))).mp c_2
      exfalso; omega
