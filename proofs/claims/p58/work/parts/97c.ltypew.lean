theorem ch_lt {lt : List Nat} {len : Nat} (h : ∀ p, p < len → lt.getD p 0 < 128) (p : Nat) : chL lt len p < 256 := by
  unfold chL
  split
  · rename_i c
    have := h p c
    omega
  · omega
set_option maxHeartbeats 4000000 in
theorem c_L_type (l : Launch) (D : va_G) (tb : Nat → ClassId) (X : State → Prop) (z0 n : Nat) (bo : Nat) (g : Nat → Int32) (G : Nat → Nat → Int32) (F sf inp out : Nat → Int32) (M0 : me_M) (S B L P : Nat) (kK kV : Nat → Nat) (q len : Nat) (lt : List Nat) (tf : Nat → Int32)  (hW : wf g S B L P) (hKS : ∀ U, X U → me_ks kK kV z0 U) (hF0 : F 0 = 0) (hqb : bo + 919 ≤ q) (hq : M0 q = some (.inr (8, [.ref (q + 1), .int 0, .int 0, .int 0]))) (hv : M0 (q + 1) = some (.inl (tb 1, len, .inl tf))) (hlen : len ≤ 170) (hqn : q + 1 < n) (hfn : M0 n = none) (htf : ∀ p, p < len → tf p = sb_b (lt.getD p 0)) (hlt : ∀ p, p < len → lt.getD p 0 < 128) : Met l yL_type (.code yL_type cL_type 6 (some .int) :: ws_all) ({ frames := 4, cells := 1, slots := 5, locals := 85 } : Room) (me_Pc [.ref bo, .ref q] D tb X z0 (sp tb (bo + 722) g (bq tb bo G F sf inp out M0)) n) (me_Qp D z0 (fun r1 M1 => ∃ (inp2 : Nat → Int32) (m2 : Nat), r1 = nI len ∧ (∀ p, p < len → inp2 p = sb_b (lt.getD p 0)) ∧ len ≤ m2 ∧ m2 ≤ 700 ∧ M1 = sp tb (bo + 722) g (bq tb bo G (upd F 0 (nI m2)) sf inp2 out M0))) 1 5 (me_A z0) := by
  refine me_open (by decide) (Nat.le_of_ble_eq_true rfl) ?_
  intro p e s m args below meth c ls hC hr hlk hnm hM hl
  have hl : lv_has ls 6 [(0, .ref bo), (1, .ref q)] := hl
  have hx := hC.1
  have hb := hC.2.1
  have hw := hC.2.2.2.2.1
  have hch : ∀ p, chL lt len p < 256 := ch_lt hlt
  refine lv_iconst (v := 0) hx hb dL_type_0 (by decide) ?_
  refine lv_istore_n (lv' := [(2, .int 0), (0, .ref bo), (1, .ref q)]) hx hb dL_type_1 rfl hl (by decide) rfl (fun ls hl => ?_)
  refine lv_iconst (v := 5) hx hb dL_type_2 (by decide) ?_
  refine me_newa (atype := .int) (N' := 5) (a0 := (5, .inl (fun _ => 0))) (k := 0) (M2 := sp tb (bo + 722) g (bq tb bo G F sf inp out (me_up M0 n (.inl (tb 0, 5, .inl (fun _ => 0)))))) hC hM w_738 rfl (fun _ => rfl) (by decide) (by decide) (by decide) (Nat.le_of_ble_eq_true rfl) (Nat.le_of_ble_eq_true rfl) (bq_new (by omega)) dL_type_3 (fun H hM => ?_)
  refine lv_astore_n (lv' := [(3, .ref n), (2, .int 0), (0, .ref bo), (1, .ref q)]) hx hb dL_type_5 rfl hl (by decide) rfl (fun ls hl => ?_)
  refine lv_iconst (v := 0) hx hb dL_type_6 (by decide) ?_
  refine lv_istore (lv' := [(4, .int 0), (3, .ref n), (2, .int 0), (0, .ref bo), (1, .ref q)]) hx hb dL_type_7 hl (by decide) rfl (fun ls hl => ?_)
  have lp_9 : ∀ (ri : Nat) (i : Nat) (inp1 : Nat → Int32) (v1 : Nat → Int32) (n1 : Nat) (H : Heap) (locs : List Loc) (ls : Array Slot), (i + ri = 35) → (∀ p, p < 20 * i → inp1 p = sb_b (chL lt len p)) → (20 * i ≤ len + 19) → me_at D z0 (sp tb (bo + 722) g (bq tb bo G (upd F 0 (nI (20 * i))) sf inp1 out (me_up M0 n (.inl (tb 0, 5, .inl v1))))) n1 s H locs → lv_has ls 6 [(0, .ref bo), (1, .ref q), (3, .ref n), (4, .int (nI (20 * i)))] → W p l e (({ frames := 4, cells := 1, slots := 5, locals := 85 } : Room)) s m args below meth c H locs 1 5 (MQ below (me_Qp D z0 (fun r1 M1 => ∃ (inp2 : Nat → Int32) (m2 : Nat), r1 = nI len ∧ (∀ p, p < len → inp2 p = sb_b (lt.getD p 0)) ∧ len ≤ m2 ∧ m2 ≤ 700 ∧ M1 = sp tb (bo + 722) g (bq tb bo G (upd F 0 (nI m2)) sf inp2 out M0))) args s 1 5 (me_A z0)) (F0 m 9 ls []) := by
    intro ri
    refine Nat.strongRecOn ri ?_
    intro ri ih_9 i inp1 v1 n1 H locs ls hki hqi hbi hM hl
    refine lv_iload hx hb dL_type_9 (lv_at hl 3 rfl) ?_
    refine lv_aload_n hx hb dL_type_11 rfl (lv_at hl 1 rfl) ?_
    refine me_callVi (As := []) (rest := [.int (nI (20 * i))]) hC hl.1 hM (c_S_length l D tb X z0 n1 kK kV q (q + 1) len tf (sp tb (bo + 722) g (bq tb bo G (upd F 0 (nI (20 * i))) sf inp1 out (me_up M0 n (.inl (tb 0, 5, .inl v1))))) hKS (bq_some hqb ((me_up_n (by omega)).trans hq)) (bq_some (by omega) ((me_up_n (by omega)).trans hv)) (by omega)) (kv_L_8 hw rfl rfl ⟨Nat.le_of_ble_eq_true rfl, Nat.le_of_ble_eq_true rfl⟩) rfl rfl (bq_some hqb ((me_up_n (by omega)).trans hq)) rfl (Nat.le_of_ble_eq_true rfl) dL_type_12 ⟨Nat.le_of_ble_eq_true rfl, Nat.le_of_ble_eq_true rfl⟩ (fun H locs hM => ?_)
    refine lv_icmp_ge (tgt := 102) hx hb dL_type_15 (by decide) (fun c_1 => ?_) (fun c_1 => ?_)
    · have c_1 := (br_le rfl rfl (by omega) (by omega)).mp c_1
      have hM := bq_drop hfn (by omega) hM
      refine lv_aload_n hx hb dL_type_102 rfl (lv_at hl 1 rfl) ?_
      refine me_callVi (As := []) (rest := []) hC hl.1 hM (c_S_length l D tb X z0 n1 kK kV q (q + 1) len tf (sp tb (bo + 722) g (bq tb bo G (upd F 0 (nI (20 * i))) sf inp1 out M0)) hKS (bq_some hqb hq) (bq_some (by omega) hv) (by omega)) (kv_L_8 hw rfl rfl ⟨Nat.le_of_ble_eq_true rfl, Nat.le_of_ble_eq_true rfl⟩) rfl rfl (bq_some hqb hq) rfl (Nat.le_of_ble_eq_true rfl) dL_type_103 ⟨Nat.le_of_ble_eq_true rfl, Nat.le_of_ble_eq_true rfl⟩ (fun H locs hM => ?_)
      exact me_pret hC hr hlk hM (⟨inp1, 20 * i, rfl, fun p hp => by rw [hqi p (by omega)]; unfold chL; rw [if_pos hp], by omega, by omega, rfl⟩) (rfl) dL_type_106
    · have c_1 := (not_congr (br_le rfl rfl (by omega) (by omega))).mp c_1
      obtain ⟨qi, rfl⟩ : ∃ qi, ri = qi + 1 := ⟨ri - 1, by omega⟩
      refine lv_iconst (v := 0) hx hb dL_type_18 (by decide) ?_
      refine lv_istore (lv' := [(5, .int 0), (0, .ref bo), (1, .ref q), (3, .ref n), (4, .int (nI (20 * i)))]) hx hb dL_type_19 hl (by decide) rfl (fun ls hl => ?_)
      have lp_21 : ∀ (rj : Nat) (j : Nat) (v2 : Nat → Int32) (H : Heap) (locs : List Loc) (ls : Array Slot), (j + rj = 20) → (inW (chL lt len) (20 * i) v2 j) → me_at D z0 (sp tb (bo + 722) g (bq tb bo G (upd F 0 (nI (20 * i))) sf inp1 out (me_up M0 n (.inl (tb 0, 5, .inl v2))))) n1 s H locs → lv_has ls 6 [(0, .ref bo), (1, .ref q), (3, .ref n), (4, .int (nI (20 * i))), (5, .int (nI j))] → W p l e (({ frames := 4, cells := 1, slots := 5, locals := 85 } : Room)) s m args below meth c H locs 1 5 (MQ below (me_Qp D z0 (fun r1 M1 => ∃ (inp2 : Nat → Int32) (m2 : Nat), r1 = nI len ∧ (∀ p, p < len → inp2 p = sb_b (lt.getD p 0)) ∧ len ≤ m2 ∧ m2 ≤ 700 ∧ M1 = sp tb (bo + 722) g (bq tb bo G (upd F 0 (nI m2)) sf inp2 out M0))) args s 1 5 (me_A z0)) (F0 m 21 ls []) := by
        intro rj
        refine Nat.strongRecOn rj ?_
        intro rj ih_21 j v2 H locs ls hkj hqw hM hl
        refine lv_iload hx hb dL_type_21 (lv_at hl 4 rfl) ?_
        refine lv_bipush (v := 20) hx hb dL_type_23 (by decide) ?_
        refine lv_icmp_ge (tgt := 76) hx hb dL_type_25 (by decide) (fun c_2 => ?_) (fun c_2 => ?_)
        · have c_2 := (br_le (nx_c 20) rfl (by omega) (by omega)).mp c_2
          have hqw : inW (chL lt len) (20 * i) v2 20 := by have h := hqw; rw [show j = 20 by omega] at h; exact h
          refine lv_aload_n hx hb dL_type_76 rfl (lv_at hl 0 rfl) ?_
          refine lv_aload_n hx hb dL_type_77 rfl (lv_at hl 2 rfl) ?_
          refine lv_iconst (v := 0) hx hb dL_type_78 (by decide) ?_
          refine me_iald (k := 0) hC hM (bq_some (by omega) (me_up_s _ _ _)) (show (0 : Int32) = nI 0 from rfl) (by omega) (by decide) dL_type_79 ?_
          refine lv_aload_n hx hb dL_type_80 rfl (lv_at hl 2 rfl) ?_
          refine lv_iconst (v := 1) hx hb dL_type_81 (by decide) ?_
          refine me_iald (k := 1) hC hM (bq_some (by omega) (me_up_s _ _ _)) (show (1 : Int32) = nI 1 from rfl) (by omega) (by decide) dL_type_82 ?_
          refine lv_aload_n hx hb dL_type_83 rfl (lv_at hl 2 rfl) ?_
          refine lv_iconst (v := 2) hx hb dL_type_84 (by decide) ?_
          refine me_iald (k := 2) hC hM (bq_some (by omega) (me_up_s _ _ _)) (nx_c 2) (by omega) (by decide) dL_type_85 ?_
          refine lv_aload_n hx hb dL_type_86 rfl (lv_at hl 2 rfl) ?_
          refine lv_iconst (v := 3) hx hb dL_type_87 (by decide) ?_
          refine me_iald (k := 3) hC hM (bq_some (by omega) (me_up_s _ _ _)) (nx_c 3) (by omega) (by decide) dL_type_88 ?_
          refine lv_aload_n hx hb dL_type_89 rfl (lv_at hl 2 rfl) ?_
          refine lv_iconst (v := 4) hx hb dL_type_90 (by decide) ?_
          refine me_iald (k := 4) hC hM (bq_some (by omega) (me_up_s _ _ _)) (nx_c 4) (by omega) (by decide) dL_type_91 ?_
          refine me_callVi (As := [.int (v2 0), .int (v2 1), .int (v2 2), .int (v2 3), .int (v2 4)]) (rest := []) hC hl.1 hM (c_X7_append l D tb X z0 n1 bo g G (upd F 0 (nI (20 * i))) sf inp1 out (me_up M0 n (.inl (tb 0, 5, .inl v2))) S B L P (v2 0) (v2 1) (v2 2) (v2 3) (v2 4) (20 * i) hW (upd_s _ _ _) (by omega)) (kv_L_18 hw rfl rfl ⟨Nat.le_of_ble_eq_true rfl, Nat.le_of_ble_eq_true rfl⟩) rfl rfl (bq_at h_b) rfl (Nat.le_of_ble_eq_true rfl) dL_type_92 ⟨Nat.le_of_ble_eq_true rfl, Nat.le_of_ble_eq_true rfl⟩ (fun H locs hM => ?_)
          have hqi := ap_five (v := v2) hqi hqw
          have hM := hM.eq (M2 := sp tb (bo + 722) g (bq tb bo G (upd F 0 (nI (20 * (i + 1)))) sf (apW (apW (apW (apW (apW inp1 (20 * i) (v2 0)) (20 * i + 4) (v2 1)) (20 * i + 4 + 4) (v2 2)) (20 * i + 4 + 4 + 4) (v2 3)) (20 * i + 4 + 4 + 4 + 4) (v2 4)) out (me_up M0 n (.inl (tb 0, 5, .inl v2))))) (by rw [upd_upd]; rfl)
          generalize apW (apW (apW (apW (apW inp1 (20 * i) (v2 0)) (20 * i + 4) (v2 1)) (20 * i + 4 + 4) (v2 2)) (20 * i + 4 + 4 + 4) (v2 3)) (20 * i + 4 + 4 + 4 + 4) (v2 4) = inp9 at hM hqi
          refine lv_istore_n (lv' := [(2, .int (nI (20 * i + 4 + 4 + 4 + 4 + 4))), (0, .ref bo), (1, .ref q), (3, .ref n), (4, .int (nI (20 * i))), (5, .int (nI j))]) hx hb dL_type_95 rfl hl (by decide) rfl (fun ls hl => ?_)
          refine lv_iinc (v := nI (20 * i + 20)) (lv' := [(4, .int (nI (20 * i + 20))), (2, .int (nI (20 * i + 4 + 4 + 4 + 4 + 4))), (0, .ref bo), (1, .ref q), (3, .ref n), (5, .int (nI j))]) hx hb dL_type_96 hl (k := 4) rfl (nx_add rfl rfl) (by decide) rfl (fun ls hl => ?_)
          refine lv_goto (tgt := 9) hx hb dL_type_99 (by decide) ?_
          exact ih_9 qi (by omega) (i + 1) inp9 v2 n1 _ _ _ (by omega) hqi (by omega) hM (lv_sub hl [2, 3, 4, 0] rfl)
        · have c_2 := (not_congr (br_le (nx_c 20) rfl (by omega) (by omega))).mp c_2
          obtain ⟨qj, rfl⟩ : ∃ qj, rj = qj + 1 := ⟨rj - 1, by omega⟩
          refine lv_aload_n hx hb dL_type_28 rfl (lv_at hl 2 rfl) ?_
          refine lv_iload hx hb dL_type_29 (lv_at hl 4 rfl) ?_
          refine lv_iconst (v := 4) hx hb dL_type_31 (by decide) ?_
          refine lv_idiv hx hb dL_type_32 (by decide) ?_
          refine me_evi (y := nI (j / 4)) (nx_div rfl (nx_c 4) (by omega) (by omega) (by omega)) ?_
          refine lv_aload_n hx hb dL_type_33 rfl (lv_at hl 2 rfl) ?_
          refine lv_iload hx hb dL_type_34 (lv_at hl 4 rfl) ?_
          refine lv_iconst (v := 4) hx hb dL_type_36 (by decide) ?_
          refine lv_idiv hx hb dL_type_37 (by decide) ?_
          refine me_evi (y := nI (j / 4)) (nx_div rfl (nx_c 4) (by omega) (by omega) (by omega)) ?_
          refine me_iald (k := j / 4) hC hM (bq_some (by omega) (me_up_s _ _ _)) rfl (by omega) (by decide) dL_type_38 ?_
          refine lv_bipush (v := 8) hx hb dL_type_39 (by decide) ?_
          refine lv_ishl hx hb dL_type_41 ?_
          refine lv_iload hx hb dL_type_42 (lv_at hl 3 rfl) ?_
          refine lv_iload hx hb dL_type_44 (lv_at hl 4 rfl) ?_
          refine lv_iadd hx hb dL_type_46 ?_
          refine lv_aload_n hx hb dL_type_47 rfl (lv_at hl 1 rfl) ?_
          refine me_callVi (As := []) (rest := [.int ((nI (20 * i)) + (nI j)), .int ((v2 (j / 4)) <<< (8 &&& 31)), .int (nI (j / 4)), .ref n]) hC hl.1 hM (c_S_length l D tb X z0 n1 kK kV q (q + 1) len tf (sp tb (bo + 722) g (bq tb bo G (upd F 0 (nI (20 * i))) sf inp1 out (me_up M0 n (.inl (tb 0, 5, .inl v2))))) hKS (bq_some hqb ((me_up_n (by omega)).trans hq)) (bq_some (by omega) ((me_up_n (by omega)).trans hv)) (by omega)) (kv_L_8 hw rfl rfl ⟨Nat.le_of_ble_eq_true rfl, Nat.le_of_ble_eq_true rfl⟩) rfl rfl (bq_some hqb ((me_up_n (by omega)).trans hq)) rfl (Nat.le_of_ble_eq_true rfl) dL_type_48 ⟨Nat.le_of_ble_eq_true rfl, Nat.le_of_ble_eq_true rfl⟩ (fun H locs hM => ?_)
          have jn_68 : ∀ (c8 : Int32) (_ : c8 = nI (chL lt len (20 * i + j))) (H : Heap) (locs : List Loc), me_at D z0 (sp tb (bo + 722) g (bq tb bo G (upd F 0 (nI (20 * i))) sf inp1 out (me_up M0 n (.inl (tb 0, 5, .inl v2))))) n1 s H locs → W p l e ({ frames := 4, cells := 1, slots := 5, locals := 85 } : Room) s m args below meth c H locs 1 5 (MQ below (me_Qp D z0 (fun r1 M1 => ∃ (inp2 : Nat → Int32) (m2 : Nat), r1 = nI len ∧ (∀ p, p < len → inp2 p = sb_b (lt.getD p 0)) ∧ len ≤ m2 ∧ m2 ≤ 700 ∧ M1 = sp tb (bo + 722) g (bq tb bo G (upd F 0 (nI m2)) sf inp2 out M0))) args s 1 5 (me_A z0)) (F0 m 68 ls [.int c8, .int ((v2 (j / 4)) <<< (8 &&& 31)), .int (nI (j / 4)), .ref n]) := by
            intro c8 hj_68 H locs hM
            subst hj_68
            refine lv_ior hx hb dL_type_68 ?_
            refine me_iast (k := j / 4) (M2 := sp tb (bo + 722) g (bq tb bo G (upd F 0 (nI (20 * i))) sf inp1 out (me_up M0 n (.inl (tb 0, 5, .inl (upd v2 (j / 4) (((v2 (j / 4)) <<< (8 &&& 31)) ||| (nI (chL lt len (20 * i + j)))))))))) hC hM (bq_some (by omega) (me_up_s _ _ _)) rfl (by omega) (by decide) (bq_upo (by omega)) dL_type_69 (fun H locs hM => ?_)
            refine lv_iinc (v := nI (j + 1)) (lv' := [(5, .int (nI (j + 1))), (0, .ref bo), (1, .ref q), (3, .ref n), (4, .int (nI (20 * i)))]) hx hb dL_type_70 hl (k := 4) rfl (nx_add rfl rfl) (by decide) rfl (fun ls hl => ?_)
            refine lv_goto (tgt := 21) hx hb dL_type_73 (by decide) ?_
            exact ih_21 qj (by omega) (j + 1) (upd v2 (j / 4) ((v2 (j / 4) <<< ((8 : Int32) &&& 31)) ||| nI (chL lt len (20 * i + j)))) _ _ _ (by omega) (inW_s hqw (by omega) hch) hM (lv_sub hl [1, 2, 3, 4, 0] rfl)
          refine lv_icmp_ge (tgt := 66) hx hb dL_type_51 (by decide) (fun c_3 => ?_) (fun c_3 => ?_)
          · have c_3 := (br_le rfl (nx_add rfl rfl) (by omega) (by omega)).mp c_3
            refine lv_bipush (v := 32) hx hb dL_type_66 (by decide) ?_
            exact jn_68 32 (by unfold chL; rw [if_neg (by omega)]; rfl) _ _ hM
          · have c_3 := (not_congr (br_le rfl (nx_add rfl rfl) (by omega) (by omega))).mp c_3
            refine lv_aload_n hx hb dL_type_54 rfl (lv_at hl 1 rfl) ?_
            refine lv_iload hx hb dL_type_55 (lv_at hl 3 rfl) ?_
            refine lv_iload hx hb dL_type_57 (lv_at hl 4 rfl) ?_
            refine lv_iadd hx hb dL_type_59 ?_
            refine me_stk (st2 := [.int (nI (20 * i + j)), .ref q, .int ((v2 (j / 4)) <<< (8 &&& 31)), .int (nI (j / 4)), .ref n]) (by rw [(nx_add rfl rfl)]) ?_
            refine me_callVi (As := [.int (nI (20 * i + j))]) (rest := [.int ((v2 (j / 4)) <<< (8 &&& 31)), .int (nI (j / 4)), .ref n]) hC hl.1 hM (c_S_charAt l D tb X z0 n1 kK kV q (q + 1) len tf (sp tb (bo + 722) g (bq tb bo G (upd F 0 (nI (20 * i))) sf inp1 out (me_up M0 n (.inl (tb 0, 5, .inl v2))))) (20 * i + j) hKS (bq_some hqb ((me_up_n (by omega)).trans hq)) (bq_some (by omega) ((me_up_n (by omega)).trans hv)) (by omega) (by omega) (by rw [htf _ (by omega)]; exact (asc_ch _ (hlt _ (by omega))).1) (by rw [htf _ (by omega)]; exact (asc_ch _ (hlt _ (by omega))).2)) (kv_L_14 hw rfl rfl ⟨Nat.le_of_ble_eq_true rfl, Nat.le_of_ble_eq_true rfl⟩) rfl rfl (bq_some hqb ((me_up_n (by omega)).trans hq)) rfl (Nat.le_of_ble_eq_true rfl) dL_type_60 ⟨Nat.le_of_ble_eq_true rfl, Nat.le_of_ble_eq_true rfl⟩ (fun H locs hM => ?_)
            refine lv_goto (tgt := 68) hx hb dL_type_63 (by decide) ?_
            exact jn_68 (tf (20 * i + j)) (by unfold chL; rw [if_pos (show 20 * i + j < len by omega), htf _ (by omega)]; exact sb_asc (hlt _ (by omega))) _ _ hM
      exact lp_21 20 0 v1 _ _ _ (by omega) (fun p hp => absurd hp (by omega)) hM (lv_sub hl [1, 2, 3, 4, 0] rfl)
  exact lp_9 35 0 inp (fun _ => 0) (n + 1) _ _ _ (by omega) (fun p hp => absurd hp (by omega)) (by omega) (hM.eq (by rw [show upd F 0 (nI (20 * 0)) = F from upd_id (show F 0 = nI (20 * 0) from hF0)])) (lv_sub hl [3, 4, 1, 0] rfl)
