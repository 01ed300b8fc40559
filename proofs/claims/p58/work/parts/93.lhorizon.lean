theorem nx_z {x : Int32} {a : Nat} (hx : x = nI a) : x + 0 = nI a := by rw [hx]; exact nI_add a 0
/-- what the law asks of a loan: does it hold the hour -/
abbrev hjK (g : Nat → Int32) (k : Nat) (h : Int32) : Prop := g (261 + 5 * k + 4) < 2 ∧ g (261 + 5 * k + 1) ≤ h ∧ h < g (261 + 5 * k + 1) + g (261 + 5 * k + 2)
/-- the last of the first k loans that holds the hour -/
def lhF (g : Nat → Int32) (h : Int32) : Nat → Int32
  | 0 => -1
  | k + 1 => if hjK g k h then nI k else lhF g h k
theorem hoC {g : Nat → Int32} {L : Nat} {h y : Int32} (hL : L < 2 ^ 31) (e : y = hoF g L h) : y = -1 ∨ ∃ j, j < L ∧ y = nI j := by
  by_cases c : hoF g L h = -1
  · exact Or.inl (e.trans c)
  · obtain ⟨j, h1, h2, -⟩ := hoF_le g L h hL c
    exact Or.inr ⟨j, h1, e.trans h2⟩
theorem nh_T {g : Nat → Int32} {T : Nat} (hT : g 2 = nI T) (hT0 : T ≤ 10000) : nh (g 2) ↔ (T % 24 ≤ 5 ∨ 22 ≤ T % 24) := by
  have e : g 2 - g 2 / 24 * 24 = nI (T % 24) := nx_rem 24 hT (by omega) (by omega) (by omega)
  unfold nh
  rw [e]
  have h1 : nI (T % 24) ≤ 5 ↔ T % 24 ≤ 5 := br_le rfl (nx_c 5) (by omega) (by omega)
  have h2 : (22 : Int32) ≤ nI (T % 24) ↔ 22 ≤ T % 24 := br_le (nx_c 22) rfl (by omega) (by omega)
  rw [h1, h2]
theorem fcm_eq : ∀ k, k < 49 → Op.cmpValue (FP.fcmp (FP.fdiv (FP.i2f (nI k)) 1111490560) (FP.fdiv (FP.i2f (nI k)) 1111490560)) .l = 0 := by decide +kernel
set_option maxHeartbeats 4000000 in
theorem c_L_horizon (l : Launch) (D : va_G) (tb : Nat → ClassId) (X : State → Prop) (z0 n : Nat) (bo : Nat) (g : Nat → Int32) (G : Nat → Nat → Int32) (F sf inp out : Nat → Int32) (M0 : me_M) (S B L P : Nat) (T : Nat) (hN : ∀ U, X U → me_nest U)  (hW : wf g S B L P) (hT : g 2 = nI T) (hT0 : T ≤ 10000) (hac : acF g B L = 0) (htw : twF g L = 0) (h1 : ∀ h k, T ≤ h → h < T + 48 → k < L → hjK g k (nI h) → lhF g (nI h) k = -1) (h2 : ∀ h, T ≤ h → h < T + 48 → lhF g (nI h) L = hoF g L (nI h)) (h3 : 48 - nI (leF g L) = nI (co (fun i => hoF g L (nI (T + i)) = -1) 48 0)) (h4 : 48 - nI (co (fun i => hoF g L (nI (T + i)) = -1) 48 0) = nI (leF g L)) (hN1 : ∀ i k j, i < 48 → k < S → j < L → hoF g L (nI (T + i)) = nI j → hm g (ow g j) = k → noF g L P k (nI (T + i)) = 0 ∧ peF g P (nI k) (nI (T + i)) < 0) (hN2 : ∀ i k, i < 48 → k < S → (¬ ∃ j, j < L ∧ hoF g L (nI (T + i)) = nI j ∧ hm g (ow g j) = k) → ¬ peF g P (nI k) (nI (T + i)) < 0 → ¬ noF g L P k (nI (T + i)) < 40) (hN3 : ∀ i k, i < 48 → k < S → (¬ ∃ j, j < L ∧ hoF g L (nI (T + i)) = nI j ∧ hm g (ow g j) = k) → peF g P (nI k) (nI (T + i)) < 0 → ¬ 99 < noF g L P k (nI (T + i))) : Met l yL_horizon (.code yL_horizon cL_horizon 9 (some .boolean) :: ws_all) ({ frames := 5, cells := 0, slots := 0, locals := 112 } : Room) (me_Pc [.ref bo] D tb X z0 (sp tb (bo + 722) g (bq tb bo G F sf inp out M0)) n) (me_Qp D z0 (fun r1 M1 => r1 = 1 ∧ M1 = sp tb (bo + 722) g (bq tb bo G F sf inp out M0))) 0 0 (me_A z0) := by
  refine me_open (by decide) (Nat.le_of_ble_eq_true rfl) ?_
  intro p e s m args below meth c ls hC hr hlk hnm hM hl
  have hl : lv_has ls 9 [(0, .ref bo)] := hl
  have hx := hC.1
  have hb := hC.2.1
  have hw := hC.2.2.2.2.1
  have hq_ := hW
  obtain ⟨hS, hS0, hB, hB0, hL, hL0, hP, hP0, hwb, hwl⟩ := hq_
  refine lv_iconst (v := 0) hx hb dL_horizon_0 (by decide) ?_
  refine lv_istore_n (lv' := [(1, .int 0), (0, .ref bo)]) hx hb dL_horizon_1 rfl hl (by decide) rfl (fun ls hl => ?_)
  refine lv_aload_n hx hb dL_horizon_2 rfl (lv_at hl 1 rfl) ?_
  refine me_callVi (As := []) (rest := []) hC hl.1 hM (c_X7_ledgerDifference l D tb X z0 n bo g G F sf inp out M0 S B L P  hW) (kv_L_158 hw rfl rfl ⟨Nat.le_of_ble_eq_true rfl, Nat.le_of_ble_eq_true rfl⟩) rfl rfl (bq_at h_b) rfl (Nat.le_of_ble_eq_true rfl) dL_horizon_3 ⟨Nat.le_of_ble_eq_true rfl, Nat.le_of_ble_eq_true rfl⟩ (fun H locs hM => ?_)
  refine me_evi (y := 0) (by rw [hac, htw]; decide) ?_
  refine lv_if_ne (tgt := 49) hx hb dL_horizon_6 (by decide) (fun c_1 => ?_) (fun c_1 => ?_)
  · exact absurd c_1 (by decide)
  · refine lv_aload_n hx hb dL_horizon_9 rfl (lv_at hl 1 rfl) ?_
    refine me_callVi (As := []) (rest := []) hC hl.1 hM (c_X7_isNight l D tb X z0 n bo g G F sf inp out M0 S B L P  ) (kv_L_161 hw rfl rfl ⟨Nat.le_of_ble_eq_true rfl, Nat.le_of_ble_eq_true rfl⟩) rfl rfl (bq_at h_b) rfl (Nat.le_of_ble_eq_true rfl) dL_horizon_10 ⟨Nat.le_of_ble_eq_true rfl, Nat.le_of_ble_eq_true rfl⟩ (fun H locs hM => ?_)
    refine lv_aload_n hx hb dL_horizon_13 rfl (lv_at hl 1 rfl) ?_
    refine me_callVi (As := []) (rest := [.int (b1 (nh (g 2)))]) hC hl.1 hM (c_X7_clock l D tb X z0 n bo g G F sf inp out M0 S B L P  ) (kv_L_104 hw rfl rfl ⟨Nat.le_of_ble_eq_true rfl, Nat.le_of_ble_eq_true rfl⟩) rfl rfl (bq_at h_b) rfl (Nat.le_of_ble_eq_true rfl) dL_horizon_14 ⟨Nat.le_of_ble_eq_true rfl, Nat.le_of_ble_eq_true rfl⟩ (fun H locs hM => ?_)
    refine me_evi (y := nI T) hT ?_
    refine lv_bipush (v := 24) hx hb dL_horizon_17 (by decide) ?_
    refine lv_irem hx hb dL_horizon_19 (by decide) ?_
    refine me_evi (y := nI (T % 24)) (nx_rem 24 rfl (by omega) (by omega) (by omega)) ?_
    refine lv_bipush (v := 6) hx hb dL_horizon_20 (by decide) ?_
    have jn_42 : ∀ (v42 : Int32) (_ : v42 = b1 (nh (g 2))) (H : Heap) (locs : List Loc), me_at D z0 (sp tb (bo + 722) g (bq tb bo G F sf inp out M0)) n s H locs → W p l e ({ frames := 5, cells := 0, slots := 0, locals := 112 } : Room) s m args below meth c H locs 0 0 (MQ below (me_Qp D z0 (fun r1 M1 => r1 = 1 ∧ M1 = sp tb (bo + 722) g (bq tb bo G F sf inp out M0))) args s 0 0 (me_A z0)) (F0 m 42 ls [.int v42, .int (b1 (nh (g 2)))]) := by
      intro v42 hj_42 H locs hM
      subst hj_42
      refine lv_icmp_ne (tgt := 49) hx hb dL_horizon_42 (by decide) (fun c_2 => ?_) (fun c_2 => ?_)
      · exact absurd rfl c_2
      · refine lv_iconst (v := 1) hx hb dL_horizon_45 (by decide) ?_
        refine lv_goto (tgt := 50) hx hb dL_horizon_46 (by decide) ?_
        refine lv_istore_n (lv' := [(2, .int 1), (1, .int 0), (0, .ref bo)]) hx hb dL_horizon_50 rfl hl (by decide) rfl (fun ls hl => ?_)
        refine lv_aload_n hx hb dL_horizon_51 rfl (lv_at hl 2 rfl) ?_
        refine me_callVi (As := []) (rest := []) hC hl.1 hM (c_X7_clock l D tb X z0 n bo g G F sf inp out M0 S B L P  ) (kv_L_104 hw rfl rfl ⟨Nat.le_of_ble_eq_true rfl, Nat.le_of_ble_eq_true rfl⟩) rfl rfl (bq_at h_b) rfl (Nat.le_of_ble_eq_true rfl) dL_horizon_52 ⟨Nat.le_of_ble_eq_true rfl, Nat.le_of_ble_eq_true rfl⟩ (fun H locs hM => ?_)
        refine me_evi (y := nI T) hT ?_
        refine lv_istore_n (lv' := [(3, .int (nI T)), (2, .int 1), (1, .int 0), (0, .ref bo)]) hx hb dL_horizon_55 rfl hl (by decide) rfl (fun ls hl => ?_)
        have lp_56 : ∀ (rA : Nat) (i : Nat) (ct : Nat) (H : Heap) (locs : List Loc) (ls : Array Slot), (i + rA = 48) → (co (fun i => hoF g L (nI (T + i)) = -1) 48 0 = ct + co (fun i => hoF g L (nI (T + i)) = -1) rA i) → me_at D z0 (sp tb (bo + 722) g (bq tb bo G F sf inp out M0)) n s H locs → lv_has ls 9 [(0, .ref bo), (1, .int (nI ct)), (2, .int 1), (3, .int (nI (T + i)))] → W p l e (({ frames := 5, cells := 0, slots := 0, locals := 112 } : Room)) s m args below meth c H locs 0 0 (MQ below (me_Qp D z0 (fun r1 M1 => r1 = 1 ∧ M1 = sp tb (bo + 722) g (bq tb bo G F sf inp out M0))) args s 0 0 (me_A z0)) (F0 m 56 ls []) := by
          intro rA
          refine Nat.strongRecOn rA ?_
          intro rA ih_56 i ct H locs ls hkA hqA hM hl
          refine lv_iload_n hx hb dL_horizon_56 rfl (lv_at hl 3 rfl) ?_
          refine lv_aload_n hx hb dL_horizon_57 rfl (lv_at hl 0 rfl) ?_
          refine me_callVi (As := []) (rest := [.int (nI (T + i))]) hC hl.1 hM (c_X7_clock l D tb X z0 n bo g G F sf inp out M0 S B L P  ) (kv_L_104 hw rfl rfl ⟨Nat.le_of_ble_eq_true rfl, Nat.le_of_ble_eq_true rfl⟩) rfl rfl (bq_at h_b) rfl (Nat.le_of_ble_eq_true rfl) dL_horizon_58 ⟨Nat.le_of_ble_eq_true rfl, Nat.le_of_ble_eq_true rfl⟩ (fun H locs hM => ?_)
          refine me_evi (y := nI T) hT ?_
          refine lv_bipush (v := 48) hx hb dL_horizon_61 (by decide) ?_
          refine lv_iadd hx hb dL_horizon_63 ?_
          refine lv_icmp_ge (tgt := 369) hx hb dL_horizon_64 (by decide) (fun c_3 => ?_) (fun c_3 => ?_)
          · have c_3 := (br_le (nx_add rfl (nx_c 48)) rfl (by omega) (by omega)).mp c_3
            have hct : co (fun i => hoF g L (nI (T + i)) = -1) 48 0 = ct := by rw [hqA, show rA = 0 by omega]; rfl
            refine lv_iload_n hx hb dL_horizon_369 rfl (lv_at hl 2 rfl) ?_
            refine lv_if_eq (tgt := 401) hx hb dL_horizon_370 (by decide) (fun c_4 => ?_) (fun c_4 => ?_)
            · exact absurd c_4 (by decide)
            · refine lv_aload_n hx hb dL_horizon_373 rfl (lv_at hl 0 rfl) ?_
              refine me_callVi (As := []) (rest := []) hC hl.1 hM (c_X7_freeHours l D tb X z0 n bo g G F sf inp out M0 S B L P  hW) (kv_L_171 hw rfl rfl ⟨Nat.le_of_ble_eq_true rfl, Nat.le_of_ble_eq_true rfl⟩) rfl rfl (bq_at h_b) rfl (Nat.le_of_ble_eq_true rfl) dL_horizon_374 ⟨Nat.le_of_ble_eq_true rfl, Nat.le_of_ble_eq_true rfl⟩ (fun H locs hM => ?_)
              refine me_evi (y := nI ct) (h3.trans (congrArg nI hct)) ?_
              refine lv_iload_n hx hb dL_horizon_377 rfl (lv_at hl 1 rfl) ?_
              refine lv_icmp_ne (tgt := 401) hx hb dL_horizon_378 (by decide) (fun c_5 => ?_) (fun c_5 => ?_)
              · exact absurd rfl c_5
              · refine lv_aload_n hx hb dL_horizon_381 rfl (lv_at hl 0 rfl) ?_
                refine me_callVf (As := []) (rest := []) hC hl.1 hM (c_X7_lentShare l D tb X z0 n bo g G F sf inp out M0 S B L P  hW) (kv_L_174 hw rfl rfl ⟨Nat.le_of_ble_eq_true rfl, Nat.le_of_ble_eq_true rfl⟩) rfl rfl (bq_at h_b) rfl (Nat.le_of_ble_eq_true rfl) dL_horizon_382 ⟨Nat.le_of_ble_eq_true rfl, Nat.le_of_ble_eq_true rfl⟩ (fun H locs hM => ?_)
                refine lv_bipush (v := 48) hx hb dL_horizon_385 (by decide) ?_
                refine lv_iload_n hx hb dL_horizon_387 rfl (lv_at hl 1 rfl) ?_
                refine lv_isub hx hb dL_horizon_388 ?_
                refine me_evi (y := nI (leF g L)) (by rw [← hct]; exact h4) ?_
                refine lv_i2f hx hb dL_horizon_389 ?_
                refine lv_ldcf hx hb hC.2.2.2.1 (hw _ w_1230) dL_horizon_390 ?_
                refine lv_fdiv hx hb dL_horizon_392 (fp_share (show co _ 48 0 < 49 from Nat.lt_succ_of_le (co_le _ 48 0))) ?_
                refine lv_fcmp hx hb dL_horizon_393 ?_
                refine me_evi (y := 0) (fcm_eq _ (show co _ 48 0 < 49 from Nat.lt_succ_of_le (co_le _ 48 0))) ?_
                refine lv_if_ne (tgt := 401) hx hb dL_horizon_394 (by decide) (fun c_6 => ?_) (fun c_6 => ?_)
                · exact absurd c_6 (by decide)
                · refine lv_iconst (v := 1) hx hb dL_horizon_397 (by decide) ?_
                  refine lv_goto (tgt := 402) hx hb dL_horizon_398 (by decide) ?_
                  exact me_pret hC hr hlk hM (⟨rfl, rfl⟩) (rfl) dL_horizon_402
          · have c_3 := (not_congr (br_le (nx_add rfl (nx_c 48)) rfl (by omega) (by omega))).mp c_3
            obtain ⟨qA, rfl⟩ : ∃ qA, rA = qA + 1 := ⟨rA - 1, by omega⟩
            refine lv_iload_n hx hb dL_horizon_67 rfl (lv_at hl 2 rfl) ?_
            refine lv_if_eq (tgt := 369) hx hb dL_horizon_68 (by decide) (fun c_7 => ?_) (fun c_7 => ?_)
            · exact absurd c_7 (by decide)
            · refine lv_iconst (v := (-1)) hx hb dL_horizon_71 (by decide) ?_
              refine lv_istore (lv' := [(4, .int (-1)), (0, .ref bo), (1, .int (nI ct)), (2, .int 1), (3, .int (nI (T + i)))]) hx hb dL_horizon_72 hl (by decide) rfl (fun ls hl => ?_)
              refine lv_iconst (v := 0) hx hb dL_horizon_74 (by decide) ?_
              refine lv_istore (lv' := [(5, .int 0), (4, .int (-1)), (0, .ref bo), (1, .int (nI ct)), (2, .int 1), (3, .int (nI (T + i)))]) hx hb dL_horizon_75 hl (by decide) rfl (fun ls hl => ?_)
              have lp_77 : ∀ (rB : Nat) (k : Nat) (y : Int32) (H : Heap) (locs : List Loc) (ls : Array Slot), (k + rB = L) → (y = lhF g (nI (T + i)) k) → me_at D z0 (sp tb (bo + 722) g (bq tb bo G F sf inp out M0)) n s H locs → lv_has ls 9 [(0, .ref bo), (1, .int (nI ct)), (2, .int 1), (3, .int (nI (T + i))), (4, .int y), (5, .int (nI k))] → W p l e (({ frames := 5, cells := 0, slots := 0, locals := 112 } : Room)) s m args below meth c H locs 0 0 (MQ below (me_Qp D z0 (fun r1 M1 => r1 = 1 ∧ M1 = sp tb (bo + 722) g (bq tb bo G F sf inp out M0))) args s 0 0 (me_A z0)) (F0 m 77 ls []) := by
                intro rB
                refine Nat.strongRecOn rB ?_
                intro rB ih_77 k y H locs ls hkB hqB hM hl
                refine lv_iload hx hb dL_horizon_77 (lv_at hl 5 rfl) ?_
                refine lv_aload_n hx hb dL_horizon_79 rfl (lv_at hl 0 rfl) ?_
                refine me_callVi (As := []) (rest := [.int (nI k)]) hC hl.1 hM (c_X7_loanCount l D tb X z0 n bo g G F sf inp out M0 S B L P  ) (kv_L_110 hw rfl rfl ⟨Nat.le_of_ble_eq_true rfl, Nat.le_of_ble_eq_true rfl⟩) rfl rfl (bq_at h_b) rfl (Nat.le_of_ble_eq_true rfl) dL_horizon_80 ⟨Nat.le_of_ble_eq_true rfl, Nat.le_of_ble_eq_true rfl⟩ (fun H locs hM => ?_)
                refine me_evi (y := nI L) hW.2.2.2.2.1 ?_
                refine lv_icmp_ge (tgt := 170) hx hb dL_horizon_83 (by decide) (fun c_8 => ?_) (fun c_8 => ?_)
                · have c_8 := (br_le rfl rfl (by omega) (by omega)).mp c_8
                  have hy : y = hoF g L (nI (T + i)) := by rw [hqB, show k = L by omega]; exact h2 (T + i) (by omega) (by omega)
                  rcases hoC (by omega) hy with rfl | ⟨j, hj, rfl⟩
                  · skip
                    refine lv_iload_n hx hb dL_horizon_170 rfl (lv_at hl 1 rfl) ?_
                    refine lv_iload hx hb dL_horizon_171 (lv_at hl 4 rfl) ?_
                    refine lv_if_ge (tgt := 180) hx hb dL_horizon_173 (by decide) (fun c_9 => ?_) (fun c_9 => ?_)
                    · exact absurd c_9 (by decide)
                    · have c_9q := c_9
                      have c_9 := Int32.not_le.mp c_9
                      refine lv_iconst (v := 1) hx hb dL_horizon_176 (by decide) ?_
                      refine lv_goto (tgt := 181) hx hb dL_horizon_177 (by decide) ?_
                      refine lv_iadd hx hb dL_horizon_181 ?_
                      refine me_evi (y := nI (ct + 1)) (nx_add rfl (show (1 : Int32) = nI 1 from rfl)) ?_
                      refine lv_istore_n (lv' := [(1, .int (nI (ct + 1))), (0, .ref bo), (2, .int 1), (3, .int (nI (T + i))), (4, .int (-1)), (5, .int (nI k))]) hx hb dL_horizon_182 rfl hl (by decide) rfl (fun ls hl => ?_)
                      refine lv_iload_n hx hb dL_horizon_183 rfl (lv_at hl 2 rfl) ?_
                      refine lv_if_eq (tgt := 201) hx hb dL_horizon_184 (by decide) (fun c_10 => ?_) (fun c_10 => ?_)
                      · exact absurd c_10 (by decide)
                      · refine lv_aload_n hx hb dL_horizon_187 rfl (lv_at hl 1 rfl) ?_
                        refine lv_iload_n hx hb dL_horizon_188 rfl (lv_at hl 3 rfl) ?_
                        refine me_callVi (As := [.int (nI (T + i))]) (rest := []) hC hl.1 hM (c_X7_holderOf l D tb X z0 n bo g G F sf inp out M0 S B L P T (T + i) hW hT hT0 (by omega) (by omega)) (kv_L_165 hw rfl rfl ⟨Nat.le_of_ble_eq_true rfl, Nat.le_of_ble_eq_true rfl⟩) rfl rfl (bq_at h_b) rfl (Nat.le_of_ble_eq_true rfl) dL_horizon_189 ⟨Nat.le_of_ble_eq_true rfl, Nat.le_of_ble_eq_true rfl⟩ (fun H locs hM => ?_)
                        refine me_evi (y := (-1)) hy.symm ?_
                        refine lv_iload hx hb dL_horizon_192 (lv_at hl 4 rfl) ?_
                        refine lv_icmp_ne (tgt := 201) hx hb dL_horizon_194 (by decide) (fun c_11 => ?_) (fun c_11 => ?_)
                        · exact absurd c_11 (by decide)
                        · refine lv_iconst (v := 1) hx hb dL_horizon_197 (by decide) ?_
                          refine lv_goto (tgt := 202) hx hb dL_horizon_198 (by decide) ?_
                          refine lv_istore_n (lv' := [(2, .int 1), (1, .int (nI (ct + 1))), (0, .ref bo), (3, .int (nI (T + i))), (4, .int (-1)), (5, .int (nI k))]) hx hb dL_horizon_202 rfl hl (by decide) rfl (fun ls hl => ?_)
                          refine lv_iconst (v := 0) hx hb dL_horizon_203 (by decide) ?_
                          refine lv_istore (lv' := [(5, .int 0), (2, .int 1), (1, .int (nI (ct + 1))), (0, .ref bo), (3, .int (nI (T + i))), (4, .int (-1))]) hx hb dL_horizon_204 hl (by decide) rfl (fun ls hl => ?_)
                          have lp_206 : ∀ (rC : Nat) (kk : Nat) (H : Heap) (locs : List Loc) (ls : Array Slot), (kk + rC = S) → me_at D z0 (sp tb (bo + 722) g (bq tb bo G F sf inp out M0)) n s H locs → lv_has ls 9 [(0, .ref bo), (1, .int (nI (ct + 1))), (2, .int 1), (3, .int (nI (T + i))), (4, .int (-1)), (5, .int (nI kk))] → W p l e (({ frames := 5, cells := 0, slots := 0, locals := 112 } : Room)) s m args below meth c H locs 0 0 (MQ below (me_Qp D z0 (fun r1 M1 => r1 = 1 ∧ M1 = sp tb (bo + 722) g (bq tb bo G F sf inp out M0))) args s 0 0 (me_A z0)) (F0 m 206 ls []) := by
                            intro rC
                            refine Nat.strongRecOn rC ?_
                            intro rC ih_206 kk H locs ls hkC hM hl
                            refine lv_iload hx hb dL_horizon_206 (lv_at hl 5 rfl) ?_
                            refine lv_aload_n hx hb dL_horizon_208 rfl (lv_at hl 0 rfl) ?_
                            refine me_callVi (As := []) (rest := [.int (nI kk)]) hC hl.1 hM (c_X7_streetCount l D tb X z0 n bo g G F sf inp out M0 S B L P  ) (kv_L_113 hw rfl rfl ⟨Nat.le_of_ble_eq_true rfl, Nat.le_of_ble_eq_true rfl⟩) rfl rfl (bq_at h_b) rfl (Nat.le_of_ble_eq_true rfl) dL_horizon_209 ⟨Nat.le_of_ble_eq_true rfl, Nat.le_of_ble_eq_true rfl⟩ (fun H locs hM => ?_)
                            refine me_evi (y := nI S) hW.1 ?_
                            refine lv_icmp_ge (tgt := 363) hx hb dL_horizon_212 (by decide) (fun c_12 => ?_) (fun c_12 => ?_)
                            · have c_12 := (br_le rfl rfl (by omega) (by omega)).mp c_12
                              refine lv_iinc (v := nI (T + i + 1)) (lv' := [(3, .int (nI (T + i + 1))), (0, .ref bo), (1, .int (nI (ct + 1))), (2, .int 1), (4, .int (-1)), (5, .int (nI kk))]) hx hb dL_horizon_363 hl (k := 3) rfl (nx_add rfl rfl) (by decide) rfl (fun ls hl => ?_)
                              refine lv_goto (tgt := 56) hx hb dL_horizon_366 (by decide) ?_
                              exact ih_56 qA (by omega) (i + 1) (ct + 1) _ _ _ (by omega) (by rw [hqA, co_t (P := fun i => hoF g L (nI (T + i)) = -1) (k := i) (r := qA) hy.symm]; omega) hM (lv_sub hl [1, 2, 3, 0] rfl)
                            · have c_12 := (not_congr (br_le rfl rfl (by omega) (by omega))).mp c_12
                              obtain ⟨qC, rfl⟩ : ∃ qC, rC = qC + 1 := ⟨rC - 1, by omega⟩
                              refine lv_iload_n hx hb dL_horizon_215 rfl (lv_at hl 2 rfl) ?_
                              refine lv_if_eq (tgt := 363) hx hb dL_horizon_216 (by decide) (fun c_13 => ?_) (fun c_13 => ?_)
                              · exact absurd c_13 (by decide)
                              · refine lv_aload_n hx hb dL_horizon_219 rfl (lv_at hl 0 rfl) ?_
                                refine lv_iload hx hb dL_horizon_220 (lv_at hl 5 rfl) ?_
                                refine lv_iload_n hx hb dL_horizon_222 rfl (lv_at hl 3 rfl) ?_
                                refine me_callVi (As := [.int (nI kk), .int (nI (T + i))]) (rest := []) hC hl.1 hM (c_X7_noiseAt l D tb X z0 n bo g G F sf inp out M0 S B L P T hN kk (T + i) hW hT hT0 (by omega) (by omega) (by omega)) (kv_L_168 hw rfl rfl ⟨Nat.le_of_ble_eq_true rfl, Nat.le_of_ble_eq_true rfl⟩) rfl rfl (bq_at h_b) rfl (Nat.le_of_ble_eq_true rfl) dL_horizon_223 ⟨Nat.le_of_ble_eq_true rfl, Nat.le_of_ble_eq_true rfl⟩ (fun H locs hM => ?_)
                                refine lv_istore (lv' := [(6, .int (noF g L P kk (nI (T + i)))), (0, .ref bo), (1, .int (nI (ct + 1))), (2, .int 1), (3, .int (nI (T + i))), (4, .int (-1)), (5, .int (nI kk))]) hx hb dL_horizon_226 hl (by decide) rfl (fun ls hl => ?_)
                                refine lv_iload hx hb dL_horizon_228 (lv_at hl 5 rfl) ?_
                                refine lv_if_lt (tgt := 252) hx hb dL_horizon_230 (by decide) (fun c_14 => ?_) (fun c_14 => ?_)
                                · have c_14q := Int32.not_le.mpr c_14
                                  have hnl : ¬ ∃ j, j < L ∧ hoF g L (nI (T + i)) = nI j ∧ hm g (ow g j) = kk := fun ⟨j, hj, e, _⟩ => nI_nm1 (k := j) (by omega) (e.symm.trans hy.symm)
                                  refine lv_iconst (v := 0) hx hb dL_horizon_252 (by decide) ?_
                                  refine lv_istore (lv' := [(7, .int 0), (6, .int (noF g L P kk (nI (T + i)))), (0, .ref bo), (1, .int (nI (ct + 1))), (2, .int 1), (3, .int (nI (T + i))), (4, .int (-1)), (5, .int (nI kk))]) hx hb dL_horizon_253 hl (by decide) rfl (fun ls hl => ?_)
                                  refine lv_aload_n hx hb dL_horizon_255 rfl (lv_at hl 2 rfl) ?_
                                  refine lv_iload hx hb dL_horizon_256 (lv_at hl 7 rfl) ?_
                                  refine lv_iload_n hx hb dL_horizon_258 rfl (lv_at hl 5 rfl) ?_
                                  refine me_callVi (As := [.int (nI kk), .int (nI (T + i))]) (rest := []) hC hl.1 hM (c_X7_permitFor l D tb X z0 n bo g G F sf inp out M0 S B L P T kk (T + i) hW hT hT0 (by omega) (by omega) (by omega)) (kv_L_155 hw rfl rfl ⟨Nat.le_of_ble_eq_true rfl, Nat.le_of_ble_eq_true rfl⟩) rfl rfl (bq_at h_b) rfl (Nat.le_of_ble_eq_true rfl) dL_horizon_259 ⟨Nat.le_of_ble_eq_true rfl, Nat.le_of_ble_eq_true rfl⟩ (fun H locs hM => ?_)
                                  refine lv_if_lt (tgt := 269) hx hb dL_horizon_262 (by decide) (fun c_15 => ?_) (fun c_15 => ?_)
                                  · have c_15q := Int32.not_le.mpr c_15
                                    refine lv_iconst (v := 0) hx hb dL_horizon_269 (by decide) ?_
                                    refine lv_istore (lv' := [(8, .int 0), (7, .int 0), (6, .int (noF g L P kk (nI (T + i)))), (0, .ref bo), (1, .int (nI (ct + 1))), (2, .int 1), (3, .int (nI (T + i))), (4, .int (-1)), (5, .int (nI kk))]) hx hb dL_horizon_270 hl (by decide) rfl (fun ls hl => ?_)
                                    refine lv_iload hx hb dL_horizon_272 (lv_at hl 1 rfl) ?_
                                    refine lv_if_eq (tgt := 295) hx hb dL_horizon_274 (by decide) (fun c_16 => ?_) (fun c_16 => ?_)
                                    · refine lv_iload hx hb dL_horizon_295 (lv_at hl 0 rfl) ?_
                                      refine lv_if_eq (tgt := 315) hx hb dL_horizon_297 (by decide) (fun c_17 => ?_) (fun c_17 => ?_)
                                      · refine lv_iload hx hb dL_horizon_315 (lv_at hl 2 rfl) ?_
                                        refine lv_bipush (v := 99) hx hb dL_horizon_317 (by decide) ?_
                                        refine lv_icmp_gt (tgt := 326) hx hb dL_horizon_319 (by decide) (fun c_18 => ?_) (fun c_18 => ?_)
                                        · have c_18q := Int32.not_le.mpr c_18
                                          exact absurd c_18 (hN3 i kk (by omega) (by omega) hnl c_15)
                                        · have c_18q := Int32.not_lt.mp c_18
                                          refine lv_iconst (v := 1) hx hb dL_horizon_322 (by decide) ?_
                                          refine lv_goto (tgt := 327) hx hb dL_horizon_323 (by decide) ?_
                                          refine lv_istore_n (lv' := [(2, .int 1), (8, .int 0), (7, .int 0), (6, .int (noF g L P kk (nI (T + i)))), (0, .ref bo), (1, .int (nI (ct + 1))), (3, .int (nI (T + i))), (4, .int (-1)), (5, .int (nI kk))]) hx hb dL_horizon_327 rfl hl (by decide) rfl (fun ls hl => ?_)
                                          refine lv_iload_n hx hb dL_horizon_328 rfl (lv_at hl 0 rfl) ?_
                                          refine lv_if_eq (tgt := 355) hx hb dL_horizon_329 (by decide) (fun c_19 => ?_) (fun c_19 => ?_)
                                          · exact absurd c_19 (by decide)
                                          · refine lv_iload_n hx hb dL_horizon_332 rfl (lv_at hl 6 rfl) ?_
                                            refine lv_aload_n hx hb dL_horizon_333 rfl (lv_at hl 4 rfl) ?_
                                            refine me_callVi (As := []) (rest := [.int (nI (T + i))]) hC hl.1 hM (c_X7_clock l D tb X z0 n bo g G F sf inp out M0 S B L P  ) (kv_L_104 hw rfl rfl ⟨Nat.le_of_ble_eq_true rfl, Nat.le_of_ble_eq_true rfl⟩) rfl rfl (bq_at h_b) rfl (Nat.le_of_ble_eq_true rfl) dL_horizon_334 ⟨Nat.le_of_ble_eq_true rfl, Nat.le_of_ble_eq_true rfl⟩ (fun H locs hM => ?_)
                                            refine me_evi (y := nI T) hT ?_
                                            refine lv_icmp_ne (tgt := 351) hx hb dL_horizon_337 (by decide) (fun c_20 => ?_) (fun c_20 => ?_)
                                            · have c_20 := (not_congr (br_eq rfl rfl (by omega) (by omega))).mp c_20
                                              refine lv_iconst (v := 1) hx hb dL_horizon_351 (by decide) ?_
                                              refine lv_goto (tgt := 356) hx hb dL_horizon_352 (by decide) ?_
                                              refine lv_istore_n (lv' := [(2, .int 1), (8, .int 0), (7, .int 0), (6, .int (noF g L P kk (nI (T + i)))), (0, .ref bo), (1, .int (nI (ct + 1))), (3, .int (nI (T + i))), (4, .int (-1)), (5, .int (nI kk))]) hx hb dL_horizon_356 rfl hl (by decide) rfl (fun ls hl => ?_)
                                              refine lv_iinc (v := nI (kk + 1)) (lv' := [(5, .int (nI (kk + 1))), (2, .int 1), (8, .int 0), (7, .int 0), (6, .int (noF g L P kk (nI (T + i)))), (0, .ref bo), (1, .int (nI (ct + 1))), (3, .int (nI (T + i))), (4, .int (-1))]) hx hb dL_horizon_357 hl (k := 8) rfl (nx_add rfl rfl) (by decide) rfl (fun ls hl => ?_)
                                              refine lv_goto (tgt := 206) hx hb dL_horizon_360 (by decide) ?_
                                              exact ih_206 qC (by omega) (kk + 1) _ _ _ (by omega) hM (lv_sub hl [5, 6, 1, 7, 8, 0] rfl)
                                            · have c_20 := (br_eq rfl rfl (by omega) (by omega)).mp c_20
                                              refine lv_iload hx hb dL_horizon_340 (lv_at hl 3 rfl) ?_
                                              refine lv_aload_n hx hb dL_horizon_342 rfl (lv_at hl 4 rfl) ?_
                                              refine lv_iload hx hb dL_horizon_343 (lv_at hl 8 rfl) ?_
                                              refine me_callVi (As := [.int (nI kk)]) (rest := [.int (noF g L P kk (nI (T + i)))]) hC hl.1 hM (c_X7_noiseNow l D tb X z0 n bo g G F sf inp out M0 S B L P hN kk hW (by omega)) (kv_L_122 hw rfl rfl ⟨Nat.le_of_ble_eq_true rfl, Nat.le_of_ble_eq_true rfl⟩) rfl rfl (bq_at h_b) rfl (Nat.le_of_ble_eq_true rfl) dL_horizon_345 ⟨Nat.le_of_ble_eq_true rfl, Nat.le_of_ble_eq_true rfl⟩ (fun H locs hM => ?_)
                                              refine lv_icmp_ne (tgt := 355) hx hb dL_horizon_348 (by decide) (fun c_21 => ?_) (fun c_21 => ?_)
                                              · exact absurd (by rw [hT, c_20]) c_21
                                              · refine lv_iconst (v := 1) hx hb dL_horizon_351 (by decide) ?_
                                                refine lv_goto (tgt := 356) hx hb dL_horizon_352 (by decide) ?_
                                                refine lv_istore_n (lv' := [(2, .int 1), (8, .int 0), (7, .int 0), (6, .int (noF g L P kk (nI (T + i)))), (0, .ref bo), (1, .int (nI (ct + 1))), (3, .int (nI (T + i))), (4, .int (-1)), (5, .int (nI kk))]) hx hb dL_horizon_356 rfl hl (by decide) rfl (fun ls hl => ?_)
                                                refine lv_iinc (v := nI (kk + 1)) (lv' := [(5, .int (nI (kk + 1))), (2, .int 1), (8, .int 0), (7, .int 0), (6, .int (noF g L P kk (nI (T + i)))), (0, .ref bo), (1, .int (nI (ct + 1))), (3, .int (nI (T + i))), (4, .int (-1))]) hx hb dL_horizon_357 hl (k := 8) rfl (nx_add rfl rfl) (by decide) rfl (fun ls hl => ?_)
                                                refine lv_goto (tgt := 206) hx hb dL_horizon_360 (by decide) ?_
                                                exact ih_206 qC (by omega) (kk + 1) _ _ _ (by omega) hM (lv_sub hl [5, 6, 1, 7, 8, 0] rfl)
                                      · exact absurd c_17 (by decide)
                                    · exact absurd c_16 (by decide)
                                  · have c_15q := Int32.not_lt.mp c_15
                                    refine lv_iconst (v := 1) hx hb dL_horizon_265 (by decide) ?_
                                    refine lv_goto (tgt := 270) hx hb dL_horizon_266 (by decide) ?_
                                    refine lv_istore (lv' := [(8, .int 1), (7, .int 0), (6, .int (noF g L P kk (nI (T + i)))), (0, .ref bo), (1, .int (nI (ct + 1))), (2, .int 1), (3, .int (nI (T + i))), (4, .int (-1)), (5, .int (nI kk))]) hx hb dL_horizon_270 hl (by decide) rfl (fun ls hl => ?_)
                                    refine lv_iload hx hb dL_horizon_272 (lv_at hl 1 rfl) ?_
                                    refine lv_if_eq (tgt := 295) hx hb dL_horizon_274 (by decide) (fun c_22 => ?_) (fun c_22 => ?_)
                                    · refine lv_iload hx hb dL_horizon_295 (lv_at hl 0 rfl) ?_
                                      refine lv_if_eq (tgt := 315) hx hb dL_horizon_297 (by decide) (fun c_23 => ?_) (fun c_23 => ?_)
                                      · exact absurd c_23 (by decide)
                                      · refine lv_iload hx hb dL_horizon_300 (lv_at hl 2 rfl) ?_
                                        refine lv_bipush (v := 40) hx hb dL_horizon_302 (by decide) ?_
                                        refine lv_icmp_lt (tgt := 311) hx hb dL_horizon_304 (by decide) (fun c_24 => ?_) (fun c_24 => ?_)
                                        · have c_24q := Int32.not_le.mpr c_24
                                          exact absurd c_24 (hN2 i kk (by omega) (by omega) hnl c_15)
                                        · have c_24q := Int32.not_lt.mp c_24
                                          refine lv_iconst (v := 1) hx hb dL_horizon_307 (by decide) ?_
                                          refine lv_goto (tgt := 327) hx hb dL_horizon_308 (by decide) ?_
                                          refine lv_istore_n (lv' := [(2, .int 1), (8, .int 1), (7, .int 0), (6, .int (noF g L P kk (nI (T + i)))), (0, .ref bo), (1, .int (nI (ct + 1))), (3, .int (nI (T + i))), (4, .int (-1)), (5, .int (nI kk))]) hx hb dL_horizon_327 rfl hl (by decide) rfl (fun ls hl => ?_)
                                          refine lv_iload_n hx hb dL_horizon_328 rfl (lv_at hl 0 rfl) ?_
                                          refine lv_if_eq (tgt := 355) hx hb dL_horizon_329 (by decide) (fun c_25 => ?_) (fun c_25 => ?_)
                                          · exact absurd c_25 (by decide)
                                          · refine lv_iload_n hx hb dL_horizon_332 rfl (lv_at hl 6 rfl) ?_
                                            refine lv_aload_n hx hb dL_horizon_333 rfl (lv_at hl 4 rfl) ?_
                                            refine me_callVi (As := []) (rest := [.int (nI (T + i))]) hC hl.1 hM (c_X7_clock l D tb X z0 n bo g G F sf inp out M0 S B L P  ) (kv_L_104 hw rfl rfl ⟨Nat.le_of_ble_eq_true rfl, Nat.le_of_ble_eq_true rfl⟩) rfl rfl (bq_at h_b) rfl (Nat.le_of_ble_eq_true rfl) dL_horizon_334 ⟨Nat.le_of_ble_eq_true rfl, Nat.le_of_ble_eq_true rfl⟩ (fun H locs hM => ?_)
                                            refine me_evi (y := nI T) hT ?_
                                            refine lv_icmp_ne (tgt := 351) hx hb dL_horizon_337 (by decide) (fun c_26 => ?_) (fun c_26 => ?_)
                                            · have c_26 := (not_congr (br_eq rfl rfl (by omega) (by omega))).mp c_26
                                              refine lv_iconst (v := 1) hx hb dL_horizon_351 (by decide) ?_
                                              refine lv_goto (tgt := 356) hx hb dL_horizon_352 (by decide) ?_
                                              refine lv_istore_n (lv' := [(2, .int 1), (8, .int 1), (7, .int 0), (6, .int (noF g L P kk (nI (T + i)))), (0, .ref bo), (1, .int (nI (ct + 1))), (3, .int (nI (T + i))), (4, .int (-1)), (5, .int (nI kk))]) hx hb dL_horizon_356 rfl hl (by decide) rfl (fun ls hl => ?_)
                                              refine lv_iinc (v := nI (kk + 1)) (lv' := [(5, .int (nI (kk + 1))), (2, .int 1), (8, .int 1), (7, .int 0), (6, .int (noF g L P kk (nI (T + i)))), (0, .ref bo), (1, .int (nI (ct + 1))), (3, .int (nI (T + i))), (4, .int (-1))]) hx hb dL_horizon_357 hl (k := 8) rfl (nx_add rfl rfl) (by decide) rfl (fun ls hl => ?_)
                                              refine lv_goto (tgt := 206) hx hb dL_horizon_360 (by decide) ?_
                                              exact ih_206 qC (by omega) (kk + 1) _ _ _ (by omega) hM (lv_sub hl [5, 6, 1, 7, 8, 0] rfl)
                                            · have c_26 := (br_eq rfl rfl (by omega) (by omega)).mp c_26
                                              refine lv_iload hx hb dL_horizon_340 (lv_at hl 3 rfl) ?_
                                              refine lv_aload_n hx hb dL_horizon_342 rfl (lv_at hl 4 rfl) ?_
                                              refine lv_iload hx hb dL_horizon_343 (lv_at hl 8 rfl) ?_
                                              refine me_callVi (As := [.int (nI kk)]) (rest := [.int (noF g L P kk (nI (T + i)))]) hC hl.1 hM (c_X7_noiseNow l D tb X z0 n bo g G F sf inp out M0 S B L P hN kk hW (by omega)) (kv_L_122 hw rfl rfl ⟨Nat.le_of_ble_eq_true rfl, Nat.le_of_ble_eq_true rfl⟩) rfl rfl (bq_at h_b) rfl (Nat.le_of_ble_eq_true rfl) dL_horizon_345 ⟨Nat.le_of_ble_eq_true rfl, Nat.le_of_ble_eq_true rfl⟩ (fun H locs hM => ?_)
                                              refine lv_icmp_ne (tgt := 355) hx hb dL_horizon_348 (by decide) (fun c_27 => ?_) (fun c_27 => ?_)
                                              · exact absurd (by rw [hT, c_26]) c_27
                                              · refine lv_iconst (v := 1) hx hb dL_horizon_351 (by decide) ?_
                                                refine lv_goto (tgt := 356) hx hb dL_horizon_352 (by decide) ?_
                                                refine lv_istore_n (lv' := [(2, .int 1), (8, .int 1), (7, .int 0), (6, .int (noF g L P kk (nI (T + i)))), (0, .ref bo), (1, .int (nI (ct + 1))), (3, .int (nI (T + i))), (4, .int (-1)), (5, .int (nI kk))]) hx hb dL_horizon_356 rfl hl (by decide) rfl (fun ls hl => ?_)
                                                refine lv_iinc (v := nI (kk + 1)) (lv' := [(5, .int (nI (kk + 1))), (2, .int 1), (8, .int 1), (7, .int 0), (6, .int (noF g L P kk (nI (T + i)))), (0, .ref bo), (1, .int (nI (ct + 1))), (3, .int (nI (T + i))), (4, .int (-1))]) hx hb dL_horizon_357 hl (k := 8) rfl (nx_add rfl rfl) (by decide) rfl (fun ls hl => ?_)
                                                refine lv_goto (tgt := 206) hx hb dL_horizon_360 (by decide) ?_
                                                exact ih_206 qC (by omega) (kk + 1) _ _ _ (by omega) hM (lv_sub hl [5, 6, 1, 7, 8, 0] rfl)
                                    · exact absurd c_22 (by decide)
                                · exact absurd c_14 (by decide)
                          exact lp_206 S 0 _ _ _ (by omega) hM (lv_sub hl [3, 2, 1, 4, 5, 0] rfl)
                  · skip
                    refine lv_iload_n hx hb dL_horizon_170 rfl (lv_at hl 1 rfl) ?_
                    refine lv_iload hx hb dL_horizon_171 (lv_at hl 4 rfl) ?_
                    refine lv_if_ge (tgt := 180) hx hb dL_horizon_173 (by decide) (fun c_28 => ?_) (fun c_28 => ?_)
                    · have c_28q := c_28
                      have c_28 := Int32.not_lt.mpr c_28
                      refine lv_iconst (v := 0) hx hb dL_horizon_180 (by decide) ?_
                      refine lv_iadd hx hb dL_horizon_181 ?_
                      refine me_evi (y := nI ct) (nx_z rfl) ?_
                      refine lv_istore_n (lv' := [(1, .int (nI ct)), (0, .ref bo), (2, .int 1), (3, .int (nI (T + i))), (4, .int (nI j)), (5, .int (nI k))]) hx hb dL_horizon_182 rfl hl (by decide) rfl (fun ls hl => ?_)
                      refine lv_iload_n hx hb dL_horizon_183 rfl (lv_at hl 2 rfl) ?_
                      refine lv_if_eq (tgt := 201) hx hb dL_horizon_184 (by decide) (fun c_29 => ?_) (fun c_29 => ?_)
                      · exact absurd c_29 (by decide)
                      · refine lv_aload_n hx hb dL_horizon_187 rfl (lv_at hl 1 rfl) ?_
                        refine lv_iload_n hx hb dL_horizon_188 rfl (lv_at hl 3 rfl) ?_
                        refine me_callVi (As := [.int (nI (T + i))]) (rest := []) hC hl.1 hM (c_X7_holderOf l D tb X z0 n bo g G F sf inp out M0 S B L P T (T + i) hW hT hT0 (by omega) (by omega)) (kv_L_165 hw rfl rfl ⟨Nat.le_of_ble_eq_true rfl, Nat.le_of_ble_eq_true rfl⟩) rfl rfl (bq_at h_b) rfl (Nat.le_of_ble_eq_true rfl) dL_horizon_189 ⟨Nat.le_of_ble_eq_true rfl, Nat.le_of_ble_eq_true rfl⟩ (fun H locs hM => ?_)
                        refine me_evi (y := nI j) hy.symm ?_
                        refine lv_iload hx hb dL_horizon_192 (lv_at hl 4 rfl) ?_
                        refine lv_icmp_ne (tgt := 201) hx hb dL_horizon_194 (by decide) (fun c_30 => ?_) (fun c_30 => ?_)
                        · exact absurd rfl c_30
                        · refine lv_iconst (v := 1) hx hb dL_horizon_197 (by decide) ?_
                          refine lv_goto (tgt := 202) hx hb dL_horizon_198 (by decide) ?_
                          refine lv_istore_n (lv' := [(2, .int 1), (1, .int (nI ct)), (0, .ref bo), (3, .int (nI (T + i))), (4, .int (nI j)), (5, .int (nI k))]) hx hb dL_horizon_202 rfl hl (by decide) rfl (fun ls hl => ?_)
                          refine lv_iconst (v := 0) hx hb dL_horizon_203 (by decide) ?_
                          refine lv_istore (lv' := [(5, .int 0), (2, .int 1), (1, .int (nI ct)), (0, .ref bo), (3, .int (nI (T + i))), (4, .int (nI j))]) hx hb dL_horizon_204 hl (by decide) rfl (fun ls hl => ?_)
                          have lp_206 : ∀ (rC : Nat) (kk : Nat) (H : Heap) (locs : List Loc) (ls : Array Slot), (kk + rC = S) → me_at D z0 (sp tb (bo + 722) g (bq tb bo G F sf inp out M0)) n s H locs → lv_has ls 9 [(0, .ref bo), (1, .int (nI ct)), (2, .int 1), (3, .int (nI (T + i))), (4, .int (nI j)), (5, .int (nI kk))] → W p l e (({ frames := 5, cells := 0, slots := 0, locals := 112 } : Room)) s m args below meth c H locs 0 0 (MQ below (me_Qp D z0 (fun r1 M1 => r1 = 1 ∧ M1 = sp tb (bo + 722) g (bq tb bo G F sf inp out M0))) args s 0 0 (me_A z0)) (F0 m 206 ls []) := by
                            intro rC
                            refine Nat.strongRecOn rC ?_
                            intro rC ih_206 kk H locs ls hkC hM hl
                            refine lv_iload hx hb dL_horizon_206 (lv_at hl 5 rfl) ?_
                            refine lv_aload_n hx hb dL_horizon_208 rfl (lv_at hl 0 rfl) ?_
                            refine me_callVi (As := []) (rest := [.int (nI kk)]) hC hl.1 hM (c_X7_streetCount l D tb X z0 n bo g G F sf inp out M0 S B L P  ) (kv_L_113 hw rfl rfl ⟨Nat.le_of_ble_eq_true rfl, Nat.le_of_ble_eq_true rfl⟩) rfl rfl (bq_at h_b) rfl (Nat.le_of_ble_eq_true rfl) dL_horizon_209 ⟨Nat.le_of_ble_eq_true rfl, Nat.le_of_ble_eq_true rfl⟩ (fun H locs hM => ?_)
                            refine me_evi (y := nI S) hW.1 ?_
                            refine lv_icmp_ge (tgt := 363) hx hb dL_horizon_212 (by decide) (fun c_31 => ?_) (fun c_31 => ?_)
                            · have c_31 := (br_le rfl rfl (by omega) (by omega)).mp c_31
                              refine lv_iinc (v := nI (T + i + 1)) (lv' := [(3, .int (nI (T + i + 1))), (0, .ref bo), (1, .int (nI ct)), (2, .int 1), (4, .int (nI j)), (5, .int (nI kk))]) hx hb dL_horizon_363 hl (k := 3) rfl (nx_add rfl rfl) (by decide) rfl (fun ls hl => ?_)
                              refine lv_goto (tgt := 56) hx hb dL_horizon_366 (by decide) ?_
                              exact ih_56 qA (by omega) (i + 1) ct _ _ _ (by omega) (by rw [hqA, co_f (P := fun i => hoF g L (nI (T + i)) = -1) (k := i) (r := qA) (fun z => nI_nm1 (k := j) (by omega) (hy.trans z))]) hM (lv_sub hl [1, 2, 3, 0] rfl)
                            · have c_31 := (not_congr (br_le rfl rfl (by omega) (by omega))).mp c_31
                              obtain ⟨qC, rfl⟩ : ∃ qC, rC = qC + 1 := ⟨rC - 1, by omega⟩
                              refine lv_iload_n hx hb dL_horizon_215 rfl (lv_at hl 2 rfl) ?_
                              refine lv_if_eq (tgt := 363) hx hb dL_horizon_216 (by decide) (fun c_32 => ?_) (fun c_32 => ?_)
                              · exact absurd c_32 (by decide)
                              · refine lv_aload_n hx hb dL_horizon_219 rfl (lv_at hl 0 rfl) ?_
                                refine lv_iload hx hb dL_horizon_220 (lv_at hl 5 rfl) ?_
                                refine lv_iload_n hx hb dL_horizon_222 rfl (lv_at hl 3 rfl) ?_
                                refine me_callVi (As := [.int (nI kk), .int (nI (T + i))]) (rest := []) hC hl.1 hM (c_X7_noiseAt l D tb X z0 n bo g G F sf inp out M0 S B L P T hN kk (T + i) hW hT hT0 (by omega) (by omega) (by omega)) (kv_L_168 hw rfl rfl ⟨Nat.le_of_ble_eq_true rfl, Nat.le_of_ble_eq_true rfl⟩) rfl rfl (bq_at h_b) rfl (Nat.le_of_ble_eq_true rfl) dL_horizon_223 ⟨Nat.le_of_ble_eq_true rfl, Nat.le_of_ble_eq_true rfl⟩ (fun H locs hM => ?_)
                                refine lv_istore (lv' := [(6, .int (noF g L P kk (nI (T + i)))), (0, .ref bo), (1, .int (nI ct)), (2, .int 1), (3, .int (nI (T + i))), (4, .int (nI j)), (5, .int (nI kk))]) hx hb dL_horizon_226 hl (by decide) rfl (fun ls hl => ?_)
                                refine lv_iload hx hb dL_horizon_228 (lv_at hl 5 rfl) ?_
                                refine lv_if_lt (tgt := 252) hx hb dL_horizon_230 (by decide) (fun c_33 => ?_) (fun c_33 => ?_)
                                · exact absurd c_33 (nI_pos (by omega))
                                · have c_33q := Int32.not_lt.mp c_33
                                  have how := (hwl j hj).2
                                  have hhm := (hwb (ow g j) how).2
                                  refine lv_aload_n hx hb dL_horizon_233 rfl (lv_at hl 1 rfl) ?_
                                  refine lv_aload_n hx hb dL_horizon_234 rfl (lv_at hl 1 rfl) ?_
                                  refine lv_iload hx hb dL_horizon_235 (lv_at hl 5 rfl) ?_
                                  refine me_callVi (As := [.int (nI j)]) (rest := [.ref bo]) hC hl.1 hM (c_X7_borrowerOf l D tb X z0 n bo g G F sf inp out M0 S B L P j hW (by omega)) (kv_L_140 hw rfl rfl ⟨Nat.le_of_ble_eq_true rfl, Nat.le_of_ble_eq_true rfl⟩) rfl rfl (bq_at h_b) rfl (Nat.le_of_ble_eq_true rfl) dL_horizon_237 ⟨Nat.le_of_ble_eq_true rfl, Nat.le_of_ble_eq_true rfl⟩ (fun H locs hM => ?_)
                                  refine me_evi (y := nI (ow g j)) (hwl j hj).1 ?_
                                  refine me_callVi (As := [.int (nI (ow g j))]) (rest := []) hC hl.1 hM (c_X7_streetOf l D tb X z0 n bo g G F sf inp out M0 S B L P (ow g j) hW (by omega)) (kv_L_128 hw rfl rfl ⟨Nat.le_of_ble_eq_true rfl, Nat.le_of_ble_eq_true rfl⟩) rfl rfl (bq_at h_b) rfl (Nat.le_of_ble_eq_true rfl) dL_horizon_240 ⟨Nat.le_of_ble_eq_true rfl, Nat.le_of_ble_eq_true rfl⟩ (fun H locs hM => ?_)
                                  refine me_evi (y := nI (hm g (ow g j))) (hwb (ow g j) (hwl j hj).2).1 ?_
                                  refine lv_iload hx hb dL_horizon_243 (lv_at hl 6 rfl) ?_
                                  refine lv_icmp_ne (tgt := 252) hx hb dL_horizon_245 (by decide) (fun c_34 => ?_) (fun c_34 => ?_)
                                  · have c_34 := (not_congr (br_eq rfl rfl (by omega) (by omega))).mp c_34
                                    have hnl : ¬ ∃ j, j < L ∧ hoF g L (nI (T + i)) = nI j ∧ hm g (ow g j) = kk := fun ⟨j2, hj2, e, e2⟩ => c_34 ((show j2 = j from (nI_eq (by omega) (by omega)).mp (e.symm.trans hy.symm)) ▸ e2)
                                    refine lv_iconst (v := 0) hx hb dL_horizon_252 (by decide) ?_
                                    refine lv_istore (lv' := [(7, .int 0), (6, .int (noF g L P kk (nI (T + i)))), (0, .ref bo), (1, .int (nI ct)), (2, .int 1), (3, .int (nI (T + i))), (4, .int (nI j)), (5, .int (nI kk))]) hx hb dL_horizon_253 hl (by decide) rfl (fun ls hl => ?_)
                                    refine lv_aload_n hx hb dL_horizon_255 rfl (lv_at hl 2 rfl) ?_
                                    refine lv_iload hx hb dL_horizon_256 (lv_at hl 7 rfl) ?_
                                    refine lv_iload_n hx hb dL_horizon_258 rfl (lv_at hl 5 rfl) ?_
                                    refine me_callVi (As := [.int (nI kk), .int (nI (T + i))]) (rest := []) hC hl.1 hM (c_X7_permitFor l D tb X z0 n bo g G F sf inp out M0 S B L P T kk (T + i) hW hT hT0 (by omega) (by omega) (by omega)) (kv_L_155 hw rfl rfl ⟨Nat.le_of_ble_eq_true rfl, Nat.le_of_ble_eq_true rfl⟩) rfl rfl (bq_at h_b) rfl (Nat.le_of_ble_eq_true rfl) dL_horizon_259 ⟨Nat.le_of_ble_eq_true rfl, Nat.le_of_ble_eq_true rfl⟩ (fun H locs hM => ?_)
                                    refine lv_if_lt (tgt := 269) hx hb dL_horizon_262 (by decide) (fun c_35 => ?_) (fun c_35 => ?_)
                                    · have c_35q := Int32.not_le.mpr c_35
                                      refine lv_iconst (v := 0) hx hb dL_horizon_269 (by decide) ?_
                                      refine lv_istore (lv' := [(8, .int 0), (7, .int 0), (6, .int (noF g L P kk (nI (T + i)))), (0, .ref bo), (1, .int (nI ct)), (2, .int 1), (3, .int (nI (T + i))), (4, .int (nI j)), (5, .int (nI kk))]) hx hb dL_horizon_270 hl (by decide) rfl (fun ls hl => ?_)
                                      refine lv_iload hx hb dL_horizon_272 (lv_at hl 1 rfl) ?_
                                      refine lv_if_eq (tgt := 295) hx hb dL_horizon_274 (by decide) (fun c_36 => ?_) (fun c_36 => ?_)
                                      · refine lv_iload hx hb dL_horizon_295 (lv_at hl 0 rfl) ?_
                                        refine lv_if_eq (tgt := 315) hx hb dL_horizon_297 (by decide) (fun c_37 => ?_) (fun c_37 => ?_)
                                        · refine lv_iload hx hb dL_horizon_315 (lv_at hl 2 rfl) ?_
                                          refine lv_bipush (v := 99) hx hb dL_horizon_317 (by decide) ?_
                                          refine lv_icmp_gt (tgt := 326) hx hb dL_horizon_319 (by decide) (fun c_38 => ?_) (fun c_38 => ?_)
                                          · have c_38q := Int32.not_le.mpr c_38
                                            exact absurd c_38 (hN3 i kk (by omega) (by omega) hnl c_35)
                                          · have c_38q := Int32.not_lt.mp c_38
                                            refine lv_iconst (v := 1) hx hb dL_horizon_322 (by decide) ?_
                                            refine lv_goto (tgt := 327) hx hb dL_horizon_323 (by decide) ?_
                                            refine lv_istore_n (lv' := [(2, .int 1), (8, .int 0), (7, .int 0), (6, .int (noF g L P kk (nI (T + i)))), (0, .ref bo), (1, .int (nI ct)), (3, .int (nI (T + i))), (4, .int (nI j)), (5, .int (nI kk))]) hx hb dL_horizon_327 rfl hl (by decide) rfl (fun ls hl => ?_)
                                            refine lv_iload_n hx hb dL_horizon_328 rfl (lv_at hl 0 rfl) ?_
                                            refine lv_if_eq (tgt := 355) hx hb dL_horizon_329 (by decide) (fun c_39 => ?_) (fun c_39 => ?_)
                                            · exact absurd c_39 (by decide)
                                            · refine lv_iload_n hx hb dL_horizon_332 rfl (lv_at hl 6 rfl) ?_
                                              refine lv_aload_n hx hb dL_horizon_333 rfl (lv_at hl 4 rfl) ?_
                                              refine me_callVi (As := []) (rest := [.int (nI (T + i))]) hC hl.1 hM (c_X7_clock l D tb X z0 n bo g G F sf inp out M0 S B L P  ) (kv_L_104 hw rfl rfl ⟨Nat.le_of_ble_eq_true rfl, Nat.le_of_ble_eq_true rfl⟩) rfl rfl (bq_at h_b) rfl (Nat.le_of_ble_eq_true rfl) dL_horizon_334 ⟨Nat.le_of_ble_eq_true rfl, Nat.le_of_ble_eq_true rfl⟩ (fun H locs hM => ?_)
                                              refine me_evi (y := nI T) hT ?_
                                              refine lv_icmp_ne (tgt := 351) hx hb dL_horizon_337 (by decide) (fun c_40 => ?_) (fun c_40 => ?_)
                                              · have c_40 := (not_congr (br_eq rfl rfl (by omega) (by omega))).mp c_40
                                                refine lv_iconst (v := 1) hx hb dL_horizon_351 (by decide) ?_
                                                refine lv_goto (tgt := 356) hx hb dL_horizon_352 (by decide) ?_
                                                refine lv_istore_n (lv' := [(2, .int 1), (8, .int 0), (7, .int 0), (6, .int (noF g L P kk (nI (T + i)))), (0, .ref bo), (1, .int (nI ct)), (3, .int (nI (T + i))), (4, .int (nI j)), (5, .int (nI kk))]) hx hb dL_horizon_356 rfl hl (by decide) rfl (fun ls hl => ?_)
                                                refine lv_iinc (v := nI (kk + 1)) (lv' := [(5, .int (nI (kk + 1))), (2, .int 1), (8, .int 0), (7, .int 0), (6, .int (noF g L P kk (nI (T + i)))), (0, .ref bo), (1, .int (nI ct)), (3, .int (nI (T + i))), (4, .int (nI j))]) hx hb dL_horizon_357 hl (k := 8) rfl (nx_add rfl rfl) (by decide) rfl (fun ls hl => ?_)
                                                refine lv_goto (tgt := 206) hx hb dL_horizon_360 (by decide) ?_
                                                exact ih_206 qC (by omega) (kk + 1) _ _ _ (by omega) hM (lv_sub hl [5, 6, 1, 7, 8, 0] rfl)
                                              · have c_40 := (br_eq rfl rfl (by omega) (by omega)).mp c_40
                                                refine lv_iload hx hb dL_horizon_340 (lv_at hl 3 rfl) ?_
                                                refine lv_aload_n hx hb dL_horizon_342 rfl (lv_at hl 4 rfl) ?_
                                                refine lv_iload hx hb dL_horizon_343 (lv_at hl 8 rfl) ?_
                                                refine me_callVi (As := [.int (nI kk)]) (rest := [.int (noF g L P kk (nI (T + i)))]) hC hl.1 hM (c_X7_noiseNow l D tb X z0 n bo g G F sf inp out M0 S B L P hN kk hW (by omega)) (kv_L_122 hw rfl rfl ⟨Nat.le_of_ble_eq_true rfl, Nat.le_of_ble_eq_true rfl⟩) rfl rfl (bq_at h_b) rfl (Nat.le_of_ble_eq_true rfl) dL_horizon_345 ⟨Nat.le_of_ble_eq_true rfl, Nat.le_of_ble_eq_true rfl⟩ (fun H locs hM => ?_)
                                                refine lv_icmp_ne (tgt := 355) hx hb dL_horizon_348 (by decide) (fun c_41 => ?_) (fun c_41 => ?_)
                                                · exact absurd (by rw [hT, c_40]) c_41
                                                · refine lv_iconst (v := 1) hx hb dL_horizon_351 (by decide) ?_
                                                  refine lv_goto (tgt := 356) hx hb dL_horizon_352 (by decide) ?_
                                                  refine lv_istore_n (lv' := [(2, .int 1), (8, .int 0), (7, .int 0), (6, .int (noF g L P kk (nI (T + i)))), (0, .ref bo), (1, .int (nI ct)), (3, .int (nI (T + i))), (4, .int (nI j)), (5, .int (nI kk))]) hx hb dL_horizon_356 rfl hl (by decide) rfl (fun ls hl => ?_)
                                                  refine lv_iinc (v := nI (kk + 1)) (lv' := [(5, .int (nI (kk + 1))), (2, .int 1), (8, .int 0), (7, .int 0), (6, .int (noF g L P kk (nI (T + i)))), (0, .ref bo), (1, .int (nI ct)), (3, .int (nI (T + i))), (4, .int (nI j))]) hx hb dL_horizon_357 hl (k := 8) rfl (nx_add rfl rfl) (by decide) rfl (fun ls hl => ?_)
                                                  refine lv_goto (tgt := 206) hx hb dL_horizon_360 (by decide) ?_
                                                  exact ih_206 qC (by omega) (kk + 1) _ _ _ (by omega) hM (lv_sub hl [5, 6, 1, 7, 8, 0] rfl)
                                        · exact absurd c_37 (by decide)
                                      · exact absurd c_36 (by decide)
                                    · have c_35q := Int32.not_lt.mp c_35
                                      refine lv_iconst (v := 1) hx hb dL_horizon_265 (by decide) ?_
                                      refine lv_goto (tgt := 270) hx hb dL_horizon_266 (by decide) ?_
                                      refine lv_istore (lv' := [(8, .int 1), (7, .int 0), (6, .int (noF g L P kk (nI (T + i)))), (0, .ref bo), (1, .int (nI ct)), (2, .int 1), (3, .int (nI (T + i))), (4, .int (nI j)), (5, .int (nI kk))]) hx hb dL_horizon_270 hl (by decide) rfl (fun ls hl => ?_)
                                      refine lv_iload hx hb dL_horizon_272 (lv_at hl 1 rfl) ?_
                                      refine lv_if_eq (tgt := 295) hx hb dL_horizon_274 (by decide) (fun c_42 => ?_) (fun c_42 => ?_)
                                      · refine lv_iload hx hb dL_horizon_295 (lv_at hl 0 rfl) ?_
                                        refine lv_if_eq (tgt := 315) hx hb dL_horizon_297 (by decide) (fun c_43 => ?_) (fun c_43 => ?_)
                                        · exact absurd c_43 (by decide)
                                        · refine lv_iload hx hb dL_horizon_300 (lv_at hl 2 rfl) ?_
                                          refine lv_bipush (v := 40) hx hb dL_horizon_302 (by decide) ?_
                                          refine lv_icmp_lt (tgt := 311) hx hb dL_horizon_304 (by decide) (fun c_44 => ?_) (fun c_44 => ?_)
                                          · have c_44q := Int32.not_le.mpr c_44
                                            exact absurd c_44 (hN2 i kk (by omega) (by omega) hnl c_35)
                                          · have c_44q := Int32.not_lt.mp c_44
                                            refine lv_iconst (v := 1) hx hb dL_horizon_307 (by decide) ?_
                                            refine lv_goto (tgt := 327) hx hb dL_horizon_308 (by decide) ?_
                                            refine lv_istore_n (lv' := [(2, .int 1), (8, .int 1), (7, .int 0), (6, .int (noF g L P kk (nI (T + i)))), (0, .ref bo), (1, .int (nI ct)), (3, .int (nI (T + i))), (4, .int (nI j)), (5, .int (nI kk))]) hx hb dL_horizon_327 rfl hl (by decide) rfl (fun ls hl => ?_)
                                            refine lv_iload_n hx hb dL_horizon_328 rfl (lv_at hl 0 rfl) ?_
                                            refine lv_if_eq (tgt := 355) hx hb dL_horizon_329 (by decide) (fun c_45 => ?_) (fun c_45 => ?_)
                                            · exact absurd c_45 (by decide)
                                            · refine lv_iload_n hx hb dL_horizon_332 rfl (lv_at hl 6 rfl) ?_
                                              refine lv_aload_n hx hb dL_horizon_333 rfl (lv_at hl 4 rfl) ?_
                                              refine me_callVi (As := []) (rest := [.int (nI (T + i))]) hC hl.1 hM (c_X7_clock l D tb X z0 n bo g G F sf inp out M0 S B L P  ) (kv_L_104 hw rfl rfl ⟨Nat.le_of_ble_eq_true rfl, Nat.le_of_ble_eq_true rfl⟩) rfl rfl (bq_at h_b) rfl (Nat.le_of_ble_eq_true rfl) dL_horizon_334 ⟨Nat.le_of_ble_eq_true rfl, Nat.le_of_ble_eq_true rfl⟩ (fun H locs hM => ?_)
                                              refine me_evi (y := nI T) hT ?_
                                              refine lv_icmp_ne (tgt := 351) hx hb dL_horizon_337 (by decide) (fun c_46 => ?_) (fun c_46 => ?_)
                                              · have c_46 := (not_congr (br_eq rfl rfl (by omega) (by omega))).mp c_46
                                                refine lv_iconst (v := 1) hx hb dL_horizon_351 (by decide) ?_
                                                refine lv_goto (tgt := 356) hx hb dL_horizon_352 (by decide) ?_
                                                refine lv_istore_n (lv' := [(2, .int 1), (8, .int 1), (7, .int 0), (6, .int (noF g L P kk (nI (T + i)))), (0, .ref bo), (1, .int (nI ct)), (3, .int (nI (T + i))), (4, .int (nI j)), (5, .int (nI kk))]) hx hb dL_horizon_356 rfl hl (by decide) rfl (fun ls hl => ?_)
                                                refine lv_iinc (v := nI (kk + 1)) (lv' := [(5, .int (nI (kk + 1))), (2, .int 1), (8, .int 1), (7, .int 0), (6, .int (noF g L P kk (nI (T + i)))), (0, .ref bo), (1, .int (nI ct)), (3, .int (nI (T + i))), (4, .int (nI j))]) hx hb dL_horizon_357 hl (k := 8) rfl (nx_add rfl rfl) (by decide) rfl (fun ls hl => ?_)
                                                refine lv_goto (tgt := 206) hx hb dL_horizon_360 (by decide) ?_
                                                exact ih_206 qC (by omega) (kk + 1) _ _ _ (by omega) hM (lv_sub hl [5, 6, 1, 7, 8, 0] rfl)
                                              · have c_46 := (br_eq rfl rfl (by omega) (by omega)).mp c_46
                                                refine lv_iload hx hb dL_horizon_340 (lv_at hl 3 rfl) ?_
                                                refine lv_aload_n hx hb dL_horizon_342 rfl (lv_at hl 4 rfl) ?_
                                                refine lv_iload hx hb dL_horizon_343 (lv_at hl 8 rfl) ?_
                                                refine me_callVi (As := [.int (nI kk)]) (rest := [.int (noF g L P kk (nI (T + i)))]) hC hl.1 hM (c_X7_noiseNow l D tb X z0 n bo g G F sf inp out M0 S B L P hN kk hW (by omega)) (kv_L_122 hw rfl rfl ⟨Nat.le_of_ble_eq_true rfl, Nat.le_of_ble_eq_true rfl⟩) rfl rfl (bq_at h_b) rfl (Nat.le_of_ble_eq_true rfl) dL_horizon_345 ⟨Nat.le_of_ble_eq_true rfl, Nat.le_of_ble_eq_true rfl⟩ (fun H locs hM => ?_)
                                                refine lv_icmp_ne (tgt := 355) hx hb dL_horizon_348 (by decide) (fun c_47 => ?_) (fun c_47 => ?_)
                                                · exact absurd (by rw [hT, c_46]) c_47
                                                · refine lv_iconst (v := 1) hx hb dL_horizon_351 (by decide) ?_
                                                  refine lv_goto (tgt := 356) hx hb dL_horizon_352 (by decide) ?_
                                                  refine lv_istore_n (lv' := [(2, .int 1), (8, .int 1), (7, .int 0), (6, .int (noF g L P kk (nI (T + i)))), (0, .ref bo), (1, .int (nI ct)), (3, .int (nI (T + i))), (4, .int (nI j)), (5, .int (nI kk))]) hx hb dL_horizon_356 rfl hl (by decide) rfl (fun ls hl => ?_)
                                                  refine lv_iinc (v := nI (kk + 1)) (lv' := [(5, .int (nI (kk + 1))), (2, .int 1), (8, .int 1), (7, .int 0), (6, .int (noF g L P kk (nI (T + i)))), (0, .ref bo), (1, .int (nI ct)), (3, .int (nI (T + i))), (4, .int (nI j))]) hx hb dL_horizon_357 hl (k := 8) rfl (nx_add rfl rfl) (by decide) rfl (fun ls hl => ?_)
                                                  refine lv_goto (tgt := 206) hx hb dL_horizon_360 (by decide) ?_
                                                  exact ih_206 qC (by omega) (kk + 1) _ _ _ (by omega) hM (lv_sub hl [5, 6, 1, 7, 8, 0] rfl)
                                      · exact absurd c_42 (by decide)
                                  · have c_34 := (br_eq rfl rfl (by omega) (by omega)).mp c_34
                                    refine lv_iconst (v := 1) hx hb dL_horizon_248 (by decide) ?_
                                    refine lv_goto (tgt := 253) hx hb dL_horizon_249 (by decide) ?_
                                    refine lv_istore (lv' := [(7, .int 1), (6, .int (noF g L P kk (nI (T + i)))), (0, .ref bo), (1, .int (nI ct)), (2, .int 1), (3, .int (nI (T + i))), (4, .int (nI j)), (5, .int (nI kk))]) hx hb dL_horizon_253 hl (by decide) rfl (fun ls hl => ?_)
                                    refine lv_aload_n hx hb dL_horizon_255 rfl (lv_at hl 2 rfl) ?_
                                    refine lv_iload hx hb dL_horizon_256 (lv_at hl 7 rfl) ?_
                                    refine lv_iload_n hx hb dL_horizon_258 rfl (lv_at hl 5 rfl) ?_
                                    refine me_callVi (As := [.int (nI kk), .int (nI (T + i))]) (rest := []) hC hl.1 hM (c_X7_permitFor l D tb X z0 n bo g G F sf inp out M0 S B L P T kk (T + i) hW hT hT0 (by omega) (by omega) (by omega)) (kv_L_155 hw rfl rfl ⟨Nat.le_of_ble_eq_true rfl, Nat.le_of_ble_eq_true rfl⟩) rfl rfl (bq_at h_b) rfl (Nat.le_of_ble_eq_true rfl) dL_horizon_259 ⟨Nat.le_of_ble_eq_true rfl, Nat.le_of_ble_eq_true rfl⟩ (fun H locs hM => ?_)
                                    refine lv_if_lt (tgt := 269) hx hb dL_horizon_262 (by decide) (fun c_48 => ?_) (fun c_48 => ?_)
                                    · have c_48q := Int32.not_le.mpr c_48
                                      refine lv_iconst (v := 0) hx hb dL_horizon_269 (by decide) ?_
                                      refine lv_istore (lv' := [(8, .int 0), (7, .int 1), (6, .int (noF g L P kk (nI (T + i)))), (0, .ref bo), (1, .int (nI ct)), (2, .int 1), (3, .int (nI (T + i))), (4, .int (nI j)), (5, .int (nI kk))]) hx hb dL_horizon_270 hl (by decide) rfl (fun ls hl => ?_)
                                      refine lv_iload hx hb dL_horizon_272 (lv_at hl 1 rfl) ?_
                                      refine lv_if_eq (tgt := 295) hx hb dL_horizon_274 (by decide) (fun c_49 => ?_) (fun c_49 => ?_)
                                      · exact absurd c_49 (by decide)
                                      · refine lv_iload hx hb dL_horizon_277 (lv_at hl 2 rfl) ?_
                                        refine lv_if_ne (tgt := 291) hx hb dL_horizon_279 (by decide) (fun c_50 => ?_) (fun c_50 => ?_)
                                        · exact absurd (hN1 i kk j (by omega) (by omega) hj hy.symm c_34).1 c_50
                                        · refine lv_iload hx hb dL_horizon_282 (lv_at hl 0 rfl) ?_
                                          refine lv_if_ne (tgt := 291) hx hb dL_horizon_284 (by decide) (fun c_51 => ?_) (fun c_51 => ?_)
                                          · exact absurd c_51 (by decide)
                                          · refine lv_iconst (v := 1) hx hb dL_horizon_287 (by decide) ?_
                                            refine lv_goto (tgt := 327) hx hb dL_horizon_288 (by decide) ?_
                                            refine lv_istore_n (lv' := [(2, .int 1), (8, .int 0), (7, .int 1), (6, .int (noF g L P kk (nI (T + i)))), (0, .ref bo), (1, .int (nI ct)), (3, .int (nI (T + i))), (4, .int (nI j)), (5, .int (nI kk))]) hx hb dL_horizon_327 rfl hl (by decide) rfl (fun ls hl => ?_)
                                            refine lv_iload_n hx hb dL_horizon_328 rfl (lv_at hl 0 rfl) ?_
                                            refine lv_if_eq (tgt := 355) hx hb dL_horizon_329 (by decide) (fun c_52 => ?_) (fun c_52 => ?_)
                                            · exact absurd c_52 (by decide)
                                            · refine lv_iload_n hx hb dL_horizon_332 rfl (lv_at hl 6 rfl) ?_
                                              refine lv_aload_n hx hb dL_horizon_333 rfl (lv_at hl 4 rfl) ?_
                                              refine me_callVi (As := []) (rest := [.int (nI (T + i))]) hC hl.1 hM (c_X7_clock l D tb X z0 n bo g G F sf inp out M0 S B L P  ) (kv_L_104 hw rfl rfl ⟨Nat.le_of_ble_eq_true rfl, Nat.le_of_ble_eq_true rfl⟩) rfl rfl (bq_at h_b) rfl (Nat.le_of_ble_eq_true rfl) dL_horizon_334 ⟨Nat.le_of_ble_eq_true rfl, Nat.le_of_ble_eq_true rfl⟩ (fun H locs hM => ?_)
                                              refine me_evi (y := nI T) hT ?_
                                              refine lv_icmp_ne (tgt := 351) hx hb dL_horizon_337 (by decide) (fun c_53 => ?_) (fun c_53 => ?_)
                                              · have c_53 := (not_congr (br_eq rfl rfl (by omega) (by omega))).mp c_53
                                                refine lv_iconst (v := 1) hx hb dL_horizon_351 (by decide) ?_
                                                refine lv_goto (tgt := 356) hx hb dL_horizon_352 (by decide) ?_
                                                refine lv_istore_n (lv' := [(2, .int 1), (8, .int 0), (7, .int 1), (6, .int (noF g L P kk (nI (T + i)))), (0, .ref bo), (1, .int (nI ct)), (3, .int (nI (T + i))), (4, .int (nI j)), (5, .int (nI kk))]) hx hb dL_horizon_356 rfl hl (by decide) rfl (fun ls hl => ?_)
                                                refine lv_iinc (v := nI (kk + 1)) (lv' := [(5, .int (nI (kk + 1))), (2, .int 1), (8, .int 0), (7, .int 1), (6, .int (noF g L P kk (nI (T + i)))), (0, .ref bo), (1, .int (nI ct)), (3, .int (nI (T + i))), (4, .int (nI j))]) hx hb dL_horizon_357 hl (k := 8) rfl (nx_add rfl rfl) (by decide) rfl (fun ls hl => ?_)
                                                refine lv_goto (tgt := 206) hx hb dL_horizon_360 (by decide) ?_
                                                exact ih_206 qC (by omega) (kk + 1) _ _ _ (by omega) hM (lv_sub hl [5, 6, 1, 7, 8, 0] rfl)
                                              · have c_53 := (br_eq rfl rfl (by omega) (by omega)).mp c_53
                                                refine lv_iload hx hb dL_horizon_340 (lv_at hl 3 rfl) ?_
                                                refine lv_aload_n hx hb dL_horizon_342 rfl (lv_at hl 4 rfl) ?_
                                                refine lv_iload hx hb dL_horizon_343 (lv_at hl 8 rfl) ?_
                                                refine me_callVi (As := [.int (nI kk)]) (rest := [.int (noF g L P kk (nI (T + i)))]) hC hl.1 hM (c_X7_noiseNow l D tb X z0 n bo g G F sf inp out M0 S B L P hN kk hW (by omega)) (kv_L_122 hw rfl rfl ⟨Nat.le_of_ble_eq_true rfl, Nat.le_of_ble_eq_true rfl⟩) rfl rfl (bq_at h_b) rfl (Nat.le_of_ble_eq_true rfl) dL_horizon_345 ⟨Nat.le_of_ble_eq_true rfl, Nat.le_of_ble_eq_true rfl⟩ (fun H locs hM => ?_)
                                                refine lv_icmp_ne (tgt := 355) hx hb dL_horizon_348 (by decide) (fun c_54 => ?_) (fun c_54 => ?_)
                                                · exact absurd (by rw [hT, c_53]) c_54
                                                · refine lv_iconst (v := 1) hx hb dL_horizon_351 (by decide) ?_
                                                  refine lv_goto (tgt := 356) hx hb dL_horizon_352 (by decide) ?_
                                                  refine lv_istore_n (lv' := [(2, .int 1), (8, .int 0), (7, .int 1), (6, .int (noF g L P kk (nI (T + i)))), (0, .ref bo), (1, .int (nI ct)), (3, .int (nI (T + i))), (4, .int (nI j)), (5, .int (nI kk))]) hx hb dL_horizon_356 rfl hl (by decide) rfl (fun ls hl => ?_)
                                                  refine lv_iinc (v := nI (kk + 1)) (lv' := [(5, .int (nI (kk + 1))), (2, .int 1), (8, .int 0), (7, .int 1), (6, .int (noF g L P kk (nI (T + i)))), (0, .ref bo), (1, .int (nI ct)), (3, .int (nI (T + i))), (4, .int (nI j))]) hx hb dL_horizon_357 hl (k := 8) rfl (nx_add rfl rfl) (by decide) rfl (fun ls hl => ?_)
                                                  refine lv_goto (tgt := 206) hx hb dL_horizon_360 (by decide) ?_
                                                  exact ih_206 qC (by omega) (kk + 1) _ _ _ (by omega) hM (lv_sub hl [5, 6, 1, 7, 8, 0] rfl)
                                    · have c_48q := Int32.not_lt.mp c_48
                                      refine lv_iconst (v := 1) hx hb dL_horizon_265 (by decide) ?_
                                      refine lv_goto (tgt := 270) hx hb dL_horizon_266 (by decide) ?_
                                      refine lv_istore (lv' := [(8, .int 1), (7, .int 1), (6, .int (noF g L P kk (nI (T + i)))), (0, .ref bo), (1, .int (nI ct)), (2, .int 1), (3, .int (nI (T + i))), (4, .int (nI j)), (5, .int (nI kk))]) hx hb dL_horizon_270 hl (by decide) rfl (fun ls hl => ?_)
                                      refine lv_iload hx hb dL_horizon_272 (lv_at hl 1 rfl) ?_
                                      refine lv_if_eq (tgt := 295) hx hb dL_horizon_274 (by decide) (fun c_55 => ?_) (fun c_55 => ?_)
                                      · exact absurd c_55 (by decide)
                                      · refine lv_iload hx hb dL_horizon_277 (lv_at hl 2 rfl) ?_
                                        refine lv_if_ne (tgt := 291) hx hb dL_horizon_279 (by decide) (fun c_56 => ?_) (fun c_56 => ?_)
                                        · exact absurd (hN1 i kk j (by omega) (by omega) hj hy.symm c_34).1 c_56
                                        · refine lv_iload hx hb dL_horizon_282 (lv_at hl 0 rfl) ?_
                                          refine lv_if_ne (tgt := 291) hx hb dL_horizon_284 (by decide) (fun c_57 => ?_) (fun c_57 => ?_)
                                          · exact absurd (hN1 i kk j (by omega) (by omega) hj hy.symm c_34).2 c_48
                                          · exact absurd c_57 (by decide)
                          exact lp_206 S 0 _ _ _ (by omega) hM (lv_sub hl [3, 2, 1, 4, 5, 0] rfl)
                    · exact absurd (nI_pos' (by omega)) c_28
                · have c_8 := (not_congr (br_le rfl rfl (by omega) (by omega))).mp c_8
                  obtain ⟨qB, rfl⟩ : ∃ qB, rB = qB + 1 := ⟨rB - 1, by omega⟩
                  refine lv_aload_n hx hb dL_horizon_86 rfl (lv_at hl 0 rfl) ?_
                  refine lv_iload hx hb dL_horizon_87 (lv_at hl 5 rfl) ?_
                  refine me_callVi (As := [.int (nI k)]) (rest := []) hC hl.1 hM (c_X7_statusOf l D tb X z0 n bo g G F sf inp out M0 S B L P k hW (by omega)) (kv_L_152 hw rfl rfl ⟨Nat.le_of_ble_eq_true rfl, Nat.le_of_ble_eq_true rfl⟩) rfl rfl (bq_at h_b) rfl (Nat.le_of_ble_eq_true rfl) dL_horizon_89 ⟨Nat.le_of_ble_eq_true rfl, Nat.le_of_ble_eq_true rfl⟩ (fun H locs hM => ?_)
                  refine lv_iconst (v := 2) hx hb dL_horizon_92 (by decide) ?_
                  refine lv_icmp_ge (tgt := 127) hx hb dL_horizon_93 (by decide) (fun c_58 => ?_) (fun c_58 => ?_)
                  · have c_58q := c_58
                    have c_58 := Int32.not_lt.mpr c_58
                    refine lv_iconst (v := 0) hx hb dL_horizon_127 (by decide) ?_
                    refine lv_istore (lv' := [(6, .int 0), (0, .ref bo), (1, .int (nI ct)), (2, .int 1), (3, .int (nI (T + i))), (4, .int y), (5, .int (nI k))]) hx hb dL_horizon_128 hl (by decide) rfl (fun ls hl => ?_)
                    refine lv_iload_n hx hb dL_horizon_130 rfl (lv_at hl 3 rfl) ?_
                    refine lv_if_eq (tgt := 148) hx hb dL_horizon_131 (by decide) (fun c_59 => ?_) (fun c_59 => ?_)
                    · exact absurd c_59 (by decide)
                    · refine lv_iload hx hb dL_horizon_134 (lv_at hl 0 rfl) ?_
                      refine lv_if_eq (tgt := 144) hx hb dL_horizon_136 (by decide) (fun c_60 => ?_) (fun c_60 => ?_)
                      · refine lv_iconst (v := 1) hx hb dL_horizon_144 (by decide) ?_
                        refine lv_goto (tgt := 149) hx hb dL_horizon_145 (by decide) ?_
                        refine lv_istore_n (lv' := [(2, .int 1), (6, .int 0), (0, .ref bo), (1, .int (nI ct)), (3, .int (nI (T + i))), (4, .int y), (5, .int (nI k))]) hx hb dL_horizon_149 rfl hl (by decide) rfl (fun ls hl => ?_)
                        refine lv_iload hx hb dL_horizon_150 (lv_at hl 1 rfl) ?_
                        refine lv_if_eq (tgt := 160) hx hb dL_horizon_152 (by decide) (fun c_61 => ?_) (fun c_61 => ?_)
                        · refine lv_iload hx hb dL_horizon_160 (lv_at hl 5 rfl) ?_
                          refine lv_istore (lv' := [(4, .int y), (2, .int 1), (6, .int 0), (0, .ref bo), (1, .int (nI ct)), (3, .int (nI (T + i))), (5, .int (nI k))]) hx hb dL_horizon_162 hl (by decide) rfl (fun ls hl => ?_)
                          refine lv_iinc (v := nI (k + 1)) (lv' := [(5, .int (nI (k + 1))), (4, .int y), (2, .int 1), (6, .int 0), (0, .ref bo), (1, .int (nI ct)), (3, .int (nI (T + i)))]) hx hb dL_horizon_164 hl (k := 6) rfl (nx_add rfl rfl) (by decide) rfl (fun ls hl => ?_)
                          refine lv_goto (tgt := 77) hx hb dL_horizon_167 (by decide) ?_
                          exact ih_77 qB (by omega) (k + 1) y _ _ _ (by omega) (hqB.trans (if_neg (fun z => c_58 z.1)).symm) hM (lv_sub hl [4, 5, 2, 6, 1, 0] rfl)
                        · exact absurd c_61 (by decide)
                      · exact absurd c_60 (by decide)
                  · have c_58q := c_58
                    have c_58 := Int32.not_le.mp c_58
                    refine lv_iload_n hx hb dL_horizon_96 rfl (lv_at hl 3 rfl) ?_
                    refine lv_aload_n hx hb dL_horizon_97 rfl (lv_at hl 0 rfl) ?_
                    refine lv_iload hx hb dL_horizon_98 (lv_at hl 5 rfl) ?_
                    refine me_callVi (As := [.int (nI k)]) (rest := [.int (nI (T + i))]) hC hl.1 hM (c_X7_startOf l D tb X z0 n bo g G F sf inp out M0 S B L P k hW (by omega)) (kv_L_143 hw rfl rfl ⟨Nat.le_of_ble_eq_true rfl, Nat.le_of_ble_eq_true rfl⟩) rfl rfl (bq_at h_b) rfl (Nat.le_of_ble_eq_true rfl) dL_horizon_100 ⟨Nat.le_of_ble_eq_true rfl, Nat.le_of_ble_eq_true rfl⟩ (fun H locs hM => ?_)
                    refine lv_icmp_lt (tgt := 127) hx hb dL_horizon_103 (by decide) (fun c_62 => ?_) (fun c_62 => ?_)
                    · have c_62q := Int32.not_le.mpr c_62
                      refine lv_iconst (v := 0) hx hb dL_horizon_127 (by decide) ?_
                      refine lv_istore (lv' := [(6, .int 0), (0, .ref bo), (1, .int (nI ct)), (2, .int 1), (3, .int (nI (T + i))), (4, .int y), (5, .int (nI k))]) hx hb dL_horizon_128 hl (by decide) rfl (fun ls hl => ?_)
                      refine lv_iload_n hx hb dL_horizon_130 rfl (lv_at hl 3 rfl) ?_
                      refine lv_if_eq (tgt := 148) hx hb dL_horizon_131 (by decide) (fun c_63 => ?_) (fun c_63 => ?_)
                      · exact absurd c_63 (by decide)
                      · refine lv_iload hx hb dL_horizon_134 (lv_at hl 0 rfl) ?_
                        refine lv_if_eq (tgt := 144) hx hb dL_horizon_136 (by decide) (fun c_64 => ?_) (fun c_64 => ?_)
                        · refine lv_iconst (v := 1) hx hb dL_horizon_144 (by decide) ?_
                          refine lv_goto (tgt := 149) hx hb dL_horizon_145 (by decide) ?_
                          refine lv_istore_n (lv' := [(2, .int 1), (6, .int 0), (0, .ref bo), (1, .int (nI ct)), (3, .int (nI (T + i))), (4, .int y), (5, .int (nI k))]) hx hb dL_horizon_149 rfl hl (by decide) rfl (fun ls hl => ?_)
                          refine lv_iload hx hb dL_horizon_150 (lv_at hl 1 rfl) ?_
                          refine lv_if_eq (tgt := 160) hx hb dL_horizon_152 (by decide) (fun c_65 => ?_) (fun c_65 => ?_)
                          · refine lv_iload hx hb dL_horizon_160 (lv_at hl 5 rfl) ?_
                            refine lv_istore (lv' := [(4, .int y), (2, .int 1), (6, .int 0), (0, .ref bo), (1, .int (nI ct)), (3, .int (nI (T + i))), (5, .int (nI k))]) hx hb dL_horizon_162 hl (by decide) rfl (fun ls hl => ?_)
                            refine lv_iinc (v := nI (k + 1)) (lv' := [(5, .int (nI (k + 1))), (4, .int y), (2, .int 1), (6, .int 0), (0, .ref bo), (1, .int (nI ct)), (3, .int (nI (T + i)))]) hx hb dL_horizon_164 hl (k := 6) rfl (nx_add rfl rfl) (by decide) rfl (fun ls hl => ?_)
                            refine lv_goto (tgt := 77) hx hb dL_horizon_167 (by decide) ?_
                            exact ih_77 qB (by omega) (k + 1) y _ _ _ (by omega) (hqB.trans (if_neg (fun z => c_62q z.2.1)).symm) hM (lv_sub hl [4, 5, 2, 6, 1, 0] rfl)
                          · exact absurd c_65 (by decide)
                        · exact absurd c_64 (by decide)
                    · have c_62q := Int32.not_lt.mp c_62
                      refine lv_iload_n hx hb dL_horizon_106 rfl (lv_at hl 3 rfl) ?_
                      refine lv_aload_n hx hb dL_horizon_107 rfl (lv_at hl 0 rfl) ?_
                      refine lv_iload hx hb dL_horizon_108 (lv_at hl 5 rfl) ?_
                      refine me_callVi (As := [.int (nI k)]) (rest := [.int (nI (T + i))]) hC hl.1 hM (c_X7_startOf l D tb X z0 n bo g G F sf inp out M0 S B L P k hW (by omega)) (kv_L_143 hw rfl rfl ⟨Nat.le_of_ble_eq_true rfl, Nat.le_of_ble_eq_true rfl⟩) rfl rfl (bq_at h_b) rfl (Nat.le_of_ble_eq_true rfl) dL_horizon_110 ⟨Nat.le_of_ble_eq_true rfl, Nat.le_of_ble_eq_true rfl⟩ (fun H locs hM => ?_)
                      refine lv_aload_n hx hb dL_horizon_113 rfl (lv_at hl 0 rfl) ?_
                      refine lv_iload hx hb dL_horizon_114 (lv_at hl 5 rfl) ?_
                      refine me_callVi (As := [.int (nI k)]) (rest := [.int (g (261 + 5 * k + 1)), .int (nI (T + i))]) hC hl.1 hM (c_X7_lengthOf l D tb X z0 n bo g G F sf inp out M0 S B L P k hW (by omega)) (kv_L_146 hw rfl rfl ⟨Nat.le_of_ble_eq_true rfl, Nat.le_of_ble_eq_true rfl⟩) rfl rfl (bq_at h_b) rfl (Nat.le_of_ble_eq_true rfl) dL_horizon_116 ⟨Nat.le_of_ble_eq_true rfl, Nat.le_of_ble_eq_true rfl⟩ (fun H locs hM => ?_)
                      refine lv_iadd hx hb dL_horizon_119 ?_
                      refine lv_icmp_ge (tgt := 127) hx hb dL_horizon_120 (by decide) (fun c_66 => ?_) (fun c_66 => ?_)
                      · have c_66q := c_66
                        have c_66 := Int32.not_lt.mpr c_66
                        refine lv_iconst (v := 0) hx hb dL_horizon_127 (by decide) ?_
                        refine lv_istore (lv' := [(6, .int 0), (0, .ref bo), (1, .int (nI ct)), (2, .int 1), (3, .int (nI (T + i))), (4, .int y), (5, .int (nI k))]) hx hb dL_horizon_128 hl (by decide) rfl (fun ls hl => ?_)
                        refine lv_iload_n hx hb dL_horizon_130 rfl (lv_at hl 3 rfl) ?_
                        refine lv_if_eq (tgt := 148) hx hb dL_horizon_131 (by decide) (fun c_67 => ?_) (fun c_67 => ?_)
                        · exact absurd c_67 (by decide)
                        · refine lv_iload hx hb dL_horizon_134 (lv_at hl 0 rfl) ?_
                          refine lv_if_eq (tgt := 144) hx hb dL_horizon_136 (by decide) (fun c_68 => ?_) (fun c_68 => ?_)
                          · refine lv_iconst (v := 1) hx hb dL_horizon_144 (by decide) ?_
                            refine lv_goto (tgt := 149) hx hb dL_horizon_145 (by decide) ?_
                            refine lv_istore_n (lv' := [(2, .int 1), (6, .int 0), (0, .ref bo), (1, .int (nI ct)), (3, .int (nI (T + i))), (4, .int y), (5, .int (nI k))]) hx hb dL_horizon_149 rfl hl (by decide) rfl (fun ls hl => ?_)
                            refine lv_iload hx hb dL_horizon_150 (lv_at hl 1 rfl) ?_
                            refine lv_if_eq (tgt := 160) hx hb dL_horizon_152 (by decide) (fun c_69 => ?_) (fun c_69 => ?_)
                            · refine lv_iload hx hb dL_horizon_160 (lv_at hl 5 rfl) ?_
                              refine lv_istore (lv' := [(4, .int y), (2, .int 1), (6, .int 0), (0, .ref bo), (1, .int (nI ct)), (3, .int (nI (T + i))), (5, .int (nI k))]) hx hb dL_horizon_162 hl (by decide) rfl (fun ls hl => ?_)
                              refine lv_iinc (v := nI (k + 1)) (lv' := [(5, .int (nI (k + 1))), (4, .int y), (2, .int 1), (6, .int 0), (0, .ref bo), (1, .int (nI ct)), (3, .int (nI (T + i)))]) hx hb dL_horizon_164 hl (k := 6) rfl (nx_add rfl rfl) (by decide) rfl (fun ls hl => ?_)
                              refine lv_goto (tgt := 77) hx hb dL_horizon_167 (by decide) ?_
                              exact ih_77 qB (by omega) (k + 1) y _ _ _ (by omega) (hqB.trans (if_neg (fun z => c_66 z.2.2)).symm) hM (lv_sub hl [4, 5, 2, 6, 1, 0] rfl)
                            · exact absurd c_69 (by decide)
                          · exact absurd c_68 (by decide)
                      · have c_66q := c_66
                        have c_66 := Int32.not_le.mp c_66
                        refine lv_iconst (v := 1) hx hb dL_horizon_123 (by decide) ?_
                        refine lv_goto (tgt := 128) hx hb dL_horizon_124 (by decide) ?_
                        refine lv_istore (lv' := [(6, .int 1), (0, .ref bo), (1, .int (nI ct)), (2, .int 1), (3, .int (nI (T + i))), (4, .int y), (5, .int (nI k))]) hx hb dL_horizon_128 hl (by decide) rfl (fun ls hl => ?_)
                        refine lv_iload_n hx hb dL_horizon_130 rfl (lv_at hl 3 rfl) ?_
                        refine lv_if_eq (tgt := 148) hx hb dL_horizon_131 (by decide) (fun c_70 => ?_) (fun c_70 => ?_)
                        · exact absurd c_70 (by decide)
                        · refine lv_iload hx hb dL_horizon_134 (lv_at hl 0 rfl) ?_
                          refine lv_if_eq (tgt := 144) hx hb dL_horizon_136 (by decide) (fun c_71 => ?_) (fun c_71 => ?_)
                          · exact absurd c_71 (by decide)
                          · refine lv_iload hx hb dL_horizon_139 (lv_at hl 5 rfl) ?_
                            refine lv_if_ge (tgt := 148) hx hb dL_horizon_141 (by decide) (fun c_72 => ?_) (fun c_72 => ?_)
                            · have c_72q := c_72
                              have c_72 := Int32.not_lt.mpr c_72
                              exact absurd (show y < 0 from by rw [hqB, h1 (T + i) k (by omega) (by omega) (by omega) ⟨c_58, c_62q, c_66⟩]; decide) c_72
                            · have c_72q := c_72
                              have c_72 := Int32.not_le.mp c_72
                              refine lv_iconst (v := 1) hx hb dL_horizon_144 (by decide) ?_
                              refine lv_goto (tgt := 149) hx hb dL_horizon_145 (by decide) ?_
                              refine lv_istore_n (lv' := [(2, .int 1), (6, .int 1), (0, .ref bo), (1, .int (nI ct)), (3, .int (nI (T + i))), (4, .int y), (5, .int (nI k))]) hx hb dL_horizon_149 rfl hl (by decide) rfl (fun ls hl => ?_)
                              refine lv_iload hx hb dL_horizon_150 (lv_at hl 1 rfl) ?_
                              refine lv_if_eq (tgt := 160) hx hb dL_horizon_152 (by decide) (fun c_73 => ?_) (fun c_73 => ?_)
                              · exact absurd c_73 (by decide)
                              · refine lv_iload hx hb dL_horizon_155 (lv_at hl 6 rfl) ?_
                                refine lv_goto (tgt := 162) hx hb dL_horizon_157 (by decide) ?_
                                refine lv_istore (lv' := [(4, .int (nI k)), (2, .int 1), (6, .int 1), (0, .ref bo), (1, .int (nI ct)), (3, .int (nI (T + i))), (5, .int (nI k))]) hx hb dL_horizon_162 hl (by decide) rfl (fun ls hl => ?_)
                                refine lv_iinc (v := nI (k + 1)) (lv' := [(5, .int (nI (k + 1))), (4, .int (nI k)), (2, .int 1), (6, .int 1), (0, .ref bo), (1, .int (nI ct)), (3, .int (nI (T + i)))]) hx hb dL_horizon_164 hl (k := 6) rfl (nx_add rfl rfl) (by decide) rfl (fun ls hl => ?_)
                                refine lv_goto (tgt := 77) hx hb dL_horizon_167 (by decide) ?_
                                exact ih_77 qB (by omega) (k + 1) (nI k) _ _ _ (by omega) ((if_pos ⟨c_58, c_62q, c_66⟩).symm) hM (lv_sub hl [4, 5, 2, 6, 1, 0] rfl)
              exact lp_77 L 0 (-1) _ _ _ (by omega) rfl hM (lv_sub hl [2, 3, 4, 5, 1, 0] rfl)
        exact lp_56 48 0 0 _ _ _ (by omega) ((Nat.zero_add _).symm) hM (lv_sub hl [3, 2, 1, 0] rfl)
    refine lv_icmp_lt (tgt := 37) hx hb dL_horizon_22 (by decide) (fun c_74 => ?_) (fun c_74 => ?_)
    · have c_74 := (br_lt rfl (nx_c 6) (by omega) (by omega)).mp c_74
      refine lv_iconst (v := 1) hx hb dL_horizon_37 (by decide) ?_
      refine lv_goto (tgt := 42) hx hb dL_horizon_38 (by decide) ?_
      exact jn_42 1 (b1_t ((nh_T hT hT0).mpr (by omega))) _ _ hM
    · have c_74 := (not_congr (br_lt rfl (nx_c 6) (by omega) (by omega))).mp c_74
      refine lv_aload_n hx hb dL_horizon_25 rfl (lv_at hl 1 rfl) ?_
      refine me_callVi (As := []) (rest := [.int (b1 (nh (g 2)))]) hC hl.1 hM (c_X7_clock l D tb X z0 n bo g G F sf inp out M0 S B L P  ) (kv_L_104 hw rfl rfl ⟨Nat.le_of_ble_eq_true rfl, Nat.le_of_ble_eq_true rfl⟩) rfl rfl (bq_at h_b) rfl (Nat.le_of_ble_eq_true rfl) dL_horizon_26 ⟨Nat.le_of_ble_eq_true rfl, Nat.le_of_ble_eq_true rfl⟩ (fun H locs hM => ?_)
      refine me_evi (y := nI T) hT ?_
      refine lv_bipush (v := 24) hx hb dL_horizon_29 (by decide) ?_
      refine lv_irem hx hb dL_horizon_31 (by decide) ?_
      refine me_evi (y := nI (T % 24)) (nx_rem 24 rfl (by omega) (by omega) (by omega)) ?_
      refine lv_bipush (v := 21) hx hb dL_horizon_32 (by decide) ?_
      refine lv_icmp_le (tgt := 41) hx hb dL_horizon_34 (by decide) (fun c_75 => ?_) (fun c_75 => ?_)
      · have c_75 := (br_le rfl (nx_c 21) (by omega) (by omega)).mp c_75
        refine lv_iconst (v := 0) hx hb dL_horizon_41 (by decide) ?_
        exact jn_42 0 (b1_f (fun z => absurd ((nh_T hT hT0).mp z) (by omega))) _ _ hM
      · have c_75 := (not_congr (br_le rfl (nx_c 21) (by omega) (by omega))).mp c_75
        refine lv_iconst (v := 1) hx hb dL_horizon_37 (by decide) ?_
        refine lv_goto (tgt := 42) hx hb dL_horizon_38 (by decide) ?_
        exact jn_42 1 (b1_t ((nh_T hT hT0).mpr (by omega))) _ _ hM
