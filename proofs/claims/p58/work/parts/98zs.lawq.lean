section LAWE
variable {p : Program} {l : Launch} {e : Env} {s : State} {m : MethodId} {args : Array Value} {below : List Frame} {meth : Method} {c : Code} {H : Heap} {locs : List Loc} {Q : State → Prop} {ls : Array Slot} {cells slots : Nat}
variable {D : va_G} {tb : Nat → ClassId} {X : State → Prop} {z0 n b bo ra : Nat} {g f F sf inp out : Nat → Int32} {G : Nat → Nat → Int32} {M0 : me_M}
variable {S B L P T nx ct N u q T0 : Nat} {bg : Int64} {ck : Int32}
theorem me_fr {M : me_M} (hM : me_at D z0 M n s H locs) : ∀ q, n ≤ q → M q = none := by
  intro q hq
  cases e : M q with
  | none => rfl
  | some x =>
    have h1 := hM.1.lt e
    have h2 := hM.2.1
    omega
theorem me_up_cm {M : me_M} {a b : Nat} {x y : va_E} (h : a ≠ b) : me_up (me_up M a x) b y = me_up (me_up M b y) a x := by
  funext q
  unfold me_up
  by_cases h1 : q = a
  · subst h1; rw [if_neg h, if_pos rfl, if_pos rfl]
  · rw [if_neg h1, if_neg h1]
set_option maxHeartbeats 4000000 in
theorem law_e (hfl : l.stackTraces = false) (hN : ∀ U, X U → me_nest U) (hXs : ∀ U, X U → me_xs z0 U) (hCE : ∀ U, X U → me_ce U) (hra : bo + 919 ≤ ra) (hI : iv N T S B L P g) (hT9 : T ≤ 200) (hF0 : F 0 = 0) (hnx : F 4 = nI nx) (hnx0 : nx < 10) (hct : F 5 = nI ct) (hct0 : ct ≤ 10) (hu : u = 7) (hq2 : q < 2) (hsf : ¬ sf q = 0) (hIw : iv 200 T0 S B 0 0 (G (12 + q))) (hT0w : T0 ≤ 30) (hbg : bg = sumF (G (12 + q)) S B 0 0 T0) (hck : ck = nI T0) (hC : me_cx ws_all p c cL_law 12 s args m RL D tb X z0) (hM : me_at D z0 (sp tb (bo + 722) g (bq tb bo G F sf inp out (me_up M0 ra (.inl (tb 0, 1, .inl f))))) n s H locs) (hl : lv_has ls 12 [(0, .ref b), (1, .ref bo), (2, .ref ra), (3, .int 1), (4, .int (nI q)), (6, .long bg), (8, .int ck), (9, .int (nI u))]) (hcell : cells ≤ 500000 ∧ slots ≤ 6000000) (kk : ∀ (g2 : Nat → Int32) (G2 : Nat → Nat → Int32) (F2 f2 : Nat → Int32) (S2 B2 L2 P2 nx2 : Nat) (ls : Array Slot) (H : Heap) (locs : List Loc) (n2 : Nat), wf g2 S2 B2 L2 P2 → F2 0 = 0 → F2 4 = nI nx2 → nx2 < 10 → me_at D z0 (sp tb (bo + 722) g2 (bq tb bo G2 F2 sf inp out (me_up M0 ra (.inl (tb 0, 1, .inl f2))))) n2 s H locs → lv_has ls 12 [(0, .ref b), (1, .ref bo), (2, .ref ra), (3, .int 1), (4, .int (nI (q + 1)))] → W p l e room_1 s m args below meth c H locs (cells + 100) (slots + 500) Q (F0 m 34 ls [])) : W p l e room_1 s m args below meth c H locs cells slots Q (F0 m 130 ls []) := by
  have hx := hC.1
  have hb := hC.2.1
  have hw := hC.2.2.2.2.1
  have hW := hI.1
  have hT := hI.2.1
  have hT0 : T ≤ 10000 := by omega
  refine lv_iload hx hb dL_law_130 (lv_at hl 7 rfl) ?_
  refine lv_bipush (v := 7) hx hb dL_law_132 (by decide) ?_
  refine lv_icmp_ge (tgt := 374) hx hb dL_law_134 (by decide) (fun c_1 => ?_) (fun c_1 => ?_)
  · have c_1 := (br_le (nx_c 7) rfl (by omega) (by omega)).mp c_1
    refine lv_iload_n hx hb dL_law_374 rfl (lv_at hl 3 rfl) ?_
    refine lv_if_eq (tgt := 414) hx hb dL_law_375 (by decide) (fun c_2 => ?_) (fun c_2 => ?_)
    · exact absurd c_2 (by decide)
    · refine lv_aload_n hx hb dL_law_378 rfl (lv_at hl 2 rfl) ?_
      refine me_callSp (As := [.ref ra]) (rest := []) hC hl.1 hM (c_L_next l D tb X z0 n ra f (sp tb (bo + 722) g (bq tb bo G F sf inp out (me_up M0 ra (.inl (tb 0, 1, .inl f))))) (bq_some hra (me_up_s _ _ _))) (ks_L_79 hw rfl rfl ⟨Nat.le_of_ble_eq_true rfl, Nat.le_of_ble_eq_true rfl⟩) rfl rfl (Nat.le_of_ble_eq_true rfl) dL_law_379 ⟨by show cells + 0 ≤ 630311; omega, by show slots + 0 ≤ 7210765; omega⟩ (fun r_1 M_1 hP_1 H locs n_1 hM => ?_)
      obtain ⟨v_1, f_1, rfl, hv_1, rfl⟩ := hP_1
      have hM := hM.eq (bq_upo hra)
      refine lv_iconst (v := 2) hx hb dL_law_382 (by decide) ?_
      refine lv_irem hx hb dL_law_383 (by decide) ?_
      refine me_evi (y := nI (v_1 % 2)) (nx_rem 2 rfl (by omega) (by omega) (by omega)) ?_
      refine lv_if_ne (tgt := 414) hx hb dL_law_384 (by decide) (fun c_3 => ?_) (fun c_3 => ?_)
      · have c_3 := (not_congr (br_eq rfl (show (0 : Int32) = nI 0 from rfl) (by omega) (by omega))).mp c_3
        refine lv_iinc (v := nI (q + 1)) (lv' := [(4, .int (nI (q + 1))), (0, .ref b), (1, .ref bo), (2, .ref ra), (3, .int 1), (6, .long bg), (8, .int ck), (9, .int (nI u))]) hx hb dL_law_414 hl (k := 4) rfl (nx_add rfl rfl) (by decide) rfl (fun ls hl => ?_)
        refine lv_goto (tgt := 34) hx hb dL_law_417 (by decide) ?_
        exact W.widen (by omega) (by omega) (kk g G F f_1 S B L P nx ls H locs n_1 hW hF0 hnx hnx0 hM (lv_sub hl [1, 2, 3, 4, 0] rfl))
      · have c_3 := (br_eq rfl (show (0 : Int32) = nI 0 from rfl) (by omega) (by omega)).mp c_3
        refine lv_aload_n hx hb dL_law_387 rfl (lv_at hl 1 rfl) ?_
        refine lv_iload hx hb dL_law_388 (lv_at hl 4 rfl) ?_
        refine me_callVi (As := [.int (nI q)]) (rest := []) hC hl.1 hM (c_X7_restore l D tb X z0 n_1 bo g G F sf inp out (me_up M0 ra (.inl (tb 0, 1, .inl f_1))) S B L P nx ct q S B 0 0 hW hnx hnx0 hct hct0 hq2 hsf hIw.1) (kv_L_259 hw rfl rfl ⟨Nat.le_of_ble_eq_true rfl, Nat.le_of_ble_eq_true rfl⟩) rfl rfl (bq_at h_b) rfl (Nat.le_of_ble_eq_true rfl) dL_law_390 ⟨by show (cells + 0) + 0 ≤ 630311; omega, by show (slots + 0) + 0 ≤ 7210765; omega⟩ (fun H locs hM => ?_)
        have hGq : recG G g S B L P nx (12 + q) = G (12 + q) := updG_n (by omega)
        rw [hGq] at hM
        obtain ⟨G2, hG2⟩ : ∃ z, recG G g S B L P nx = z := ⟨_, rfl⟩
        obtain ⟨F2, hF2⟩ : ∃ z, recF F nx ct = z := ⟨_, rfl⟩
        rw [hG2, hF2] at hM
        have hA2 := iv_cp hIw g
        obtain ⟨g2, hg2⟩ : ∃ z, cpF (G (12 + q)) S B 0 0 g = z := ⟨_, rfl⟩
        rw [hg2] at hM hA2
        have hI2 := iv_ag hA2 hIw
        have hW2 := hI2.1
        have hT2 := hI2.2.1
        have hT3 : T0 ≤ 10000 := by omega
        have hs2 := iv_sum hA2 hIw (by omega)
        have hF02 : F2 0 = 0 := by rw [← hF2]; unfold recF; rw [upd_n (by omega), upd_n (by omega)]; exact hF0
        have hF42 : F2 4 = nI ((nx + 1) % 10) := by rw [← hF2]; unfold recF; rw [upd_n (by omega), upd_s]
        refine me_evi (y := nI T0) ((congrArg (fun x => cpF x S B 0 0 g 2) hGq).trans ((congrFun hg2 2).trans hT2)) ?_
        refine lv_iload hx hb dL_law_393 (lv_at hl 6 rfl) ?_
        refine me_evi (y := nI T0) hck ?_
        refine lv_icmp_ne (tgt := 412) hx hb dL_law_395 (by decide) (fun c_4 => ?_) (fun c_4 => ?_)
        · exact absurd rfl c_4
        · refine lv_aload_n hx hb dL_law_398 rfl (lv_at hl 1 rfl) ?_
          refine me_callSl (As := [.ref bo]) (rest := []) hC hl.1 hM (c_L_sum l D tb X z0 n_1 bo g2 G2 F2 sf inp out (me_up M0 ra (.inl (tb 0, 1, .inl f_1))) S B 0 0 T0 hN hW2 hT2 hT3) (ks_L_239 hw rfl rfl ⟨Nat.le_of_ble_eq_true rfl, Nat.le_of_ble_eq_true rfl⟩) rfl rfl (Nat.le_of_ble_eq_true rfl) dL_law_399 ⟨by show ((cells + 0) + 0) + 12 ≤ 630311; omega, by show ((slots + 0) + 0) + 72 ≤ 7210765; omega⟩ (fun r_2 M_2 hP_2 H locs n_2 hM => ?_)
          obtain ⟨rfl, rfl⟩ := hP_2
          refine lv_lload hx hb dL_law_402 (lv_at hl 5 rfl) ?_
          refine me_stk (st2 := [.long (sumF (G (12 + q)) S B 0 0 T0), .long (sumF g2 S B 0 0 T0)]) (by rw [hbg]) ?_
          refine W.lcmp hx hb dL_law_404 ?_
          refine me_evi (y := 0) (by rw [hs2]; exact lg_0 _) ?_
          refine lv_if_ne (tgt := 412) hx hb dL_law_405 (by decide) (fun c_5 => ?_) (fun c_5 => ?_)
          · exact absurd c_5 (by decide)
          · refine lv_iconst (v := 1) hx hb dL_law_408 (by decide) ?_
            refine lv_goto (tgt := 413) hx hb dL_law_409 (by decide) ?_
            refine lv_istore_n (lv' := [(3, .int 1), (0, .ref b), (1, .ref bo), (2, .ref ra), (4, .int (nI q)), (6, .long bg), (8, .int ck), (9, .int (nI u))]) hx hb dL_law_413 rfl hl (by decide) rfl (fun ls hl => ?_)
            refine lv_iinc (v := nI (q + 1)) (lv' := [(4, .int (nI (q + 1))), (3, .int 1), (0, .ref b), (1, .ref bo), (2, .ref ra), (6, .long bg), (8, .int ck), (9, .int (nI u))]) hx hb dL_law_414 hl (k := 4) rfl (nx_add rfl rfl) (by decide) rfl (fun ls hl => ?_)
            refine lv_goto (tgt := 34) hx hb dL_law_417 (by decide) ?_
            have hx9 : (nx + 1) % 10 < 10 := Nat.mod_lt _ (by decide)
            have hl9 : lv_has ls 12 [(0, .ref b), (1, .ref bo), (2, .ref ra), (3, .int 1), (4, .int (nI (q + 1)))] := lv_sub hl [2, 3, 4, 1, 0] rfl
            exact W.widen (by omega) (by omega) (kk g2 G2 F2 f_1 S B 0 0 ((nx + 1) % 10) ls H locs n_2 hW2 hF02 hF42 hx9 hM hl9)
  · have c_1 := (not_congr (br_le (nx_c 7) rfl (by omega) (by omega))).mp c_1
    exfalso; omega
set_option maxHeartbeats 4000000 in
theorem law_s (hfl : l.stackTraces = false) (hN : ∀ U, X U → me_nest U) (hXs : ∀ U, X U → me_xs z0 U) (hCE : ∀ U, X U → me_ce U) (hra : bo + 919 ≤ ra) (kK kV : Nat → Nat) (kO kT : Nat) (hKS : ∀ U, X U → me_ks kK kV z0 U) (hKD : ∀ U, X U → me_kd kO kT z0 U) (hW : wf g S B L P) (hF0 : F 0 = 0) (hnx : F 4 = nI nx) (hnx0 : nx < 10) (hq2 : q < 2) (hC : me_cx ws_all p c cL_law 12 s args m RL D tb X z0) (hM : me_at D z0 (sp tb (bo + 722) g (bq tb bo G F sf inp out (me_up M0 ra (.inl (tb 0, 1, .inl f))))) n s H locs) (hl : lv_has ls 12 [(0, .ref b), (1, .ref bo), (2, .ref ra), (3, .int 1), (4, .int (nI q))]) (hcell : cells ≤ 500000 ∧ slots ≤ 6000000) (kk : ∀ (g2 : Nat → Int32) (G2 : Nat → Nat → Int32) (F2 sf2 inp2 f2 : Nat → Int32) (M2 : me_M) (S2 B2 T2 nx2 : Nat) (ls : Array Slot) (H : Heap) (locs : List Loc) (n2 : Nat), iv 200 T2 S2 B2 0 0 g2 → T2 ≤ 30 → 1 ≤ S2 → 1 ≤ B2 → F2 0 = 0 → F2 4 = nI nx2 → nx2 < 10 → F2 5 = nI 0 → ¬ sf2 q = 0 → ag S2 B2 0 0 (G2 (12 + q)) g2 → me_at D z0 (sp tb (bo + 722) g2 (bq tb bo G2 F2 sf2 inp2 out (me_up M2 ra (.inl (tb 0, 1, .inl f2))))) n2 s H locs → lv_has ls 12 [(0, .ref b), (1, .ref bo), (2, .ref ra), (3, .int 1), (4, .int (nI q)), (6, .long (sumF g2 S2 B2 0 0 T2)), (8, .int (nI T2)), (9, .int (nI 0))] → W p l e room_1 s m args below meth c H locs (cells + 100) (slots + 20000) Q (F0 m 130 ls [])) : W p l e room_1 s m args below meth c H locs cells slots Q (F0 m 65 ls []) := by
  have hx := hC.1
  have hb := hC.2.1
  have hw := hC.2.2.2.2.1
  refine lv_iconst (v := 1) hx hb dL_law_65 (by decide) ?_
  refine lv_aload_n hx hb dL_law_66 rfl (lv_at hl 2 rfl) ?_
  refine me_callSp (As := [.ref ra]) (rest := [.int 1]) hC hl.1 hM (c_L_next l D tb X z0 n ra f (sp tb (bo + 722) g (bq tb bo G F sf inp out (me_up M0 ra (.inl (tb 0, 1, .inl f))))) (bq_some hra (me_up_s _ _ _))) (ks_L_79 hw rfl rfl ⟨Nat.le_of_ble_eq_true rfl, Nat.le_of_ble_eq_true rfl⟩) rfl rfl (Nat.le_of_ble_eq_true rfl) dL_law_67 ⟨by show cells + 0 ≤ 630311; omega, by show slots + 0 ≤ 7210765; omega⟩ (fun r_1 M_1 hP_1 H locs n_1 hM => ?_)
  obtain ⟨v_1, f_1, rfl, hv_1, rfl⟩ := hP_1
  have hM := hM.eq (bq_upo hra)
  refine lv_iconst (v := 3) hx hb dL_law_70 (by decide) ?_
  refine lv_irem hx hb dL_law_71 (by decide) ?_
  refine me_evi (y := nI (v_1 % 3)) (nx_rem 3 rfl (by omega) (by omega) (by omega)) ?_
  refine lv_iadd hx hb dL_law_72 ?_
  refine me_evi (y := nI (1 + (v_1 % 3))) (nx_add (show (1 : Int32) = nI 1 from rfl) rfl) ?_
  refine lv_istore (lv' := [(5, .int (nI (1 + (v_1 % 3)))), (0, .ref b), (1, .ref bo), (2, .ref ra), (3, .int 1), (4, .int (nI q))]) hx hb dL_law_73 hl (by decide) rfl (fun ls hl => ?_)
  refine lv_aload_n hx hb dL_law_75 rfl (lv_at hl 2 rfl) ?_
  refine lv_iload hx hb dL_law_76 (lv_at hl 0 rfl) ?_
  refine lv_iconst (v := 1) hx hb dL_law_78 (by decide) ?_
  refine lv_aload_n hx hb dL_law_79 rfl (lv_at hl 3 rfl) ?_
  refine me_callSp (As := [.ref ra]) (rest := [.int 1, .int (nI (1 + (v_1 % 3))), .ref bo]) hC hl.1 hM (c_L_next l D tb X z0 n_1 ra f_1 (sp tb (bo + 722) g (bq tb bo G F sf inp out (me_up M0 ra (.inl (tb 0, 1, .inl f_1))))) (bq_some hra (me_up_s _ _ _))) (ks_L_79 hw rfl rfl ⟨Nat.le_of_ble_eq_true rfl, Nat.le_of_ble_eq_true rfl⟩) rfl rfl (Nat.le_of_ble_eq_true rfl) dL_law_80 ⟨by show (cells + 0) + 0 ≤ 630311; omega, by show (slots + 0) + 0 ≤ 7210765; omega⟩ (fun r_2 M_2 hP_2 H locs n_2 hM => ?_)
  obtain ⟨v_2, f_2, rfl, hv_2, rfl⟩ := hP_2
  have hM := hM.eq (bq_upo hra)
  refine lv_iconst (v := 5) hx hb dL_law_83 (by decide) ?_
  refine lv_irem hx hb dL_law_84 (by decide) ?_
  refine me_evi (y := nI (v_2 % 5)) (nx_rem 5 rfl (by omega) (by omega) (by omega)) ?_
  refine lv_iadd hx hb dL_law_85 ?_
  refine lv_aload_n hx hb dL_law_86 rfl (lv_at hl 3 rfl) ?_
  refine me_stk (st2 := [.ref ra, .int (nI (1 + (v_2 % 5))), .int (nI (1 + (v_1 % 3))), .ref bo]) (by rw [(nx_add (show (1 : Int32) = nI 1 from rfl) rfl)]) ?_
  have hran : ra < n_2 := by have z := hM.1.lt (bq_some hra (me_up_s _ _ _)); have z2 := hM.2.1; omega
  have hfr0 := me_fr hM
  have hM0_ := hM
  refine me_callSt (As := [.int (nI (1 + (v_1 % 3))), .int (nI (1 + (v_2 % 5))), .ref ra]) (rest := [.ref bo]) hC hl.1 hM (c_L_bureau l D tb X z0 n_2 kK kV kO kT (1 + (v_1 % 3)) (1 + (v_2 % 5)) ra f_2 (sp tb (bo + 722) g (bq tb bo G F sf inp out (me_up M0 ra (.inl (tb 0, 1, .inl f_2))))) hKS hKD (by omega) (by omega) (by omega) (bq_some hra (me_up_s _ _ _)) hran hfr0) (ks_L_230 hw rfl rfl ⟨Nat.le_of_ble_eq_true rfl, Nat.le_of_ble_eq_true rfl⟩) rfl rfl (Nat.le_of_ble_eq_true rfl) dL_law_87 ⟨by show ((cells + 0) + 0) + 68 ≤ 630311; omega, by show ((slots + 0) + 0) + 12901 ≤ 7210765; omega⟩ (fun r_3 M_3 hP_3 H locs n_3 hM => ?_)
  obtain ⟨a1, b1, h1, k1, t1, l1, f1, nq1, ha1, hb1, hh1, hbo, hht, hk170, rfl, hn1, rfl⟩ := hP_3
  have hfr1 := me_fr hM
  have hM := hM.eq (show _ = sp tb (bo + 722) g (bq tb bo G F sf inp out (me_up (me_up (me_up M0 r_3 (.inr (8, [.ref (r_3 + 1), .int 0, .int 0, .int 0]))) (r_3 + 1) (.inl (tb 1, k1, .inl (tx k1 t1)))) ra (.inl (tb 0, 1, .inl f1)))) by rw [bq_upo hra, bq_new (by omega), bq_new (by omega), me_up_cm (show ra ≠ r_3 by omega), me_up_cm (show ra ≠ r_3 + 1 by omega)])
  obtain ⟨M1, hM1⟩ : ∃ z, me_up (me_up M0 r_3 (.inr (8, [.ref (r_3 + 1), .int 0, .int 0, .int 0]))) (r_3 + 1) (.inl (tb 1, k1, .inl (tx k1 t1))) = z := ⟨_, rfl⟩
  rw [hM1] at hM
  obtain ⟨S1, hS1⟩ : ∃ z, 1 + (v_1 % 3) = z := ⟨_, rfl⟩
  obtain ⟨B1, hB1⟩ : ∃ z, 1 + (v_2 % 5) = z := ⟨_, rfl⟩
  rw [hS1, hB1] at hbo
  have hB1p : 1 ≤ B1 ∧ B1 ≤ 5 := by omega
  have hS1p : 1 ≤ S1 ∧ S1 ≤ 3 := by omega
  have hbl := bq_lt hM
  have hb19 : bo + 919 ≤ r_3 := Nat.le_trans (bq_lt hM0_) hn1
  obtain ⟨hk1, hk2, hk3⟩ := hht
  have hrd : ∀ inp2 : Nat → Int32, (∀ p, p < k1 → inp2 p = sb_b ((l1 ++ ksN 11 ++ dig (1 + h1)).getD p 0)) → fnX (1 + h1) S1 B1 (ldF inp2 k1 (G 0)) := fun inp2 hz => tx_read ha1 hb1 hh1 hB1p.1 hB1p.2 hS1p.2 hbo hk1 (fun i hi => by rw [Nat.zero_add]; exact hz i (by omega))
  have hn1n : r_3 + 1 < n_3 := by have z := hM.1.lt (bq_some (show bo + 919 ≤ r_3 + 1 by omega) ((me_up_n (show r_3 + 1 ≠ ra by omega)).trans (by rw [← hM1, me_up_s]))); have z2 := hM.2.1; omega
  refine me_callSnp (nA := 2) (As := [.ref bo, .ref r_3]) (rest := []) hC hl.1 hM (c_L_load l D tb X z0 n_3 bo g G F sf inp out (me_up M1 ra (.inl (tb 0, 1, .inl f1))) S B L P hN kK kV r_3 k1 (l1 ++ ksN 11 ++ dig (1 + h1)) (tx k1 t1) hW hKS hF0 hb19 ((me_up_n (by omega)).trans (by rw [← hM1, me_up_n (by omega), me_up_s])) ((me_up_n (by omega)).trans (by rw [← hM1, me_up_s])) (by omega) hn1n (bq_fresh hM) (fun p hp => by unfold tx; rw [if_pos hp]; exact (hk2 p hp).1) (fun p hp => (hk2 p hp).2) (fun inp2 hz => (hrd inp2 hz).1)) w_694 w_695 w_0 w_696 (by decide +kernel) rfl rfl ⟨Nat.le_of_ble_eq_true rfl, Nat.le_of_ble_eq_true rfl⟩ rfl rfl (Nat.le_of_ble_eq_true rfl) dL_law_90 ⟨by show (((cells + 0) + 0) + 68) + 2 ≤ 630311; omega, by show (((slots + 0) + 0) + 12901) + 13 ≤ 7210765; omega⟩ (fun r_4 M_4 hP_4 H locs n_4 hM => ?_)
  obtain ⟨inp2, m2, hi2, rfl, rfl⟩ := hP_4
  obtain ⟨e1, e2, e3, e4, e5, hI1⟩ := hrd inp2 hi2
  rw [e2, e3, e4, e5] at hM ⊢
  obtain ⟨w1, hw1⟩ : ∃ z, rG (ldF inp2 k1 (G 0)) = z := ⟨_, rfl⟩
  rw [hw1] at hM hI1 ⊢
  have hA1 := iv_cp hI1 g
  obtain ⟨g1, hg1⟩ : ∃ z, cpF w1 S1 B1 0 0 g = z := ⟨_, rfl⟩
  rw [hg1] at hM hA1 ⊢
  have hI2 := iv_ag hA1 hI1
  have hW2 := hI2.1
  have hT2 := hI2.2.1
  have hT3 : 1 + h1 ≤ 10000 := by omega
  obtain ⟨F1, hF1⟩ : ∃ z, (upd (upd (upd (upd (upd F 0 (nI m2)) 0 0) 2 (nI (pEk (rp (ldF inp2 k1 (G 0)))))) 3 (pEo (rp (ldF inp2 k1 (G 0))))) 5 0) = z := ⟨_, rfl⟩
  rw [hF1] at hM
  have hF10 : F1 0 = 0 := by rw [← hF1, upd_n (by omega), upd_n (by omega), upd_n (by omega), upd_s]
  have hF14 : F1 4 = nI nx := by rw [← hF1, upd_n (by omega), upd_n (by omega), upd_n (by omega), upd_n (by omega), upd_n (by omega)]; exact hnx
  have hF15 : F1 5 = nI 0 := by rw [← hF1, upd_s]; rfl
  obtain ⟨G1, hG1⟩ : ∃ z, updG G 0 w1 = z := ⟨_, rfl⟩
  rw [hG1] at hM
  obtain ⟨sf1, hsf1⟩ : ∃ z, upd (upd sf 0 (vp_nar .boolean 0)) 1 (vp_nar .boolean 0) = z := ⟨_, rfl⟩
  rw [hsf1] at hM
  refine me_evi (y := 0) hW2.2.2.2.2.1 ?_
  refine lv_if_ne (tgt := 113) hx hb dL_law_93 (by decide) (fun c_1 => ?_) (fun c_1 => ?_)
  · exact absurd c_1 (by decide)
  · refine lv_aload_n hx hb dL_law_96 rfl (lv_at hl 2 rfl) ?_
    refine lv_iload hx hb dL_law_97 (lv_at hl 5 rfl) ?_
    refine me_callVi (As := [.int (nI q)]) (rest := []) hC hl.1 hM (c_X7_save l D tb X z0 n_4 bo g1 G1 F1 sf1 inp2 out (me_up M1 ra (.inl (tb 0, 1, .inl f1))) S1 B1 0 0 q hW2 hq2) (kv_L_236 hw rfl rfl ⟨Nat.le_of_ble_eq_true rfl, Nat.le_of_ble_eq_true rfl⟩) rfl rfl (bq_at h_b) rfl (Nat.le_of_ble_eq_true rfl) dL_law_99 ⟨by show ((((cells + 0) + 0) + 68) + 2) + 0 ≤ 630311; omega, by show ((((slots + 0) + 0) + 12901) + 13) + 0 ≤ 7210765; omega⟩ (fun H locs hM => ?_)
    obtain ⟨G2, hG2⟩ : ∃ z, updG G1 (12 + q) (cpF g1 S1 B1 0 0 (G1 (12 + q))) = z := ⟨_, rfl⟩
    rw [hG2] at hM
    have hGa : ag S1 B1 0 0 (G2 (12 + q)) g1 := by rw [← hG2, updG_s]; exact iv_cp hI2 _
    obtain ⟨sf2, hsf2⟩ : ∃ z, upd sf1 q (vp_nar .boolean 1) = z := ⟨_, rfl⟩
    rw [hsf2] at hM
    have hsq : ¬ sf2 q = 0 := by rw [← hsf2, upd_s]; decide
    refine me_evi (y := nI (1 + h1)) hT2 ?_
    refine lv_aload_n hx hb dL_law_102 rfl (lv_at hl 2 rfl) ?_
    refine me_callVi (As := []) (rest := [.int (nI (1 + h1))]) hC hl.1 hM (c_X7_clock l D tb X z0 n_4 bo g1 G2 F1 sf2 inp2 out (me_up M1 ra (.inl (tb 0, 1, .inl f1))) S1 B1 0 0  ) (kv_L_104 hw rfl rfl ⟨Nat.le_of_ble_eq_true rfl, Nat.le_of_ble_eq_true rfl⟩) rfl rfl (bq_at h_b) rfl (Nat.le_of_ble_eq_true rfl) dL_law_103 ⟨by show (((((cells + 0) + 0) + 68) + 2) + 0) + 0 ≤ 630311; omega, by show (((((slots + 0) + 0) + 12901) + 13) + 0) + 0 ≤ 7210765; omega⟩ (fun H locs hM => ?_)
    refine me_evi (y := nI (1 + h1)) hT2 ?_
    refine lv_icmp_ne (tgt := 113) hx hb dL_law_106 (by decide) (fun c_2 => ?_) (fun c_2 => ?_)
    · exact absurd rfl c_2
    · refine lv_iconst (v := 1) hx hb dL_law_109 (by decide) ?_
      refine lv_goto (tgt := 114) hx hb dL_law_110 (by decide) ?_
      refine lv_istore_n (lv' := [(3, .int 1), (5, .int (nI (1 + (v_1 % 3)))), (0, .ref b), (1, .ref bo), (2, .ref ra), (4, .int (nI q))]) hx hb dL_law_114 rfl hl (by decide) rfl (fun ls hl => ?_)
      refine lv_aload_n hx hb dL_law_115 rfl (lv_at hl 3 rfl) ?_
      refine me_callSl (As := [.ref bo]) (rest := []) hC hl.1 hM (c_L_sum l D tb X z0 n_4 bo g1 G2 F1 sf2 inp2 out (me_up M1 ra (.inl (tb 0, 1, .inl f1))) S1 B1 0 0 (1 + h1) hN hW2 hT2 hT3) (ks_L_239 hw rfl rfl ⟨Nat.le_of_ble_eq_true rfl, Nat.le_of_ble_eq_true rfl⟩) rfl rfl (Nat.le_of_ble_eq_true rfl) dL_law_116 ⟨by show ((((((cells + 0) + 0) + 68) + 2) + 0) + 0) + 12 ≤ 630311; omega, by show ((((((slots + 0) + 0) + 12901) + 13) + 0) + 0) + 72 ≤ 7210765; omega⟩ (fun r_5 M_5 hP_5 H locs n_5 hM => ?_)
      obtain ⟨rfl, rfl⟩ := hP_5
      refine lv_lstore (lv' := [(6, .long (sumF g1 S1 B1 0 0 (1 + h1))), (3, .int 1), (5, .int (nI (1 + (v_1 % 3)))), (0, .ref b), (1, .ref bo), (2, .ref ra), (4, .int (nI q))]) hx hb dL_law_119 hl (by decide) rfl (fun ls hl => ?_)
      refine lv_aload_n hx hb dL_law_121 rfl (lv_at hl 4 rfl) ?_
      refine me_callVi (As := []) (rest := []) hC hl.1 hM (c_X7_clock l D tb X z0 n_5 bo g1 G2 F1 sf2 inp2 out (me_up M1 ra (.inl (tb 0, 1, .inl f1))) S1 B1 0 0  ) (kv_L_104 hw rfl rfl ⟨Nat.le_of_ble_eq_true rfl, Nat.le_of_ble_eq_true rfl⟩) rfl rfl (bq_at h_b) rfl (Nat.le_of_ble_eq_true rfl) dL_law_122 ⟨by show (((((((cells + 0) + 0) + 68) + 2) + 0) + 0) + 12) + 0 ≤ 630311; omega, by show (((((((slots + 0) + 0) + 12901) + 13) + 0) + 0) + 72) + 0 ≤ 7210765; omega⟩ (fun H locs hM => ?_)
      refine me_evi (y := nI (1 + h1)) hT2 ?_
      refine lv_istore (lv' := [(8, .int (nI (1 + h1))), (6, .long (sumF g1 S1 B1 0 0 (1 + h1))), (3, .int 1), (5, .int (nI (1 + (v_1 % 3)))), (0, .ref b), (1, .ref bo), (2, .ref ra), (4, .int (nI q))]) hx hb dL_law_125 hl (by decide) rfl (fun ls hl => ?_)
      refine lv_iconst (v := 0) hx hb dL_law_127 (by decide) ?_
      refine lv_istore (lv' := [(9, .int 0), (8, .int (nI (1 + h1))), (6, .long (sumF g1 S1 B1 0 0 (1 + h1))), (3, .int 1), (5, .int (nI (1 + (v_1 % 3)))), (0, .ref b), (1, .ref bo), (2, .ref ra), (4, .int (nI q))]) hx hb dL_law_128 hl (by decide) rfl (fun ls hl => ?_)
      have hT9 : 1 + h1 ≤ 30 := by omega
      have hl9 : lv_has ls 12 [(0, .ref b), (1, .ref bo), (2, .ref ra), (3, .int 1), (4, .int (nI q)), (6, .long (sumF g1 S1 B1 0 0 (1 + h1))), (8, .int (nI (1 + h1))), (9, .int (nI 0))] := lv_sub hl [5, 6, 7, 3, 8, 2, 1, 0] rfl
      exact W.widen (by omega) (by omega) (kk g1 G2 F1 sf2 inp2 f1 M1 S1 B1 (1 + h1) nx ls H locs n_5 hI2 hT9 hS1p.1 hB1p.1 hF10 hF14 hnx0 hF15 hsq hGa hM hl9)
end LAWE
