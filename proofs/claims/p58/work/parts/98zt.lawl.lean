section LAWR
variable {p : Program} {l : Launch} {e : Env} {s : State} {m : MethodId} {args : Array Value} {below : List Frame} {meth : Method} {c : Code} {H : Heap} {locs : List Loc} {Q : State → Prop} {ls : Array Slot} {cells slots : Nat}
variable {D : va_G} {tb : Nat → ClassId} {X : State → Prop} {z0 n b bo ra : Nat} {g f F sf inp out : Nat → Int32} {G : Nat → Nat → Int32} {M0 : me_M}
variable {S B L P T nx ct N u q T0 LS : Nat} {bg : Int64} {ck : Int32} {xs : Nat → Int32}
set_option maxHeartbeats 4000000 in
theorem law_r (hfl : l.stackTraces = false) (hN : ∀ U, X U → me_nest U) (hXs : ∀ U, X U → me_xs z0 U) (hCE : ∀ U, X U → me_ce U) (hra : bo + 919 ≤ ra) (hX : va_X b LS xs s s.heap) (hbl : b < s.heap.size) (hbA : ¬ me_A z0 b) (hLS : LS ≤ 260) (hq2 : q < 2) (hC : me_cx ws_all p c cL_law 12 s args m RL D tb X z0) (hM : me_at D z0 (sp tb (bo + 722) g (bq tb bo G F sf inp out (me_up M0 ra (.inl (tb 0, 1, .inl f))))) n s H locs) (hl : lv_has ls 12 [(0, .ref b), (1, .ref bo), (2, .ref ra), (3, .int 1), (4, .int (nI q))]) (hcell : cells ≤ 500000 ∧ slots ≤ 6000000) (kk : ∀ (f2 : Nat → Int32) (ls : Array Slot) (H : Heap) (locs : List Loc), me_at D z0 (sp tb (bo + 722) g (bq tb bo G F sf inp out (me_up M0 ra (.inl (tb 0, 1, .inl f2))))) n s H locs → lv_has ls 12 [(0, .ref b), (1, .ref bo), (2, .ref ra), (3, .int 1), (4, .int (nI q))] → W p l e room_1 s m args below meth c H locs cells slots Q (F0 m 65 ls [])) : W p l e room_1 s m args below meth c H locs cells slots Q (F0 m 34 ls []) := by
  have hx := hC.1
  have hb := hC.2.1
  have hw := hC.2.2.2.2.1
  refine lv_iload hx hb dL_law_34 (lv_at hl 4 rfl) ?_
  refine lv_iconst (v := 2) hx hb dL_law_36 (by decide) ?_
  refine lv_icmp_ge (tgt := 420) hx hb dL_law_37 (by decide) (fun c_1 => ?_) (fun c_1 => ?_)
  · have c_1 := (br_le (nx_c 2) rfl (by omega) (by omega)).mp c_1
    exfalso; omega
  · have c_1 := (not_congr (br_le (nx_c 2) rfl (by omega) (by omega))).mp c_1
    refine lv_iload_n hx hb dL_law_40 rfl (lv_at hl 3 rfl) ?_
    refine lv_if_eq (tgt := 420) hx hb dL_law_41 (by decide) (fun c_2 => ?_) (fun c_2 => ?_)
    · exact absurd c_2 (by decide)
    · refine lv_aload_n hx hb dL_law_44 rfl (lv_at hl 2 rfl) ?_
      refine lv_iconst (v := 0) hx hb dL_law_45 (by decide) ?_
      refine lv_dup2_11 hx hb dL_law_46 rfl rfl ?_
      refine me_iald (k := 0) hC hM (bq_some hra (me_up_s _ _ _)) (show (0 : Int32) = nI 0 from rfl) (by omega) (by decide) dL_law_47 ?_
      refine lv_iload hx hb dL_law_48 (lv_at hl 4 rfl) ?_
      refine lv_aload_n hx hb dL_law_50 rfl (lv_at hl 0 rfl) ?_
      refine va_slen hx hb hX hbl hbA hM.2.2.2.2 dL_law_51 ?_
      refine me_evi (y := nI LS) rfl ?_
      refine lv_icmp_ge (tgt := 62) hx hb dL_law_52 (by decide) (fun c_3 => ?_) (fun c_3 => ?_)
      · have c_3 := (br_le rfl rfl (by omega) (by omega)).mp c_3
        refine lv_iconst (v := 0) hx hb dL_law_62 (by decide) ?_
        refine lv_ixor hx hb dL_law_63 ?_
        refine me_iast (k := 0) (M2 := sp tb (bo + 722) g (bq tb bo G F sf inp out (me_up M0 ra (.inl (tb 0, 1, .inl (upd f 0 ((f 0) ^^^ 0))))))) hC hM (bq_some hra (me_up_s _ _ _)) (show (0 : Int32) = nI 0 from rfl) (by omega) (by decide) (bq_upo hra) dL_law_64 (fun H locs hM => ?_)
        exact kk (upd f 0 ((f 0) ^^^ 0)) ls H locs hM (lv_sub hl [0, 1, 2, 3, 4] rfl)
      · have c_3 := (not_congr (br_le rfl rfl (by omega) (by omega))).mp c_3
        refine lv_aload_n hx hb dL_law_55 rfl (lv_at hl 0 rfl) ?_
        refine lv_iload hx hb dL_law_56 (lv_at hl 4 rfl) ?_
        obtain ⟨e1_, e2_⟩ := me_ix (i := nI q) (k := q) (N := LS) rfl (by omega) (by omega)
        refine va_sld hx hb hX hbl hbA hM.2.2.2.2 e1_ dL_law_58 ?_
        rw [e2_]
        refine lv_goto (tgt := 63) hx hb dL_law_59 (by decide) ?_
        refine lv_ixor hx hb dL_law_63 ?_
        refine me_iast (k := 0) (M2 := sp tb (bo + 722) g (bq tb bo G F sf inp out (me_up M0 ra (.inl (tb 0, 1, .inl (upd f 0 ((f 0) ^^^ (xs q)))))))) hC hM (bq_some hra (me_up_s _ _ _)) (show (0 : Int32) = nI 0 from rfl) (by omega) (by decide) (bq_upo hra) dL_law_64 (fun H locs hM => ?_)
        exact kk (upd f 0 ((f 0) ^^^ (xs q))) ls H locs hM (lv_sub hl [0, 1, 2, 3, 4] rfl)
set_option maxHeartbeats 4000000 in
theorem law_x (hfl : l.stackTraces = false) (hN : ∀ U, X U → me_nest U) (hXs : ∀ U, X U → me_xs z0 U) (hCE : ∀ U, X U → me_ce U) (hra : bo + 919 ≤ ra) (hq2 : q = 2) (hC : me_cx ws_all p c cL_law 12 s args m RL D tb X z0) (hM : me_at D z0 (sp tb (bo + 722) g (bq tb bo G F sf inp out (me_up M0 ra (.inl (tb 0, 1, .inl f))))) n s H locs) (hl : lv_has ls 12 [(0, .ref b), (1, .ref bo), (2, .ref ra), (3, .int 1), (4, .int (nI q))]) (hcell : cells ≤ 500000 ∧ slots ≤ 6000000) (kk : ∀ (ls : Array Slot), W p l e room_1 s m args below meth c H locs cells slots Q (F0 m 421 ls [.int 1])) : W p l e room_1 s m args below meth c H locs cells slots Q (F0 m 34 ls []) := by
  have hx := hC.1
  have hb := hC.2.1
  have hw := hC.2.2.2.2.1
  refine lv_iload hx hb dL_law_34 (lv_at hl 4 rfl) ?_
  refine lv_iconst (v := 2) hx hb dL_law_36 (by decide) ?_
  refine lv_icmp_ge (tgt := 420) hx hb dL_law_37 (by decide) (fun c_1 => ?_) (fun c_1 => ?_)
  · have c_1 := (br_le (nx_c 2) rfl (by omega) (by omega)).mp c_1
    refine lv_iload_n hx hb dL_law_420 rfl (lv_at hl 3 rfl) ?_
    exact kk ls
  · have c_1 := (not_congr (br_le (nx_c 2) rfl (by omega) (by omega))).mp c_1
    exfalso; omega
set_option maxHeartbeats 1000000 in
theorem law_U (hfl : l.stackTraces = false) (hN : ∀ U, X U → me_nest U) (hXs : ∀ U, X U → me_xs z0 U) (hCE : ∀ U, X U → me_ce U) (hra : bo + 919 ≤ ra) (hC : me_cx ws_all p c cL_law 12 s args m RL D tb X z0) {Gw : Nat → Int32} {C0 C1 : Nat} (hC0 : C0 + 800 ≤ 500000 ∧ C1 + 4000 ≤ 6000000) (hS1 : 1 ≤ S) (hB1 : 1 ≤ B) (hq2 : q < 2) (hsf : ¬ sf q = 0) (hIw : iv 200 T0 S B 0 0 Gw) (hT0w : T0 ≤ 30) (hbg : bg = sumF Gw S B 0 0 T0) (hck : ck = nI T0)
    (kk : ∀ (g2 : Nat → Int32) (G2 : Nat → Nat → Int32) (F2 f2 : Nat → Int32) (S2 B2 L2 P2 nx2 : Nat) (ls : Array Slot) (H : Heap) (locs : List Loc) (n2 : Nat), wf g2 S2 B2 L2 P2 → F2 0 = 0 → F2 4 = nI nx2 → nx2 < 10 → me_at D z0 (sp tb (bo + 722) g2 (bq tb bo G2 F2 sf inp out (me_up M0 ra (.inl (tb 0, 1, .inl f2))))) n2 s H locs → lv_has ls 12 [(0, .ref b), (1, .ref bo), (2, .ref ra), (3, .int 1), (4, .int (nI (q + 1)))] → W p l e room_1 s m args below meth c H locs (C0 + 800) (C1 + 4000) Q (F0 m 34 ls [])) :
    ∀ (j u N : Nat) (g : Nat → Int32) (G : Nat → Nat → Int32) (F f : Nat → Int32) (L P T nx ct : Nat) (ls : Array Slot) (H : Heap) (locs : List Loc) (n : Nat), u + j = 7 → N = 200 + 1800 * u → iv N T S B L P g → T ≤ 30 + 12 * u → F 0 = 0 → F 4 = nI nx → nx < 10 → F 5 = nI ct → ct ≤ 10 → G (12 + q) = Gw → me_at D z0 (sp tb (bo + 722) g (bq tb bo G F sf inp out (me_up M0 ra (.inl (tb 0, 1, .inl f))))) n s H locs → lv_has ls 12 [(0, .ref b), (1, .ref bo), (2, .ref ra), (3, .int 1), (4, .int (nI q)), (6, .long bg), (8, .int ck), (9, .int (nI u))] → W p l e room_1 s m args below meth c H locs (C0 + 100 * u) (C1 + 500 * u) Q (F0 m 130 ls []) := by
  intro j
  induction j with
  | zero =>
    intro u N g G F f L P T nx ct ls H locs n hu hN9 hI hT9 hF0 hnx hnx0 hct hct0 hG hM hl
    have hu7 : u = 7 := by omega
    subst hG
    refine law_e hfl hN hXs hCE hra hI (by omega) hF0 hnx hnx0 hct hct0 hu7 hq2 hsf hIw hT0w hbg hck hC hM hl (by omega) (fun g2 G2 F2 f2 S2 B2 L2 P2 nx2 ls H locs n2 h1 h2 h3 h4 hM hl => ?_)
    exact W.widen (by omega) (by omega) (kk g2 G2 F2 f2 S2 B2 L2 P2 nx2 ls H locs n2 h1 h2 h3 h4 hM hl)
  | succ j ih =>
    intro u N g G F f L P T nx ct ls H locs n hu hN9 hI hT9 hF0 hnx hnx0 hct hct0 hG hM hl
    refine law_u hfl hN hXs hCE hra hI (by omega) (by omega) hS1 hB1 hF0 hnx hnx0 hct hct0 (by omega) hC hM hl (by omega) (fun g2 G2 F2 f2 L2 P2 T2 nx2 ct2 ls H locs n2 h1 h2 h3 h4 h5 h6 h7 h8 hM hl => ?_)
    have e0 : N + 1800 = 200 + 1800 * (u + 1) := by omega
    have e1 : T2 ≤ 30 + 12 * (u + 1) := by omega
    have e2 : G2 (12 + q) = Gw := (h8 (12 + q) (by omega)).trans hG
    exact W.widen (by omega) (by omega) (ih (u + 1) (N + 1800) g2 G2 F2 f2 L2 P2 T2 nx2 ct2 ls H locs n2 (by omega) e0 h1 e1 h3 h4 h5 h6 h7 e2 hM hl)
set_option maxHeartbeats 1000000 in
theorem law_Q (hfl : l.stackTraces = false) (hN : ∀ U, X U → me_nest U) (hXs : ∀ U, X U → me_xs z0 U) (hCE : ∀ U, X U → me_ce U) (hra : bo + 919 ≤ ra) (hC : me_cx ws_all p c cL_law 12 s args m RL D tb X z0) (hX : va_X b LS xs s s.heap) (hbl : b < s.heap.size) (hbA : ¬ me_A z0 b) (hLS : LS ≤ 260) {kK kV : Nat → Nat} {kO kT : Nat} (hKS : ∀ U, X U → me_ks kK kV z0 U) (hKD : ∀ U, X U → me_kd kO kT z0 U)
    (kk : ∀ (ls : Array Slot) (H : Heap) (locs : List Loc) (n : Nat) (M : me_M), me_at D z0 M n s H locs → W p l e room_1 s m args below meth c H locs 5000 100000 Q (F0 m 421 ls [.int 1])) :
    ∀ (j q : Nat) (g : Nat → Int32) (G : Nat → Nat → Int32) (F sf inp f : Nat → Int32) (M0 : me_M) (S B L P nx : Nat) (ls : Array Slot) (H : Heap) (locs : List Loc) (n : Nat), q + j = 2 → wf g S B L P → F 0 = 0 → F 4 = nI nx → nx < 10 → me_at D z0 (sp tb (bo + 722) g (bq tb bo G F sf inp out (me_up M0 ra (.inl (tb 0, 1, .inl f))))) n s H locs → lv_has ls 12 [(0, .ref b), (1, .ref bo), (2, .ref ra), (3, .int 1), (4, .int (nI q))] → W p l e room_1 s m args below meth c H locs (1000 + 1000 * q) (7000 + 30000 * q) Q (F0 m 34 ls []) := by
  intro j
  induction j with
  | zero =>
    intro q g G F sf inp f M0 S B L P nx ls H locs n hq hW hF0 hnx hnx0 hM hl
    have hq2 : q = 2 := by omega
    refine law_x hfl hN hXs hCE hra hq2 hC hM hl (by omega) (fun ls => ?_)
    exact W.widen (by omega) (by omega) (kk ls H locs n _ hM)
  | succ j ih =>
    intro q g G F sf inp f M0 S B L P nx ls H locs n hq hW hF0 hnx hnx0 hM hl
    have hq2 : q < 2 := by omega
    refine law_r hfl hN hXs hCE hra hX hbl hbA hLS hq2 hC hM hl (by omega) (fun f2 ls H locs hM hl => ?_)
    refine law_s hfl hN hXs hCE hra kK kV kO kT hKS hKD hW hF0 hnx hnx0 hq2 hC hM hl (by omega) (fun g2 G2 F2 sf2 inp2 f2 M2 S2 B2 T2 nx2 ls H locs n2 h1 h2 h3 h4 h5 h6 h7 h8 h9 h10 hM hl => ?_)
    have hIw := iv_ag h10 h1
    have hbg := (iv_sum h10 h1 (by omega)).symm
    have e0 : 1000 + 1000 * q + 100 + 800 ≤ 500000 ∧ 7000 + 30000 * q + 20000 + 4000 ≤ 6000000 := by omega
    refine law_U hfl hN hXs hCE hra hC e0 h3 h4 hq2 h9 hIw h2 hbg rfl (fun g3 G3 F3 f3 S3 B3 L3 P3 nx3 ls H locs n3 k1 k2 k3 k4 hM hl => ?_) 7 0 200 g2 G2 F2 f2 0 0 T2 nx2 0 ls H locs n2 (by omega) (by omega) h1 (by omega) h5 h6 h7 h8 (by omega) rfl hM hl
    exact W.widen (by omega) (by omega) (ih (q + 1) g3 G3 F3 sf2 inp2 f3 M2 S3 B3 L3 P3 nx3 ls H locs n3 (by omega) k1 k2 k3 k4 hM hl)
end LAWR
