theorem fp_mok {x : Int32} {y : Nat} (h0 : y ≠ 0) (h : y ≤ 10000) : FP.Core.decode FP.Core.b64 (FP.ddiv (FP.i2d x) (FP.i2d (nI y))).toNat ≠ .nan := by
  obtain ⟨t, d, r, e, hd⟩ := fp_y h0 h
  refine fp_dec (fp_64 ?_)
  show fp_ok (FP.Core.encode FP.Core.b64 (FP.Core.quotient FP.Core.b64 (FP.Core.decode FP.Core.b64 (FP.i2d x).toNat) (FP.Core.decode FP.Core.b64 (FP.i2d (nI y)).toNat)))
  rw [e]
  have hx := fp_i2d x
  cases hq : FP.Core.decode FP.Core.b64 (FP.i2d x).toNat with
  | nan => exact absurd hq hx
  | inf s => exact fp_inf _
  | fin s c q =>
    show fp_ok (FP.Core.encode FP.Core.b64 (if d = 0 then _ else _))
    rw [if_neg hd]
    exact fp_rr _ _ _ _
theorem cmp_self (a : Int) : compare a a = Ordering.eq := by
  show compareOfLessAndEq a a = _
  unfold compareOfLessAndEq
  rw [if_neg (by omega), if_pos rfl]
theorem dcm_ok {r : UInt64} (h : FP.Core.decode FP.Core.b64 r.toNat ≠ .nan) : Op.cmpValue (FP.dcmp r r) .l = 0 := by
  show Op.cmpValue (FP.Core.order (FP.Core.decode FP.Core.b64 r.toNat) (FP.Core.decode FP.Core.b64 r.toNat)) .l = 0
  cases e : FP.Core.decode FP.Core.b64 r.toNat with
  | nan => exact absurd e h
  | inf s =>
    show Op.cmpValue (some (compare _ _)) .l = 0
    rw [cmp_self]; rfl
  | fin s c q =>
    show Op.cmpValue (some (compare _ _)) .l = 0
    rw [cmp_self]; rfl
theorem sw9 : ∀ v, v < 9 → nI v = 0 ∨ nI v = 1 ∨ nI v = 2 ∨ nI v = 3 ∨ nI v = 4 ∨ nI v = 5 ∨ nI v = 6 ∨ nI v = 7 ∨ nI v = 8 := by decide +kernel
/-- the changes that an act may make -/
def stp (S B L P T : Nat) (g g2 : Nat → Int32) (L2 P2 T2 : Nat) : Prop :=
  (∃ b s n, b < B ∧ 1 ≤ n ∧ n ≤ 6 ∧ T ≤ s ∧ s + n ≤ T + 48 ∧ reF g L P b s n = 0 ∧ g2 = adF g L b s n ∧ L2 = L + 1 ∧ P2 = P ∧ T2 = T) ∨
  (∃ k, k < L ∧ g (261 + 5 * k + 4) = 0 ∧ g2 = caS k g ∧ L2 = L ∧ P2 = P ∧ T2 = T) ∨
  (∃ k, k < L ∧ (g (261 + 5 * k + 4) = 2 ∨ g (261 + 5 * k + 4) = 4) ∧ g2 = wsG k g ∧ L2 = L ∧ P2 = P ∧ T2 = T) ∨
  (∃ s1 s n, s1 < S ∧ 1 ≤ n ∧ n ≤ 12 ∧ T ≤ s ∧ s + n ≤ T + 48 ∧ (fi (fun k => cpP g L (nI s1) (nI s) (nI n) k) L 0 = -1 ∧ P < 10) ∧ g2 = apF g P (nI s1) (nI s) (nI n) ∧ L2 = L ∧ P2 = P + 1 ∧ T2 = T) ∨
  (∃ k, k < P ∧ bz (g (221 + 4 * k + 3)) = 0 ∧ g2 = rvG k g ∧ L2 = L ∧ P2 = P ∧ T2 = T) ∨
  (∃ b n, b < B ∧ 1 ≤ n ∧ n ≤ 5 ∧ g2 = pyG b (nI n) g ∧ L2 = L ∧ P2 = P ∧ T2 = T) ∨
  (∃ n, 1 ≤ n ∧ n ≤ 12 ∧ g2 = paG S B L P n g ∧ L2 = L ∧ P2 = P ∧ T2 = T + n)
theorem rv_cases (g : Nat → Int32) (P k : Nat) : P ≤ k ∨ (k < P ∧ ¬ bz (g (221 + 4 * k + 3)) = 0) ∨ (k < P ∧ bz (g (221 + 4 * k + 3)) = 0) := by
  by_cases h : P ≤ k
  · exact Or.inl h
  · by_cases c : bz (g (221 + 4 * k + 3)) = 0
    · exact Or.inr (Or.inr ⟨by omega, c⟩)
    · exact Or.inr (Or.inl ⟨by omega, c⟩)
/-- the hours from s on: is the j-th held by a borrower of the street -/
abbrev hbS (g : Nat → Int32) (L st s j : Nat) : Prop := ∃ l, l < L ∧ hoF g L (nI (s + j)) = nI l ∧ hm g (ow g l) = st
theorem wf_ws {g : Nat → Int32} {S B L P k : Nat} (h : wf g S B L P) (hk : k < L) : wf (wsG k g) S B L P := by
  have hB := h.2.2.2.1
  have hL := h.2.2.2.2.2.1
  exact wf_upd h (by omega) (fun b hb => by omega) (fun j hj => by omega)
theorem wf_rv {g : Nat → Int32} {S B L P k : Nat} (h : wf g S B L P) (hk : k < P) : wf (rvG k g) S B L P := by
  have hB := h.2.2.2.1
  have hP := h.2.2.2.2.2.2.2.1
  exact wf_upd h (by omega) (fun b hb => by omega) (fun j hj => by omega)
theorem wf_py {g : Nat → Int32} {S B L P b : Nat} {x : Int32} (h : wf g S B L P) (hb : b < B) : wf (pyG b x g) S B L P := by
  have hB := h.2.2.2.1
  exact wf_upd (wf_upd h (by omega) (fun b2 hb => by omega) (fun j hj => by omega)) (by omega) (fun b2 hb => by omega) (fun j hj => by omega)
theorem chN_paN (S B L P : Nat) : ∀ (n : Nat) (g : Nat → Int32), paN S B L P n g ≤ n * L
  | 0, _ => Nat.zero_le _
  | n + 1, g => by
    have h1 := chN_le L 0 (hoA S B L P g)
    have h2 := chN_paN S B L P n (hoS S B L P g)
    show chN L 0 (hoA S B L P g) + paN S B L P n (hoS S B L P g) ≤ (n + 1) * L
    rw [Nat.succ_mul]; omega
theorem co_lt {P : Nat → Prop} [DecidablePred P] : ∀ (r k j : Nat), k ≤ j → j < k + r → ¬ P j → co P r k < r
  | 0, k, j, h1, h2, _ => by omega
  | r + 1, k, j, h1, h2, h3 => by
    by_cases e : k = j
    · subst e
      rw [co_f h3]; have := co_le P r (k + 1); omega
    · have := co_lt r (k + 1) j (by omega) (by omega) h3
      by_cases c : P k
      · rw [co_t c]; omega
      · rw [co_f c]; omega
theorem bz_1 : bz 1 = 1 := by decide
theorem ca_cr {g : Nat → Int32} {k : Nat} (hk : ow g k < 12) : (caS k g) (89 + 11 * (ow (caS k g) k) + 2) = g (89 + 11 * ow g k + 2) + g (261 + 5 * k + 3) := by
  have e0 : caS k g (261 + 5 * k) = g (261 + 5 * k) := by
    unfold caS
    rw [upd_n (by omega), upd_n (by omega)]
  have e : ow (caS k g) k = ow g k := congrArg Int32.toNatClampNeg e0
  rw [e]
  unfold caS
  rw [upd_s]
set_option maxHeartbeats 4000000 in
theorem c_L_act (l : Launch) (D : va_G) (tb : Nat → ClassId) (X : State → Prop) (z0 n : Nat) (bo : Nat) (g : Nat → Int32) (G : Nat → Nat → Int32) (F sf inp out : Nat → Int32) (M0 : me_M) (S B L P : Nat) (T : Nat) (nx ct : Nat) (hN : ∀ U, X U → me_nest U) (ra : Nat) (f : Nat → Int32)  (hfl : l.stackTraces = false) (hXs : ∀ U, X U → me_xs z0 U) (hCE : ∀ U, X U → me_ce U) (hW : wf g S B L P) (hT : g 2 = nI T) (hT0 : T ≤ 10000) (hT9 : T + 12 ≤ 9999) (hnx : F 4 = nI nx) (hnx0 : nx < 10) (hct : F 5 = nI ct) (hct0 : ct ≤ 10) (hS1 : 1 ≤ S) (hB1 : 1 ≤ B) (hra : bo + 919 ≤ ra) (a0 : ∀ b s n, b < B → n ≤ 6 → adF g L b s n 2 = g 2) (a1 : ∀ b s n, b < B → 1 ≤ n → n ≤ 6 → T ≤ s → s + n ≤ T + 48 → reF g L P b s n = 0 → adF g L b s n (89 + 11 * b + 2) = g (89 + 11 * b + 2) - prF g b (nI n) ∧ ∀ h, s ≤ h → h < s + n → hoF (adF g L b s n) (L + 1) (nI h) = nI L) (a3 : ∀ b n, b < B → n ≤ 5 → ¬ g (89 + 11 * b + 2) + nI n ≤ -9999) (a4 : ∀ k, k < L → ∃ j, j ≤ 5 ∧ g (261 + 5 * k + 4) = nI j) (a5 : ∀ s1 s n, s1 < S → 1 ≤ n → n ≤ 12 → T ≤ s → s + n ≤ T + 48 → (fi (fun k => cpP g L (nI s1) (nI s) (nI n) k) L 0 = -1 ↔ ∀ j, j < n → ¬ hbS g L s1 s j)) (a6 : ∀ s1 s n, s1 < S → 1 ≤ n → n ≤ 12 → T ≤ s → s + n ≤ T + 48 → P < 10 → ¬ peF (apF g P (nI s1) (nI s) (nI n)) (P + 1) (nI s1) (nI s) < 0) (a7 : ∀ n, 1 ≤ n → n ≤ 12 → paG S B L P n g 2 = nI (T + n)) (a8 : ∀ n b, 1 ≤ n → n ≤ 12 → b < B → paG S B L P n g (89 + 11 * b + 1) = fcF g L P b n) (a9 : ∀ n, 1 ≤ n → n ≤ 12 → co (fun k => paG S B L P n g (261 + 5 * k + 4) = nI 4) L 0 = co (fun k => g (261 + 5 * k + 4) = nI 4) L 0 + paN S B L P n g) (a10 : ∀ n s, 1 ≤ n → n ≤ 12 → s < S → ¬ paG S B L P n g (9 + 10 * s + 2) < g (9 + 10 * s + 2) + noF g L P s (g 2)) (a11 : ∀ s, s < S → paG S B L P 1 g (9 + 10 * s + 2) = g (9 + 10 * s + 2) + noF g L P s (g 2)) : Met l yL_act (.code yL_act cL_act 29 (some .boolean) :: ws_all) ({ frames := 14, cells := 8, slots := 60, locals := 504 } : Room) (me_Pc [.ref bo, .ref ra] D tb X z0 (sp tb (bo + 722) g (bq tb bo G F sf inp out (me_up M0 ra (.inl (tb 0, 1, .inl f))))) n) (me_Qp D z0 (fun r1 M1 => ∃ (g2 : Nat → Int32) (L2 P2 T2 : Nat) (f2 : Nat → Int32), r1 = 1 ∧ stp S B L P T g g2 L2 P2 T2 ∧ M1 = sp tb (bo + 722) g2 (bq tb bo (recG G g S B L P nx) (recF F nx ct) sf inp out (me_up M0 ra (.inl (tb 0, 1, .inl f2)))))) 8 60 (me_A z0) := by
  refine me_open (by decide) (Nat.le_of_ble_eq_true rfl) ?_
  intro p e s m args below meth c ls hC hr hlk hnm hM hl
  have hl : lv_has ls 29 [(0, .ref bo), (1, .ref ra)] := hl
  have hx := hC.1
  have hb := hC.2.1
  have hw := hC.2.2.2.2.1
  have hq_ := hW
  obtain ⟨hS, hS0, hB, hB0, hL, hL0, hP, hP0, hwb, hwl⟩ := hq_
  refine lv_aload_n hx hb dL_act_0 rfl (lv_at hl 0 rfl) ?_
  refine me_callVi (As := []) (rest := []) hC hl.1 hM (c_X7_loanCount l D tb X z0 n bo g G F sf inp out (me_up M0 ra (.inl (tb 0, 1, .inl f))) S B L P  ) (kv_L_110 hw rfl rfl ⟨Nat.le_of_ble_eq_true rfl, Nat.le_of_ble_eq_true rfl⟩) rfl rfl (bq_at h_b) rfl (Nat.le_of_ble_eq_true rfl) dL_act_1 ⟨Nat.le_of_ble_eq_true rfl, Nat.le_of_ble_eq_true rfl⟩ (fun H locs hM => ?_)
  refine me_evi (y := nI L) hW.2.2.2.2.1 ?_
  refine lv_istore_n (lv' := [(2, .int (nI L)), (0, .ref bo), (1, .ref ra)]) hx hb dL_act_4 rfl hl (by decide) rfl (fun ls hl => ?_)
  refine lv_aload_n hx hb dL_act_5 rfl (lv_at hl 2 rfl) ?_
  refine me_callSp (As := [.ref ra]) (rest := []) hC hl.1 hM (c_L_next l D tb X z0 n ra f (sp tb (bo + 722) g (bq tb bo G F sf inp out (me_up M0 ra (.inl (tb 0, 1, .inl f))))) (bq_some hra (me_up_s _ _ _))) (ks_L_79 hw rfl rfl ⟨Nat.le_of_ble_eq_true rfl, Nat.le_of_ble_eq_true rfl⟩) rfl rfl (Nat.le_of_ble_eq_true rfl) dL_act_6 ⟨Nat.le_of_ble_eq_true rfl, Nat.le_of_ble_eq_true rfl⟩ (fun r_1 M_1 hP_1 H locs n_1 hM => ?_)
  obtain ⟨v_1, f_1, rfl, hv_1, rfl⟩ := hP_1
  have hM := hM.eq (bq_upo hra)
  refine lv_aload_n hx hb dL_act_9 rfl (lv_at hl 1 rfl) ?_
  refine me_callVi (As := []) (rest := [.int (nI v_1)]) hC hl.1 hM (c_X7_borrowerCount l D tb X z0 n_1 bo g G F sf inp out (me_up M0 ra (.inl (tb 0, 1, .inl f_1))) S B L P  ) (kv_L_125 hw rfl rfl ⟨Nat.le_of_ble_eq_true rfl, Nat.le_of_ble_eq_true rfl⟩) rfl rfl (bq_at h_b) rfl (Nat.le_of_ble_eq_true rfl) dL_act_10 ⟨Nat.le_of_ble_eq_true rfl, Nat.le_of_ble_eq_true rfl⟩ (fun H locs hM => ?_)
  refine me_evi (y := nI B) hW.2.2.1 ?_
  refine lv_irem hx hb dL_act_13 (nI_ne0 (by omega) (by omega)) ?_
  have hmd_ := Nat.mod_lt v_1 (show 0 < B by omega)
  refine me_evi (y := nI (v_1 % B)) (nx_rem B rfl (by omega) (by omega) (by omega)) ?_
  refine lv_istore_n (lv' := [(3, .int (nI (v_1 % B))), (2, .int (nI L)), (0, .ref bo), (1, .ref ra)]) hx hb dL_act_14 rfl hl (by decide) rfl (fun ls hl => ?_)
  refine lv_aload_n hx hb dL_act_15 rfl (lv_at hl 3 rfl) ?_
  refine me_callSp (As := [.ref ra]) (rest := []) hC hl.1 hM (c_L_next l D tb X z0 n_1 ra f_1 (sp tb (bo + 722) g (bq tb bo G F sf inp out (me_up M0 ra (.inl (tb 0, 1, .inl f_1))))) (bq_some hra (me_up_s _ _ _))) (ks_L_79 hw rfl rfl ⟨Nat.le_of_ble_eq_true rfl, Nat.le_of_ble_eq_true rfl⟩) rfl rfl (Nat.le_of_ble_eq_true rfl) dL_act_16 ⟨Nat.le_of_ble_eq_true rfl, Nat.le_of_ble_eq_true rfl⟩ (fun r_2 M_2 hP_2 H locs n_2 hM => ?_)
  obtain ⟨v_2, f_2, rfl, hv_2, rfl⟩ := hP_2
  have hM := hM.eq (bq_upo hra)
  refine lv_aload_n hx hb dL_act_19 rfl (lv_at hl 2 rfl) ?_
  refine me_callVi (As := []) (rest := [.int (nI v_2)]) hC hl.1 hM (c_X7_streetCount l D tb X z0 n_2 bo g G F sf inp out (me_up M0 ra (.inl (tb 0, 1, .inl f_2))) S B L P  ) (kv_L_113 hw rfl rfl ⟨Nat.le_of_ble_eq_true rfl, Nat.le_of_ble_eq_true rfl⟩) rfl rfl (bq_at h_b) rfl (Nat.le_of_ble_eq_true rfl) dL_act_20 ⟨Nat.le_of_ble_eq_true rfl, Nat.le_of_ble_eq_true rfl⟩ (fun H locs hM => ?_)
  refine me_evi (y := nI S) hW.1 ?_
  refine lv_irem hx hb dL_act_23 (nI_ne0 (by omega) (by omega)) ?_
  have hmd_ := Nat.mod_lt v_2 (show 0 < S by omega)
  refine me_evi (y := nI (v_2 % S)) (nx_rem S rfl (by omega) (by omega) (by omega)) ?_
  refine lv_istore (lv' := [(4, .int (nI (v_2 % S))), (3, .int (nI (v_1 % B))), (2, .int (nI L)), (0, .ref bo), (1, .ref ra)]) hx hb dL_act_24 hl (by decide) rfl (fun ls hl => ?_)
  refine lv_iload_n hx hb dL_act_26 rfl (lv_at hl 2 rfl) ?_
  refine lv_if_ne (tgt := 34) hx hb dL_act_27 (by decide) (fun c_1 => ?_) (fun c_1 => ?_)
  · have c_1 := (not_congr (br_eq rfl (show (0 : Int32) = nI 0 from rfl) (by omega) (by omega))).mp c_1
    refine lv_aload_n hx hb dL_act_34 rfl (lv_at hl 4 rfl) ?_
    refine me_callSp (As := [.ref ra]) (rest := []) hC hl.1 hM (c_L_next l D tb X z0 n_2 ra f_2 (sp tb (bo + 722) g (bq tb bo G F sf inp out (me_up M0 ra (.inl (tb 0, 1, .inl f_2))))) (bq_some hra (me_up_s _ _ _))) (ks_L_79 hw rfl rfl ⟨Nat.le_of_ble_eq_true rfl, Nat.le_of_ble_eq_true rfl⟩) rfl rfl (Nat.le_of_ble_eq_true rfl) dL_act_35 ⟨Nat.le_of_ble_eq_true rfl, Nat.le_of_ble_eq_true rfl⟩ (fun r_3 M_3 hP_3 H locs n_3 hM => ?_)
    obtain ⟨v_3, f_3, rfl, hv_3, rfl⟩ := hP_3
    have hM := hM.eq (bq_upo hra)
    refine lv_iload_n hx hb dL_act_38 rfl (lv_at hl 2 rfl) ?_
    refine lv_irem hx hb dL_act_39 (nI_ne0 (by omega) (by omega)) ?_
    have hmd_ := Nat.mod_lt v_3 (show 0 < L by omega)
    refine me_evi (y := nI (v_3 % L)) (nx_rem L rfl (by omega) (by omega) (by omega)) ?_
    refine lv_istore (lv' := [(5, .int (nI (v_3 % L))), (4, .int (nI (v_2 % S))), (3, .int (nI (v_1 % B))), (2, .int (nI L)), (0, .ref bo), (1, .ref ra)]) hx hb dL_act_40 hl (by decide) rfl (fun ls hl => ?_)
    refine lv_iload_n hx hb dL_act_42 rfl (lv_at hl 3 rfl) ?_
    refine lv_if_ne (tgt := 50) hx hb dL_act_43 (by decide) (fun c_2 => ?_) (fun c_2 => ?_)
    · have c_2 := (not_congr (br_eq rfl (show (0 : Int32) = nI 0 from rfl) (by omega) (by omega))).mp c_2
      refine lv_aload_n hx hb dL_act_50 rfl (lv_at hl 4 rfl) ?_
      refine lv_iload hx hb dL_act_51 (lv_at hl 0 rfl) ?_
      refine me_callVi (As := [.int (nI (v_3 % L))]) (rest := []) hC hl.1 hM (c_X7_statusOf l D tb X z0 n_3 bo g G F sf inp out (me_up M0 ra (.inl (tb 0, 1, .inl f_3))) S B L P (v_3 % L) hW (by omega)) (kv_L_152 hw rfl rfl ⟨Nat.le_of_ble_eq_true rfl, Nat.le_of_ble_eq_true rfl⟩) rfl rfl (bq_at h_b) rfl (Nat.le_of_ble_eq_true rfl) dL_act_53 ⟨Nat.le_of_ble_eq_true rfl, Nat.le_of_ble_eq_true rfl⟩ (fun H locs hM => ?_)
      obtain ⟨sv, hsv, est⟩ := a4 (v_3 % L) (by omega)
      refine me_evi (y := nI sv) est ?_
      refine lv_istore (lv' := [(6, .int (nI sv)), (5, .int (nI (v_3 % L))), (4, .int (nI (v_2 % S))), (3, .int (nI (v_1 % B))), (2, .int (nI L)), (0, .ref bo), (1, .ref ra)]) hx hb dL_act_56 hl (by decide) rfl (fun ls hl => ?_)
      refine lv_aload_n hx hb dL_act_58 rfl (lv_at hl 5 rfl) ?_
      refine me_callVi (As := []) (rest := []) hC hl.1 hM (c_X7_clock l D tb X z0 n_3 bo g G F sf inp out (me_up M0 ra (.inl (tb 0, 1, .inl f_3))) S B L P  ) (kv_L_104 hw rfl rfl ⟨Nat.le_of_ble_eq_true rfl, Nat.le_of_ble_eq_true rfl⟩) rfl rfl (bq_at h_b) rfl (Nat.le_of_ble_eq_true rfl) dL_act_59 ⟨Nat.le_of_ble_eq_true rfl, Nat.le_of_ble_eq_true rfl⟩ (fun H locs hM => ?_)
      refine me_evi (y := nI T) hT ?_
      refine lv_aload_n hx hb dL_act_62 rfl (lv_at hl 6 rfl) ?_
      refine me_callSp (As := [.ref ra]) (rest := [.int (nI T)]) hC hl.1 hM (c_L_next l D tb X z0 n_3 ra f_3 (sp tb (bo + 722) g (bq tb bo G F sf inp out (me_up M0 ra (.inl (tb 0, 1, .inl f_3))))) (bq_some hra (me_up_s _ _ _))) (ks_L_79 hw rfl rfl ⟨Nat.le_of_ble_eq_true rfl, Nat.le_of_ble_eq_true rfl⟩) rfl rfl (Nat.le_of_ble_eq_true rfl) dL_act_63 ⟨Nat.le_of_ble_eq_true rfl, Nat.le_of_ble_eq_true rfl⟩ (fun r_4 M_4 hP_4 H locs n_4 hM => ?_)
      obtain ⟨v_4, f_4, rfl, hv_4, rfl⟩ := hP_4
      have hM := hM.eq (bq_upo hra)
      refine lv_bipush (v := 20) hx hb dL_act_66 (by decide) ?_
      refine lv_irem hx hb dL_act_68 (by decide) ?_
      refine me_evi (y := nI (v_4 % 20)) (nx_rem 20 rfl (by omega) (by omega) (by omega)) ?_
      refine lv_iadd hx hb dL_act_69 ?_
      refine me_evi (y := nI (T + (v_4 % 20))) (nx_add rfl rfl) ?_
      refine lv_istore (lv' := [(7, .int (nI (T + (v_4 % 20)))), (6, .int (nI sv)), (5, .int (nI (v_3 % L))), (4, .int (nI (v_2 % S))), (3, .int (nI (v_1 % B))), (2, .int (nI L)), (0, .ref bo), (1, .ref ra)]) hx hb dL_act_70 hl (by decide) rfl (fun ls hl => ?_)
      refine lv_aload_n hx hb dL_act_72 rfl (lv_at hl 7 rfl) ?_
      refine me_callSp (As := [.ref ra]) (rest := []) hC hl.1 hM (c_L_next l D tb X z0 n_4 ra f_4 (sp tb (bo + 722) g (bq tb bo G F sf inp out (me_up M0 ra (.inl (tb 0, 1, .inl f_4))))) (bq_some hra (me_up_s _ _ _))) (ks_L_79 hw rfl rfl ⟨Nat.le_of_ble_eq_true rfl, Nat.le_of_ble_eq_true rfl⟩) rfl rfl (Nat.le_of_ble_eq_true rfl) dL_act_73 ⟨Nat.le_of_ble_eq_true rfl, Nat.le_of_ble_eq_true rfl⟩ (fun r_5 M_5 hP_5 H locs n_5 hM => ?_)
      obtain ⟨v_5, f_5, rfl, hv_5, rfl⟩ := hP_5
      have hM := hM.eq (bq_upo hra)
      refine lv_bipush (v := 9) hx hb dL_act_76 (by decide) ?_
      refine lv_irem hx hb dL_act_78 (by decide) ?_
      refine me_evi (y := nI (v_5 % 9)) (nx_rem 9 rfl (by omega) (by omega) (by omega)) ?_
      rcases sw9 (v_5 % 9) (by omega) with c_3 | c_3 | c_3 | c_3 | c_3 | c_3 | c_3 | c_3 | c_3
      · refine me_evi (y := 0) c_3 ?_
        refine lv_tableIn (tgt := 120) hx hb dL_act_79 (by decide) (by decide) (off := 41) (by decide) (by decide) ?_
        refine lv_iconst (v := 1) hx hb dL_act_120 (by decide) ?_
        refine lv_aload_n hx hb dL_act_121 rfl (lv_at hl 7 rfl) ?_
        refine me_callSp (As := [.ref ra]) (rest := [.int 1]) hC hl.1 hM (c_L_next l D tb X z0 n_5 ra f_5 (sp tb (bo + 722) g (bq tb bo G F sf inp out (me_up M0 ra (.inl (tb 0, 1, .inl f_5))))) (bq_some hra (me_up_s _ _ _))) (ks_L_79 hw rfl rfl ⟨Nat.le_of_ble_eq_true rfl, Nat.le_of_ble_eq_true rfl⟩) rfl rfl (Nat.le_of_ble_eq_true rfl) dL_act_122 ⟨Nat.le_of_ble_eq_true rfl, Nat.le_of_ble_eq_true rfl⟩ (fun r_6 M_6 hP_6 H locs n_6 hM => ?_)
        obtain ⟨v_6, f_6, rfl, hv_6, rfl⟩ := hP_6
        have hM := hM.eq (bq_upo hra)
        refine lv_bipush (v := 6) hx hb dL_act_125 (by decide) ?_
        refine lv_irem hx hb dL_act_127 (by decide) ?_
        refine me_evi (y := nI (v_6 % 6)) (nx_rem 6 rfl (by omega) (by omega) (by omega)) ?_
        refine lv_iadd hx hb dL_act_128 ?_
        refine me_evi (y := nI (1 + (v_6 % 6))) (nx_add (show (1 : Int32) = nI 1 from rfl) rfl) ?_
        refine lv_istore (lv' := [(8, .int (nI (1 + (v_6 % 6)))), (7, .int (nI (T + (v_4 % 20)))), (6, .int (nI sv)), (5, .int (nI (v_3 % L))), (4, .int (nI (v_2 % S))), (3, .int (nI (v_1 % B))), (2, .int (nI L)), (0, .ref bo), (1, .ref ra)]) hx hb dL_act_129 hl (by decide) rfl (fun ls hl => ?_)
        refine lv_aload_n hx hb dL_act_131 rfl (lv_at hl 7 rfl) ?_
        refine lv_iload_n hx hb dL_act_132 rfl (lv_at hl 5 rfl) ?_
        refine lv_iload hx hb dL_act_133 (lv_at hl 1 rfl) ?_
        refine lv_iload hx hb dL_act_135 (lv_at hl 0 rfl) ?_
        refine me_callSnp (nA := 4) (As := [.ref bo, .int (nI (v_1 % B)), .int (nI (T + (v_4 % 20))), .int (nI (1 + (v_6 % 6)))]) (rest := []) hC hl.1 hM (c_L_refused (mc := 0) (ms := 0) l D tb X z0 n_6 bo (nI (v_1 % B)) (nI (T + (v_4 % 20))) (nI (1 + (v_6 % 6))) rfl rfl ⟨Nat.le_of_ble_eq_true rfl, Nat.le_of_ble_eq_true rfl⟩ (bq_at h_b) (c_X7_refusal l D tb X z0 n_6 bo g G F sf inp out (me_up M0 ra (.inl (tb 0, 1, .inl f_6))) S B L P T (v_1 % B) (T + (v_4 % 20)) (1 + (v_6 % 6)) hW hT hT0 (by omega) (by omega) (by omega) (by omega) (by omega))) w_1239 w_1240 w_0 w_1241 (by decide +kernel) rfl rfl ⟨Nat.le_of_ble_eq_true rfl, Nat.le_of_ble_eq_true rfl⟩ rfl rfl (Nat.le_of_ble_eq_true rfl) dL_act_137 ⟨Nat.le_of_ble_eq_true rfl, Nat.le_of_ble_eq_true rfl⟩ (fun r_7 M_7 hP_7 H locs n_7 hM => ?_)
        obtain ⟨rfl, rfl⟩ := hP_7
        refine lv_istore (lv' := [(9, .int (reF g L P (v_1 % B) (T + (v_4 % 20)) (1 + (v_6 % 6)))), (8, .int (nI (1 + (v_6 % 6)))), (7, .int (nI (T + (v_4 % 20)))), (6, .int (nI sv)), (5, .int (nI (v_3 % L))), (4, .int (nI (v_2 % S))), (3, .int (nI (v_1 % B))), (2, .int (nI L)), (0, .ref bo), (1, .ref ra)]) hx hb dL_act_140 hl (by decide) rfl (fun ls hl => ?_)
        refine lv_aload_n hx hb dL_act_142 rfl (lv_at hl 8 rfl) ?_
        refine lv_iload_n hx hb dL_act_143 rfl (lv_at hl 6 rfl) ?_
        refine lv_iload hx hb dL_act_144 (lv_at hl 1 rfl) ?_
        refine me_callVi (As := [.int (nI (v_1 % B)), .int (nI (1 + (v_6 % 6)))]) (rest := []) hC hl.1 hM (c_X7_quote l D tb X z0 n_7 bo g G F sf inp out (me_up M0 ra (.inl (tb 0, 1, .inl f_6))) S B L P (v_1 % B) (1 + (v_6 % 6)) hW (by omega) (by omega) (by omega)) (kv_L_179 hw rfl rfl ⟨Nat.le_of_ble_eq_true rfl, Nat.le_of_ble_eq_true rfl⟩) rfl rfl (bq_at h_b) rfl (Nat.le_of_ble_eq_true rfl) dL_act_146 ⟨Nat.le_of_ble_eq_true rfl, Nat.le_of_ble_eq_true rfl⟩ (fun H locs hM => ?_)
        refine lv_istore (lv' := [(10, .int (prF g (v_1 % B) (nI (1 + (v_6 % 6))))), (9, .int (reF g L P (v_1 % B) (T + (v_4 % 20)) (1 + (v_6 % 6)))), (8, .int (nI (1 + (v_6 % 6)))), (7, .int (nI (T + (v_4 % 20)))), (6, .int (nI sv)), (5, .int (nI (v_3 % L))), (4, .int (nI (v_2 % S))), (3, .int (nI (v_1 % B))), (2, .int (nI L)), (0, .ref bo), (1, .ref ra)]) hx hb dL_act_149 hl (by decide) rfl (fun ls hl => ?_)
        refine lv_aload_n hx hb dL_act_151 rfl (lv_at hl 9 rfl) ?_
        refine lv_iload_n hx hb dL_act_152 rfl (lv_at hl 7 rfl) ?_
        refine me_callVi (As := [.int (nI (v_1 % B))]) (rest := []) hC hl.1 hM (c_X7_creditOf l D tb X z0 n_7 bo g G F sf inp out (me_up M0 ra (.inl (tb 0, 1, .inl f_6))) S B L P (v_1 % B) hW (by omega)) (kv_L_134 hw rfl rfl ⟨Nat.le_of_ble_eq_true rfl, Nat.le_of_ble_eq_true rfl⟩) rfl rfl (bq_at h_b) rfl (Nat.le_of_ble_eq_true rfl) dL_act_153 ⟨Nat.le_of_ble_eq_true rfl, Nat.le_of_ble_eq_true rfl⟩ (fun H locs hM => ?_)
        refine lv_istore (lv' := [(11, .int (g (89 + 11 * (v_1 % B) + 2))), (10, .int (prF g (v_1 % B) (nI (1 + (v_6 % 6))))), (9, .int (reF g L P (v_1 % B) (T + (v_4 % 20)) (1 + (v_6 % 6)))), (8, .int (nI (1 + (v_6 % 6)))), (7, .int (nI (T + (v_4 % 20)))), (6, .int (nI sv)), (5, .int (nI (v_3 % L))), (4, .int (nI (v_2 % S))), (3, .int (nI (v_1 % B))), (2, .int (nI L)), (0, .ref bo), (1, .ref ra)]) hx hb dL_act_156 hl (by decide) rfl (fun ls hl => ?_)
        have hem := Classical.em (reF g L P (v_1 % B) (T + (v_4 % 20)) (1 + (v_6 % 6)) = 0)
        have a1_ := a1 (v_1 % B) (T + (v_4 % 20)) (1 + (v_6 % 6)) (by omega) (by omega) (by omega) (by omega) (by omega)
        rcases hem with hre | hre
        · skip
          refine lv_aload_n hx hb dL_act_158 rfl (lv_at hl 10 rfl) ?_
          refine lv_iload_n hx hb dL_act_159 rfl (lv_at hl 8 rfl) ?_
          refine lv_iload hx hb dL_act_160 (lv_at hl 4 rfl) ?_
          refine lv_iload hx hb dL_act_162 (lv_at hl 3 rfl) ?_
          refine me_callSnp (nA := 4) (As := [.ref bo, .int (nI (v_1 % B)), .int (nI (T + (v_4 % 20))), .int (nI (1 + (v_6 % 6)))]) (rest := []) hC hl.1 hM (c_L_lent (mc := 0) (ms := 0) l D tb X z0 n_7 bo (nI (v_1 % B)) (nI (T + (v_4 % 20))) (nI (1 + (v_6 % 6))) rfl rfl ⟨Nat.le_of_ble_eq_true rfl, Nat.le_of_ble_eq_true rfl⟩ (bq_at h_b) (c_X7_lend l D tb X z0 n_7 bo g G F sf inp out (me_up M0 ra (.inl (tb 0, 1, .inl f_6))) S B L P T nx ct (v_1 % B) (T + (v_4 % 20)) (1 + (v_6 % 6)) hW hT hT0 hnx hnx0 hct hct0 (by omega) (by omega) (by omega) (by omega) (by omega) hre)) w_756 w_757 w_0 w_758 (by decide +kernel) rfl rfl ⟨Nat.le_of_ble_eq_true rfl, Nat.le_of_ble_eq_true rfl⟩ rfl rfl (Nat.le_of_ble_eq_true rfl) dL_act_164 ⟨Nat.le_of_ble_eq_true rfl, Nat.le_of_ble_eq_true rfl⟩ (fun r_8 M_8 hP_8 H locs n_8 hM => ?_)
          obtain ⟨rfl, rfl⟩ := hP_8
          have hL30 := reF_L hW hre
          have hW2 := wf_ad (s := (T + (v_4 % 20))) (n := (1 + (v_6 % 6))) hW (show v_1 % B < B by omega) hL30
          have hT2 := (a0 (v_1 % B) (T + (v_4 % 20)) (1 + (v_6 % 6)) (by omega) (by omega)).trans hT
          refine lv_istore (lv' := [(12, .int (nI L)), (11, .int (g (89 + 11 * (v_1 % B) + 2))), (10, .int (prF g (v_1 % B) (nI (1 + (v_6 % 6))))), (9, .int (reF g L P (v_1 % B) (T + (v_4 % 20)) (1 + (v_6 % 6)))), (8, .int (nI (1 + (v_6 % 6)))), (7, .int (nI (T + (v_4 % 20)))), (6, .int (nI sv)), (5, .int (nI (v_3 % L))), (4, .int (nI (v_2 % S))), (3, .int (nI (v_1 % B))), (2, .int (nI L)), (0, .ref bo), (1, .ref ra)]) hx hb dL_act_167 hl (by decide) rfl (fun ls hl => ?_)
          refine lv_iload hx hb dL_act_169 (lv_at hl 3 rfl) ?_
          refine me_evi (y := 0) hre ?_
          refine lv_if_eq (tgt := 202) hx hb dL_act_171 (by decide) (fun c_4 => ?_) (fun c_4 => ?_)
          · refine lv_iload hx hb dL_act_202 (lv_at hl 0 rfl) ?_
            refine lv_iload_n hx hb dL_act_204 rfl (lv_at hl 10 rfl) ?_
            refine lv_icmp_ne (tgt := 252) hx hb dL_act_205 (by decide) (fun c_5 => ?_) (fun c_5 => ?_)
            · exact absurd rfl c_5
            · refine lv_aload_n hx hb dL_act_208 rfl (lv_at hl 11 rfl) ?_
              refine lv_iload_n hx hb dL_act_209 rfl (lv_at hl 9 rfl) ?_
              refine me_callVi (As := [.int (nI (v_1 % B))]) (rest := []) hC hl.1 hM (c_X7_creditOf l D tb X z0 n_8 bo (adF g L (v_1 % B) (T + (v_4 % 20)) (1 + (v_6 % 6))) (recG G g S B L P nx) (recF F nx ct) sf inp out (me_up M0 ra (.inl (tb 0, 1, .inl f_6))) S B (L + 1) P (v_1 % B) hW2 (by omega)) (kv_L_134 hw rfl rfl ⟨Nat.le_of_ble_eq_true rfl, Nat.le_of_ble_eq_true rfl⟩) rfl rfl (bq_at h_b) rfl (Nat.le_of_ble_eq_true rfl) dL_act_210 ⟨Nat.le_of_ble_eq_true rfl, Nat.le_of_ble_eq_true rfl⟩ (fun H locs hM => ?_)
              refine me_evi (y := g (89 + 11 * (v_1 % B) + 2) - prF g (v_1 % B) (nI (1 + (v_6 % 6)))) (a1_ hre).1 ?_
              refine lv_iload hx hb dL_act_213 (lv_at hl 1 rfl) ?_
              refine lv_iload hx hb dL_act_215 (lv_at hl 2 rfl) ?_
              refine lv_isub hx hb dL_act_217 ?_
              refine me_evi (y := g (89 + 11 * (v_1 % B) + 2) - prF g (v_1 % B) (nI (1 + (v_6 % 6)))) rfl ?_
              refine lv_icmp_ne (tgt := 252) hx hb dL_act_218 (by decide) (fun c_6 => ?_) (fun c_6 => ?_)
              · exact absurd rfl c_6
              · refine lv_aload_n hx hb dL_act_221 rfl (lv_at hl 11 rfl) ?_
                refine lv_iload hx hb dL_act_222 (lv_at hl 5 rfl) ?_
                refine me_callVi (As := [.int (nI (T + (v_4 % 20)))]) (rest := []) hC hl.1 hM (c_X7_holderOf l D tb X z0 n_8 bo (adF g L (v_1 % B) (T + (v_4 % 20)) (1 + (v_6 % 6))) (recG G g S B L P nx) (recF F nx ct) sf inp out (me_up M0 ra (.inl (tb 0, 1, .inl f_6))) S B (L + 1) P T (T + (v_4 % 20)) hW2 hT2 hT0 (by omega) (by omega)) (kv_L_165 hw rfl rfl ⟨Nat.le_of_ble_eq_true rfl, Nat.le_of_ble_eq_true rfl⟩) rfl rfl (bq_at h_b) rfl (Nat.le_of_ble_eq_true rfl) dL_act_224 ⟨Nat.le_of_ble_eq_true rfl, Nat.le_of_ble_eq_true rfl⟩ (fun H locs hM => ?_)
                refine me_evi (y := nI L) ((a1_ hre).2 _ (by omega) (by omega)) ?_
                refine lv_iload hx hb dL_act_227 (lv_at hl 0 rfl) ?_
                refine lv_icmp_ne (tgt := 252) hx hb dL_act_229 (by decide) (fun c_7 => ?_) (fun c_7 => ?_)
                · exact absurd rfl c_7
                · refine lv_aload_n hx hb dL_act_232 rfl (lv_at hl 11 rfl) ?_
                  refine lv_iload hx hb dL_act_233 (lv_at hl 5 rfl) ?_
                  refine lv_iload hx hb dL_act_235 (lv_at hl 4 rfl) ?_
                  refine lv_iadd hx hb dL_act_237 ?_
                  refine lv_iconst (v := 1) hx hb dL_act_238 (by decide) ?_
                  refine lv_isub hx hb dL_act_239 ?_
                  refine me_evi (y := nI (T + (v_4 % 20) + (1 + (v_6 % 6)) - 1)) (nx_sub (nx_add rfl rfl) (show (1 : Int32) = nI 1 from rfl) (by omega)) ?_
                  refine me_callVi (As := [.int (nI (T + (v_4 % 20) + (1 + (v_6 % 6)) - 1))]) (rest := []) hC hl.1 hM (c_X7_holderOf l D tb X z0 n_8 bo (adF g L (v_1 % B) (T + (v_4 % 20)) (1 + (v_6 % 6))) (recG G g S B L P nx) (recF F nx ct) sf inp out (me_up M0 ra (.inl (tb 0, 1, .inl f_6))) S B (L + 1) P T (T + (v_4 % 20) + (1 + (v_6 % 6)) - 1) hW2 hT2 hT0 (by omega) (by omega)) (kv_L_165 hw rfl rfl ⟨Nat.le_of_ble_eq_true rfl, Nat.le_of_ble_eq_true rfl⟩) rfl rfl (bq_at h_b) rfl (Nat.le_of_ble_eq_true rfl) dL_act_240 ⟨Nat.le_of_ble_eq_true rfl, Nat.le_of_ble_eq_true rfl⟩ (fun H locs hM => ?_)
                  refine me_evi (y := nI L) ((a1_ hre).2 _ (by omega) (by omega)) ?_
                  refine lv_iload hx hb dL_act_243 (lv_at hl 0 rfl) ?_
                  refine lv_icmp_ne (tgt := 252) hx hb dL_act_245 (by decide) (fun c_8 => ?_) (fun c_8 => ?_)
                  · exact absurd rfl c_8
                  · refine lv_iconst (v := 1) hx hb dL_act_248 (by decide) ?_
                    refine lv_goto (tgt := 253) hx hb dL_act_249 (by decide) ?_
                    refine W.widen (k := 8) (n := 60) (by omega) (by omega) ?_
                    exact me_pret hC hr hlk hM (⟨_, _, _, _, _, rfl, Or.inl (⟨_, _, _, by omega, by omega, by omega, by omega, by omega, hre, rfl, rfl, rfl, rfl⟩), rfl⟩) (rfl) dL_act_253
          · exact absurd c_4 (by decide)
        · skip
          refine lv_aload_n hx hb dL_act_158 rfl (lv_at hl 10 rfl) ?_
          refine lv_iload_n hx hb dL_act_159 rfl (lv_at hl 8 rfl) ?_
          refine lv_iload hx hb dL_act_160 (lv_at hl 4 rfl) ?_
          refine lv_iload hx hb dL_act_162 (lv_at hl 3 rfl) ?_
          refine me_callSnp (nA := 4) (As := [.ref bo, .int (nI (v_1 % B)), .int (nI (T + (v_4 % 20))), .int (nI (1 + (v_6 % 6)))]) (rest := []) hC hl.1 hM (c_L_lent_x3 (mc := 1) (ms := 6) l D tb X z0 n_7 bo (nI (v_1 % B)) (nI (T + (v_4 % 20))) (nI (1 + (v_6 % 6))) hCE rfl rfl ⟨Nat.le_of_ble_eq_true rfl, Nat.le_of_ble_eq_true rfl⟩ (bq_at h_b) (c_X7_lend_x4 l D tb X z0 n_7 bo g G F sf inp out (me_up M0 ra (.inl (tb 0, 1, .inl f_6))) S B L P T (v_1 % B) (T + (v_4 % 20)) (1 + (v_6 % 6)) hfl hXs hW hT hT0 (by omega) (by omega) (by omega) (by omega) (by omega) hre)) w_756 w_757 w_0 w_758 (by decide +kernel) rfl rfl ⟨Nat.le_of_ble_eq_true rfl, Nat.le_of_ble_eq_true rfl⟩ rfl rfl (Nat.le_of_ble_eq_true rfl) dL_act_164 ⟨Nat.le_of_ble_eq_true rfl, Nat.le_of_ble_eq_true rfl⟩ (fun r_9 M_9 hP_9 H locs n_9 hM => ?_)
          obtain ⟨rfl, rfl⟩ := hP_9
          refine lv_istore (lv' := [(12, .int (-3)), (11, .int (g (89 + 11 * (v_1 % B) + 2))), (10, .int (prF g (v_1 % B) (nI (1 + (v_6 % 6))))), (9, .int (reF g L P (v_1 % B) (T + (v_4 % 20)) (1 + (v_6 % 6)))), (8, .int (nI (1 + (v_6 % 6)))), (7, .int (nI (T + (v_4 % 20)))), (6, .int (nI sv)), (5, .int (nI (v_3 % L))), (4, .int (nI (v_2 % S))), (3, .int (nI (v_1 % B))), (2, .int (nI L)), (0, .ref bo), (1, .ref ra)]) hx hb dL_act_167 hl (by decide) rfl (fun ls hl => ?_)
          refine lv_iload hx hb dL_act_169 (lv_at hl 3 rfl) ?_
          refine lv_if_eq (tgt := 202) hx hb dL_act_171 (by decide) (fun c_9 => ?_) (fun c_9 => ?_)
          · exact absurd c_9 hre
          · refine lv_iload hx hb dL_act_174 (lv_at hl 0 rfl) ?_
            refine lv_bipush (v := (-3)) hx hb dL_act_176 (by decide) ?_
            refine lv_icmp_ne (tgt := 198) hx hb dL_act_178 (by decide) (fun c_10 => ?_) (fun c_10 => ?_)
            · exact absurd c_10 (by decide)
            · refine lv_aload_n hx hb dL_act_181 rfl (lv_at hl 11 rfl) ?_
              refine lv_iload_n hx hb dL_act_182 rfl (lv_at hl 9 rfl) ?_
              refine lv_iconst (v := 3) hx hb dL_act_183 (by decide) ?_
              refine me_callSnp (nA := 3) (As := [.ref bo, .int (nI (v_1 % B)), .int 3]) (rest := []) hC hl.1 hM (c_L_paid (mc := 0) (ms := 0) l D tb X z0 n_9 bo (nI (v_1 % B)) 3 rfl rfl ⟨Nat.le_of_ble_eq_true rfl, Nat.le_of_ble_eq_true rfl⟩ (bq_at h_b) (c_X7_pay l D tb X z0 n_9 bo g G F sf inp out (me_up M0 ra (.inl (tb 0, 1, .inl f_6))) S B L P nx ct (v_1 % B) 3 hW hnx hnx0 hct hct0 (by omega) (by decide) (by decide))) w_833 w_834 w_0 w_835 (by decide +kernel) rfl rfl ⟨Nat.le_of_ble_eq_true rfl, Nat.le_of_ble_eq_true rfl⟩ rfl rfl (Nat.le_of_ble_eq_true rfl) dL_act_184 ⟨Nat.le_of_ble_eq_true rfl, Nat.le_of_ble_eq_true rfl⟩ (fun r_10 M_10 hP_10 H locs n_10 hM => ?_)
              obtain ⟨rfl, rfl⟩ := hP_10
              refine lv_iload hx hb dL_act_187 (lv_at hl 1 rfl) ?_
              refine lv_iconst (v := 3) hx hb dL_act_189 (by decide) ?_
              refine lv_iadd hx hb dL_act_190 ?_
              refine me_evi (y := g (89 + 11 * (v_1 % B) + 2) + nI 3) rfl ?_
              refine lv_icmp_ne (tgt := 198) hx hb dL_act_191 (by decide) (fun c_11 => ?_) (fun c_11 => ?_)
              · exact absurd rfl c_11
              · refine lv_iconst (v := 1) hx hb dL_act_194 (by decide) ?_
                refine lv_goto (tgt := 253) hx hb dL_act_195 (by decide) ?_
                refine W.widen (k := 8) (n := 60) (by omega) (by omega) ?_
                exact me_pret hC hr hlk hM (⟨_, _, _, _, _, rfl, Or.inr (Or.inr (Or.inr (Or.inr (Or.inr (Or.inl (⟨v_1 % B, 3, by omega, by decide, by decide, rfl, rfl, rfl, rfl⟩)))))), rfl⟩) (rfl) dL_act_253
      · refine me_evi (y := 1) c_3 ?_
        refine lv_tableIn (tgt := 120) hx hb dL_act_79 (by decide) (by decide) (off := 41) (by decide) (by decide) ?_
        refine lv_iconst (v := 1) hx hb dL_act_120 (by decide) ?_
        refine lv_aload_n hx hb dL_act_121 rfl (lv_at hl 7 rfl) ?_
        refine me_callSp (As := [.ref ra]) (rest := [.int 1]) hC hl.1 hM (c_L_next l D tb X z0 n_5 ra f_5 (sp tb (bo + 722) g (bq tb bo G F sf inp out (me_up M0 ra (.inl (tb 0, 1, .inl f_5))))) (bq_some hra (me_up_s _ _ _))) (ks_L_79 hw rfl rfl ⟨Nat.le_of_ble_eq_true rfl, Nat.le_of_ble_eq_true rfl⟩) rfl rfl (Nat.le_of_ble_eq_true rfl) dL_act_122 ⟨Nat.le_of_ble_eq_true rfl, Nat.le_of_ble_eq_true rfl⟩ (fun r_11 M_11 hP_11 H locs n_11 hM => ?_)
        obtain ⟨v_11, f_11, rfl, hv_11, rfl⟩ := hP_11
        have hM := hM.eq (bq_upo hra)
        refine lv_bipush (v := 6) hx hb dL_act_125 (by decide) ?_
        refine lv_irem hx hb dL_act_127 (by decide) ?_
        refine me_evi (y := nI (v_11 % 6)) (nx_rem 6 rfl (by omega) (by omega) (by omega)) ?_
        refine lv_iadd hx hb dL_act_128 ?_
        refine me_evi (y := nI (1 + (v_11 % 6))) (nx_add (show (1 : Int32) = nI 1 from rfl) rfl) ?_
        refine lv_istore (lv' := [(8, .int (nI (1 + (v_11 % 6)))), (7, .int (nI (T + (v_4 % 20)))), (6, .int (nI sv)), (5, .int (nI (v_3 % L))), (4, .int (nI (v_2 % S))), (3, .int (nI (v_1 % B))), (2, .int (nI L)), (0, .ref bo), (1, .ref ra)]) hx hb dL_act_129 hl (by decide) rfl (fun ls hl => ?_)
        refine lv_aload_n hx hb dL_act_131 rfl (lv_at hl 7 rfl) ?_
        refine lv_iload_n hx hb dL_act_132 rfl (lv_at hl 5 rfl) ?_
        refine lv_iload hx hb dL_act_133 (lv_at hl 1 rfl) ?_
        refine lv_iload hx hb dL_act_135 (lv_at hl 0 rfl) ?_
        refine me_callSnp (nA := 4) (As := [.ref bo, .int (nI (v_1 % B)), .int (nI (T + (v_4 % 20))), .int (nI (1 + (v_11 % 6)))]) (rest := []) hC hl.1 hM (c_L_refused (mc := 0) (ms := 0) l D tb X z0 n_11 bo (nI (v_1 % B)) (nI (T + (v_4 % 20))) (nI (1 + (v_11 % 6))) rfl rfl ⟨Nat.le_of_ble_eq_true rfl, Nat.le_of_ble_eq_true rfl⟩ (bq_at h_b) (c_X7_refusal l D tb X z0 n_11 bo g G F sf inp out (me_up M0 ra (.inl (tb 0, 1, .inl f_11))) S B L P T (v_1 % B) (T + (v_4 % 20)) (1 + (v_11 % 6)) hW hT hT0 (by omega) (by omega) (by omega) (by omega) (by omega))) w_1239 w_1240 w_0 w_1241 (by decide +kernel) rfl rfl ⟨Nat.le_of_ble_eq_true rfl, Nat.le_of_ble_eq_true rfl⟩ rfl rfl (Nat.le_of_ble_eq_true rfl) dL_act_137 ⟨Nat.le_of_ble_eq_true rfl, Nat.le_of_ble_eq_true rfl⟩ (fun r_12 M_12 hP_12 H locs n_12 hM => ?_)
        obtain ⟨rfl, rfl⟩ := hP_12
        refine lv_istore (lv' := [(9, .int (reF g L P (v_1 % B) (T + (v_4 % 20)) (1 + (v_11 % 6)))), (8, .int (nI (1 + (v_11 % 6)))), (7, .int (nI (T + (v_4 % 20)))), (6, .int (nI sv)), (5, .int (nI (v_3 % L))), (4, .int (nI (v_2 % S))), (3, .int (nI (v_1 % B))), (2, .int (nI L)), (0, .ref bo), (1, .ref ra)]) hx hb dL_act_140 hl (by decide) rfl (fun ls hl => ?_)
        refine lv_aload_n hx hb dL_act_142 rfl (lv_at hl 8 rfl) ?_
        refine lv_iload_n hx hb dL_act_143 rfl (lv_at hl 6 rfl) ?_
        refine lv_iload hx hb dL_act_144 (lv_at hl 1 rfl) ?_
        refine me_callVi (As := [.int (nI (v_1 % B)), .int (nI (1 + (v_11 % 6)))]) (rest := []) hC hl.1 hM (c_X7_quote l D tb X z0 n_12 bo g G F sf inp out (me_up M0 ra (.inl (tb 0, 1, .inl f_11))) S B L P (v_1 % B) (1 + (v_11 % 6)) hW (by omega) (by omega) (by omega)) (kv_L_179 hw rfl rfl ⟨Nat.le_of_ble_eq_true rfl, Nat.le_of_ble_eq_true rfl⟩) rfl rfl (bq_at h_b) rfl (Nat.le_of_ble_eq_true rfl) dL_act_146 ⟨Nat.le_of_ble_eq_true rfl, Nat.le_of_ble_eq_true rfl⟩ (fun H locs hM => ?_)
        refine lv_istore (lv' := [(10, .int (prF g (v_1 % B) (nI (1 + (v_11 % 6))))), (9, .int (reF g L P (v_1 % B) (T + (v_4 % 20)) (1 + (v_11 % 6)))), (8, .int (nI (1 + (v_11 % 6)))), (7, .int (nI (T + (v_4 % 20)))), (6, .int (nI sv)), (5, .int (nI (v_3 % L))), (4, .int (nI (v_2 % S))), (3, .int (nI (v_1 % B))), (2, .int (nI L)), (0, .ref bo), (1, .ref ra)]) hx hb dL_act_149 hl (by decide) rfl (fun ls hl => ?_)
        refine lv_aload_n hx hb dL_act_151 rfl (lv_at hl 9 rfl) ?_
        refine lv_iload_n hx hb dL_act_152 rfl (lv_at hl 7 rfl) ?_
        refine me_callVi (As := [.int (nI (v_1 % B))]) (rest := []) hC hl.1 hM (c_X7_creditOf l D tb X z0 n_12 bo g G F sf inp out (me_up M0 ra (.inl (tb 0, 1, .inl f_11))) S B L P (v_1 % B) hW (by omega)) (kv_L_134 hw rfl rfl ⟨Nat.le_of_ble_eq_true rfl, Nat.le_of_ble_eq_true rfl⟩) rfl rfl (bq_at h_b) rfl (Nat.le_of_ble_eq_true rfl) dL_act_153 ⟨Nat.le_of_ble_eq_true rfl, Nat.le_of_ble_eq_true rfl⟩ (fun H locs hM => ?_)
        refine lv_istore (lv' := [(11, .int (g (89 + 11 * (v_1 % B) + 2))), (10, .int (prF g (v_1 % B) (nI (1 + (v_11 % 6))))), (9, .int (reF g L P (v_1 % B) (T + (v_4 % 20)) (1 + (v_11 % 6)))), (8, .int (nI (1 + (v_11 % 6)))), (7, .int (nI (T + (v_4 % 20)))), (6, .int (nI sv)), (5, .int (nI (v_3 % L))), (4, .int (nI (v_2 % S))), (3, .int (nI (v_1 % B))), (2, .int (nI L)), (0, .ref bo), (1, .ref ra)]) hx hb dL_act_156 hl (by decide) rfl (fun ls hl => ?_)
        have hem := Classical.em (reF g L P (v_1 % B) (T + (v_4 % 20)) (1 + (v_11 % 6)) = 0)
        have a1_ := a1 (v_1 % B) (T + (v_4 % 20)) (1 + (v_11 % 6)) (by omega) (by omega) (by omega) (by omega) (by omega)
        rcases hem with hre | hre
        · skip
          refine lv_aload_n hx hb dL_act_158 rfl (lv_at hl 10 rfl) ?_
          refine lv_iload_n hx hb dL_act_159 rfl (lv_at hl 8 rfl) ?_
          refine lv_iload hx hb dL_act_160 (lv_at hl 4 rfl) ?_
          refine lv_iload hx hb dL_act_162 (lv_at hl 3 rfl) ?_
          refine me_callSnp (nA := 4) (As := [.ref bo, .int (nI (v_1 % B)), .int (nI (T + (v_4 % 20))), .int (nI (1 + (v_11 % 6)))]) (rest := []) hC hl.1 hM (c_L_lent (mc := 0) (ms := 0) l D tb X z0 n_12 bo (nI (v_1 % B)) (nI (T + (v_4 % 20))) (nI (1 + (v_11 % 6))) rfl rfl ⟨Nat.le_of_ble_eq_true rfl, Nat.le_of_ble_eq_true rfl⟩ (bq_at h_b) (c_X7_lend l D tb X z0 n_12 bo g G F sf inp out (me_up M0 ra (.inl (tb 0, 1, .inl f_11))) S B L P T nx ct (v_1 % B) (T + (v_4 % 20)) (1 + (v_11 % 6)) hW hT hT0 hnx hnx0 hct hct0 (by omega) (by omega) (by omega) (by omega) (by omega) hre)) w_756 w_757 w_0 w_758 (by decide +kernel) rfl rfl ⟨Nat.le_of_ble_eq_true rfl, Nat.le_of_ble_eq_true rfl⟩ rfl rfl (Nat.le_of_ble_eq_true rfl) dL_act_164 ⟨Nat.le_of_ble_eq_true rfl, Nat.le_of_ble_eq_true rfl⟩ (fun r_13 M_13 hP_13 H locs n_13 hM => ?_)
          obtain ⟨rfl, rfl⟩ := hP_13
          have hL30 := reF_L hW hre
          have hW2 := wf_ad (s := (T + (v_4 % 20))) (n := (1 + (v_11 % 6))) hW (show v_1 % B < B by omega) hL30
          have hT2 := (a0 (v_1 % B) (T + (v_4 % 20)) (1 + (v_11 % 6)) (by omega) (by omega)).trans hT
          refine lv_istore (lv' := [(12, .int (nI L)), (11, .int (g (89 + 11 * (v_1 % B) + 2))), (10, .int (prF g (v_1 % B) (nI (1 + (v_11 % 6))))), (9, .int (reF g L P (v_1 % B) (T + (v_4 % 20)) (1 + (v_11 % 6)))), (8, .int (nI (1 + (v_11 % 6)))), (7, .int (nI (T + (v_4 % 20)))), (6, .int (nI sv)), (5, .int (nI (v_3 % L))), (4, .int (nI (v_2 % S))), (3, .int (nI (v_1 % B))), (2, .int (nI L)), (0, .ref bo), (1, .ref ra)]) hx hb dL_act_167 hl (by decide) rfl (fun ls hl => ?_)
          refine lv_iload hx hb dL_act_169 (lv_at hl 3 rfl) ?_
          refine me_evi (y := 0) hre ?_
          refine lv_if_eq (tgt := 202) hx hb dL_act_171 (by decide) (fun c_12 => ?_) (fun c_12 => ?_)
          · refine lv_iload hx hb dL_act_202 (lv_at hl 0 rfl) ?_
            refine lv_iload_n hx hb dL_act_204 rfl (lv_at hl 10 rfl) ?_
            refine lv_icmp_ne (tgt := 252) hx hb dL_act_205 (by decide) (fun c_13 => ?_) (fun c_13 => ?_)
            · exact absurd rfl c_13
            · refine lv_aload_n hx hb dL_act_208 rfl (lv_at hl 11 rfl) ?_
              refine lv_iload_n hx hb dL_act_209 rfl (lv_at hl 9 rfl) ?_
              refine me_callVi (As := [.int (nI (v_1 % B))]) (rest := []) hC hl.1 hM (c_X7_creditOf l D tb X z0 n_13 bo (adF g L (v_1 % B) (T + (v_4 % 20)) (1 + (v_11 % 6))) (recG G g S B L P nx) (recF F nx ct) sf inp out (me_up M0 ra (.inl (tb 0, 1, .inl f_11))) S B (L + 1) P (v_1 % B) hW2 (by omega)) (kv_L_134 hw rfl rfl ⟨Nat.le_of_ble_eq_true rfl, Nat.le_of_ble_eq_true rfl⟩) rfl rfl (bq_at h_b) rfl (Nat.le_of_ble_eq_true rfl) dL_act_210 ⟨Nat.le_of_ble_eq_true rfl, Nat.le_of_ble_eq_true rfl⟩ (fun H locs hM => ?_)
              refine me_evi (y := g (89 + 11 * (v_1 % B) + 2) - prF g (v_1 % B) (nI (1 + (v_11 % 6)))) (a1_ hre).1 ?_
              refine lv_iload hx hb dL_act_213 (lv_at hl 1 rfl) ?_
              refine lv_iload hx hb dL_act_215 (lv_at hl 2 rfl) ?_
              refine lv_isub hx hb dL_act_217 ?_
              refine me_evi (y := g (89 + 11 * (v_1 % B) + 2) - prF g (v_1 % B) (nI (1 + (v_11 % 6)))) rfl ?_
              refine lv_icmp_ne (tgt := 252) hx hb dL_act_218 (by decide) (fun c_14 => ?_) (fun c_14 => ?_)
              · exact absurd rfl c_14
              · refine lv_aload_n hx hb dL_act_221 rfl (lv_at hl 11 rfl) ?_
                refine lv_iload hx hb dL_act_222 (lv_at hl 5 rfl) ?_
                refine me_callVi (As := [.int (nI (T + (v_4 % 20)))]) (rest := []) hC hl.1 hM (c_X7_holderOf l D tb X z0 n_13 bo (adF g L (v_1 % B) (T + (v_4 % 20)) (1 + (v_11 % 6))) (recG G g S B L P nx) (recF F nx ct) sf inp out (me_up M0 ra (.inl (tb 0, 1, .inl f_11))) S B (L + 1) P T (T + (v_4 % 20)) hW2 hT2 hT0 (by omega) (by omega)) (kv_L_165 hw rfl rfl ⟨Nat.le_of_ble_eq_true rfl, Nat.le_of_ble_eq_true rfl⟩) rfl rfl (bq_at h_b) rfl (Nat.le_of_ble_eq_true rfl) dL_act_224 ⟨Nat.le_of_ble_eq_true rfl, Nat.le_of_ble_eq_true rfl⟩ (fun H locs hM => ?_)
                refine me_evi (y := nI L) ((a1_ hre).2 _ (by omega) (by omega)) ?_
                refine lv_iload hx hb dL_act_227 (lv_at hl 0 rfl) ?_
                refine lv_icmp_ne (tgt := 252) hx hb dL_act_229 (by decide) (fun c_15 => ?_) (fun c_15 => ?_)
                · exact absurd rfl c_15
                · refine lv_aload_n hx hb dL_act_232 rfl (lv_at hl 11 rfl) ?_
                  refine lv_iload hx hb dL_act_233 (lv_at hl 5 rfl) ?_
                  refine lv_iload hx hb dL_act_235 (lv_at hl 4 rfl) ?_
                  refine lv_iadd hx hb dL_act_237 ?_
                  refine lv_iconst (v := 1) hx hb dL_act_238 (by decide) ?_
                  refine lv_isub hx hb dL_act_239 ?_
                  refine me_evi (y := nI (T + (v_4 % 20) + (1 + (v_11 % 6)) - 1)) (nx_sub (nx_add rfl rfl) (show (1 : Int32) = nI 1 from rfl) (by omega)) ?_
                  refine me_callVi (As := [.int (nI (T + (v_4 % 20) + (1 + (v_11 % 6)) - 1))]) (rest := []) hC hl.1 hM (c_X7_holderOf l D tb X z0 n_13 bo (adF g L (v_1 % B) (T + (v_4 % 20)) (1 + (v_11 % 6))) (recG G g S B L P nx) (recF F nx ct) sf inp out (me_up M0 ra (.inl (tb 0, 1, .inl f_11))) S B (L + 1) P T (T + (v_4 % 20) + (1 + (v_11 % 6)) - 1) hW2 hT2 hT0 (by omega) (by omega)) (kv_L_165 hw rfl rfl ⟨Nat.le_of_ble_eq_true rfl, Nat.le_of_ble_eq_true rfl⟩) rfl rfl (bq_at h_b) rfl (Nat.le_of_ble_eq_true rfl) dL_act_240 ⟨Nat.le_of_ble_eq_true rfl, Nat.le_of_ble_eq_true rfl⟩ (fun H locs hM => ?_)
                  refine me_evi (y := nI L) ((a1_ hre).2 _ (by omega) (by omega)) ?_
                  refine lv_iload hx hb dL_act_243 (lv_at hl 0 rfl) ?_
                  refine lv_icmp_ne (tgt := 252) hx hb dL_act_245 (by decide) (fun c_16 => ?_) (fun c_16 => ?_)
                  · exact absurd rfl c_16
                  · refine lv_iconst (v := 1) hx hb dL_act_248 (by decide) ?_
                    refine lv_goto (tgt := 253) hx hb dL_act_249 (by decide) ?_
                    refine W.widen (k := 8) (n := 60) (by omega) (by omega) ?_
                    exact me_pret hC hr hlk hM (⟨_, _, _, _, _, rfl, Or.inl (⟨_, _, _, by omega, by omega, by omega, by omega, by omega, hre, rfl, rfl, rfl, rfl⟩), rfl⟩) (rfl) dL_act_253
          · exact absurd c_12 (by decide)
        · skip
          refine lv_aload_n hx hb dL_act_158 rfl (lv_at hl 10 rfl) ?_
          refine lv_iload_n hx hb dL_act_159 rfl (lv_at hl 8 rfl) ?_
          refine lv_iload hx hb dL_act_160 (lv_at hl 4 rfl) ?_
          refine lv_iload hx hb dL_act_162 (lv_at hl 3 rfl) ?_
          refine me_callSnp (nA := 4) (As := [.ref bo, .int (nI (v_1 % B)), .int (nI (T + (v_4 % 20))), .int (nI (1 + (v_11 % 6)))]) (rest := []) hC hl.1 hM (c_L_lent_x3 (mc := 1) (ms := 6) l D tb X z0 n_12 bo (nI (v_1 % B)) (nI (T + (v_4 % 20))) (nI (1 + (v_11 % 6))) hCE rfl rfl ⟨Nat.le_of_ble_eq_true rfl, Nat.le_of_ble_eq_true rfl⟩ (bq_at h_b) (c_X7_lend_x4 l D tb X z0 n_12 bo g G F sf inp out (me_up M0 ra (.inl (tb 0, 1, .inl f_11))) S B L P T (v_1 % B) (T + (v_4 % 20)) (1 + (v_11 % 6)) hfl hXs hW hT hT0 (by omega) (by omega) (by omega) (by omega) (by omega) hre)) w_756 w_757 w_0 w_758 (by decide +kernel) rfl rfl ⟨Nat.le_of_ble_eq_true rfl, Nat.le_of_ble_eq_true rfl⟩ rfl rfl (Nat.le_of_ble_eq_true rfl) dL_act_164 ⟨Nat.le_of_ble_eq_true rfl, Nat.le_of_ble_eq_true rfl⟩ (fun r_14 M_14 hP_14 H locs n_14 hM => ?_)
          obtain ⟨rfl, rfl⟩ := hP_14
          refine lv_istore (lv' := [(12, .int (-3)), (11, .int (g (89 + 11 * (v_1 % B) + 2))), (10, .int (prF g (v_1 % B) (nI (1 + (v_11 % 6))))), (9, .int (reF g L P (v_1 % B) (T + (v_4 % 20)) (1 + (v_11 % 6)))), (8, .int (nI (1 + (v_11 % 6)))), (7, .int (nI (T + (v_4 % 20)))), (6, .int (nI sv)), (5, .int (nI (v_3 % L))), (4, .int (nI (v_2 % S))), (3, .int (nI (v_1 % B))), (2, .int (nI L)), (0, .ref bo), (1, .ref ra)]) hx hb dL_act_167 hl (by decide) rfl (fun ls hl => ?_)
          refine lv_iload hx hb dL_act_169 (lv_at hl 3 rfl) ?_
          refine lv_if_eq (tgt := 202) hx hb dL_act_171 (by decide) (fun c_17 => ?_) (fun c_17 => ?_)
          · exact absurd c_17 hre
          · refine lv_iload hx hb dL_act_174 (lv_at hl 0 rfl) ?_
            refine lv_bipush (v := (-3)) hx hb dL_act_176 (by decide) ?_
            refine lv_icmp_ne (tgt := 198) hx hb dL_act_178 (by decide) (fun c_18 => ?_) (fun c_18 => ?_)
            · exact absurd c_18 (by decide)
            · refine lv_aload_n hx hb dL_act_181 rfl (lv_at hl 11 rfl) ?_
              refine lv_iload_n hx hb dL_act_182 rfl (lv_at hl 9 rfl) ?_
              refine lv_iconst (v := 3) hx hb dL_act_183 (by decide) ?_
              refine me_callSnp (nA := 3) (As := [.ref bo, .int (nI (v_1 % B)), .int 3]) (rest := []) hC hl.1 hM (c_L_paid (mc := 0) (ms := 0) l D tb X z0 n_14 bo (nI (v_1 % B)) 3 rfl rfl ⟨Nat.le_of_ble_eq_true rfl, Nat.le_of_ble_eq_true rfl⟩ (bq_at h_b) (c_X7_pay l D tb X z0 n_14 bo g G F sf inp out (me_up M0 ra (.inl (tb 0, 1, .inl f_11))) S B L P nx ct (v_1 % B) 3 hW hnx hnx0 hct hct0 (by omega) (by decide) (by decide))) w_833 w_834 w_0 w_835 (by decide +kernel) rfl rfl ⟨Nat.le_of_ble_eq_true rfl, Nat.le_of_ble_eq_true rfl⟩ rfl rfl (Nat.le_of_ble_eq_true rfl) dL_act_184 ⟨Nat.le_of_ble_eq_true rfl, Nat.le_of_ble_eq_true rfl⟩ (fun r_15 M_15 hP_15 H locs n_15 hM => ?_)
              obtain ⟨rfl, rfl⟩ := hP_15
              refine lv_iload hx hb dL_act_187 (lv_at hl 1 rfl) ?_
              refine lv_iconst (v := 3) hx hb dL_act_189 (by decide) ?_
              refine lv_iadd hx hb dL_act_190 ?_
              refine me_evi (y := g (89 + 11 * (v_1 % B) + 2) + nI 3) rfl ?_
              refine lv_icmp_ne (tgt := 198) hx hb dL_act_191 (by decide) (fun c_19 => ?_) (fun c_19 => ?_)
              · exact absurd rfl c_19
              · refine lv_iconst (v := 1) hx hb dL_act_194 (by decide) ?_
                refine lv_goto (tgt := 253) hx hb dL_act_195 (by decide) ?_
                refine W.widen (k := 8) (n := 60) (by omega) (by omega) ?_
                exact me_pret hC hr hlk hM (⟨_, _, _, _, _, rfl, Or.inr (Or.inr (Or.inr (Or.inr (Or.inr (Or.inl (⟨v_1 % B, 3, by omega, by decide, by decide, rfl, rfl, rfl, rfl⟩)))))), rfl⟩) (rfl) dL_act_253
      · refine me_evi (y := 2) c_3 ?_
        refine lv_tableIn (tgt := 120) hx hb dL_act_79 (by decide) (by decide) (off := 41) (by decide) (by decide) ?_
        refine lv_iconst (v := 1) hx hb dL_act_120 (by decide) ?_
        refine lv_aload_n hx hb dL_act_121 rfl (lv_at hl 7 rfl) ?_
        refine me_callSp (As := [.ref ra]) (rest := [.int 1]) hC hl.1 hM (c_L_next l D tb X z0 n_5 ra f_5 (sp tb (bo + 722) g (bq tb bo G F sf inp out (me_up M0 ra (.inl (tb 0, 1, .inl f_5))))) (bq_some hra (me_up_s _ _ _))) (ks_L_79 hw rfl rfl ⟨Nat.le_of_ble_eq_true rfl, Nat.le_of_ble_eq_true rfl⟩) rfl rfl (Nat.le_of_ble_eq_true rfl) dL_act_122 ⟨Nat.le_of_ble_eq_true rfl, Nat.le_of_ble_eq_true rfl⟩ (fun r_16 M_16 hP_16 H locs n_16 hM => ?_)
        obtain ⟨v_16, f_16, rfl, hv_16, rfl⟩ := hP_16
        have hM := hM.eq (bq_upo hra)
        refine lv_bipush (v := 6) hx hb dL_act_125 (by decide) ?_
        refine lv_irem hx hb dL_act_127 (by decide) ?_
        refine me_evi (y := nI (v_16 % 6)) (nx_rem 6 rfl (by omega) (by omega) (by omega)) ?_
        refine lv_iadd hx hb dL_act_128 ?_
        refine me_evi (y := nI (1 + (v_16 % 6))) (nx_add (show (1 : Int32) = nI 1 from rfl) rfl) ?_
        refine lv_istore (lv' := [(8, .int (nI (1 + (v_16 % 6)))), (7, .int (nI (T + (v_4 % 20)))), (6, .int (nI sv)), (5, .int (nI (v_3 % L))), (4, .int (nI (v_2 % S))), (3, .int (nI (v_1 % B))), (2, .int (nI L)), (0, .ref bo), (1, .ref ra)]) hx hb dL_act_129 hl (by decide) rfl (fun ls hl => ?_)
        refine lv_aload_n hx hb dL_act_131 rfl (lv_at hl 7 rfl) ?_
        refine lv_iload_n hx hb dL_act_132 rfl (lv_at hl 5 rfl) ?_
        refine lv_iload hx hb dL_act_133 (lv_at hl 1 rfl) ?_
        refine lv_iload hx hb dL_act_135 (lv_at hl 0 rfl) ?_
        refine me_callSnp (nA := 4) (As := [.ref bo, .int (nI (v_1 % B)), .int (nI (T + (v_4 % 20))), .int (nI (1 + (v_16 % 6)))]) (rest := []) hC hl.1 hM (c_L_refused (mc := 0) (ms := 0) l D tb X z0 n_16 bo (nI (v_1 % B)) (nI (T + (v_4 % 20))) (nI (1 + (v_16 % 6))) rfl rfl ⟨Nat.le_of_ble_eq_true rfl, Nat.le_of_ble_eq_true rfl⟩ (bq_at h_b) (c_X7_refusal l D tb X z0 n_16 bo g G F sf inp out (me_up M0 ra (.inl (tb 0, 1, .inl f_16))) S B L P T (v_1 % B) (T + (v_4 % 20)) (1 + (v_16 % 6)) hW hT hT0 (by omega) (by omega) (by omega) (by omega) (by omega))) w_1239 w_1240 w_0 w_1241 (by decide +kernel) rfl rfl ⟨Nat.le_of_ble_eq_true rfl, Nat.le_of_ble_eq_true rfl⟩ rfl rfl (Nat.le_of_ble_eq_true rfl) dL_act_137 ⟨Nat.le_of_ble_eq_true rfl, Nat.le_of_ble_eq_true rfl⟩ (fun r_17 M_17 hP_17 H locs n_17 hM => ?_)
        obtain ⟨rfl, rfl⟩ := hP_17
        refine lv_istore (lv' := [(9, .int (reF g L P (v_1 % B) (T + (v_4 % 20)) (1 + (v_16 % 6)))), (8, .int (nI (1 + (v_16 % 6)))), (7, .int (nI (T + (v_4 % 20)))), (6, .int (nI sv)), (5, .int (nI (v_3 % L))), (4, .int (nI (v_2 % S))), (3, .int (nI (v_1 % B))), (2, .int (nI L)), (0, .ref bo), (1, .ref ra)]) hx hb dL_act_140 hl (by decide) rfl (fun ls hl => ?_)
        refine lv_aload_n hx hb dL_act_142 rfl (lv_at hl 8 rfl) ?_
        refine lv_iload_n hx hb dL_act_143 rfl (lv_at hl 6 rfl) ?_
        refine lv_iload hx hb dL_act_144 (lv_at hl 1 rfl) ?_
        refine me_callVi (As := [.int (nI (v_1 % B)), .int (nI (1 + (v_16 % 6)))]) (rest := []) hC hl.1 hM (c_X7_quote l D tb X z0 n_17 bo g G F sf inp out (me_up M0 ra (.inl (tb 0, 1, .inl f_16))) S B L P (v_1 % B) (1 + (v_16 % 6)) hW (by omega) (by omega) (by omega)) (kv_L_179 hw rfl rfl ⟨Nat.le_of_ble_eq_true rfl, Nat.le_of_ble_eq_true rfl⟩) rfl rfl (bq_at h_b) rfl (Nat.le_of_ble_eq_true rfl) dL_act_146 ⟨Nat.le_of_ble_eq_true rfl, Nat.le_of_ble_eq_true rfl⟩ (fun H locs hM => ?_)
        refine lv_istore (lv' := [(10, .int (prF g (v_1 % B) (nI (1 + (v_16 % 6))))), (9, .int (reF g L P (v_1 % B) (T + (v_4 % 20)) (1 + (v_16 % 6)))), (8, .int (nI (1 + (v_16 % 6)))), (7, .int (nI (T + (v_4 % 20)))), (6, .int (nI sv)), (5, .int (nI (v_3 % L))), (4, .int (nI (v_2 % S))), (3, .int (nI (v_1 % B))), (2, .int (nI L)), (0, .ref bo), (1, .ref ra)]) hx hb dL_act_149 hl (by decide) rfl (fun ls hl => ?_)
        refine lv_aload_n hx hb dL_act_151 rfl (lv_at hl 9 rfl) ?_
        refine lv_iload_n hx hb dL_act_152 rfl (lv_at hl 7 rfl) ?_
        refine me_callVi (As := [.int (nI (v_1 % B))]) (rest := []) hC hl.1 hM (c_X7_creditOf l D tb X z0 n_17 bo g G F sf inp out (me_up M0 ra (.inl (tb 0, 1, .inl f_16))) S B L P (v_1 % B) hW (by omega)) (kv_L_134 hw rfl rfl ⟨Nat.le_of_ble_eq_true rfl, Nat.le_of_ble_eq_true rfl⟩) rfl rfl (bq_at h_b) rfl (Nat.le_of_ble_eq_true rfl) dL_act_153 ⟨Nat.le_of_ble_eq_true rfl, Nat.le_of_ble_eq_true rfl⟩ (fun H locs hM => ?_)
        refine lv_istore (lv' := [(11, .int (g (89 + 11 * (v_1 % B) + 2))), (10, .int (prF g (v_1 % B) (nI (1 + (v_16 % 6))))), (9, .int (reF g L P (v_1 % B) (T + (v_4 % 20)) (1 + (v_16 % 6)))), (8, .int (nI (1 + (v_16 % 6)))), (7, .int (nI (T + (v_4 % 20)))), (6, .int (nI sv)), (5, .int (nI (v_3 % L))), (4, .int (nI (v_2 % S))), (3, .int (nI (v_1 % B))), (2, .int (nI L)), (0, .ref bo), (1, .ref ra)]) hx hb dL_act_156 hl (by decide) rfl (fun ls hl => ?_)
        have hem := Classical.em (reF g L P (v_1 % B) (T + (v_4 % 20)) (1 + (v_16 % 6)) = 0)
        have a1_ := a1 (v_1 % B) (T + (v_4 % 20)) (1 + (v_16 % 6)) (by omega) (by omega) (by omega) (by omega) (by omega)
        rcases hem with hre | hre
        · skip
          refine lv_aload_n hx hb dL_act_158 rfl (lv_at hl 10 rfl) ?_
          refine lv_iload_n hx hb dL_act_159 rfl (lv_at hl 8 rfl) ?_
          refine lv_iload hx hb dL_act_160 (lv_at hl 4 rfl) ?_
          refine lv_iload hx hb dL_act_162 (lv_at hl 3 rfl) ?_
          refine me_callSnp (nA := 4) (As := [.ref bo, .int (nI (v_1 % B)), .int (nI (T + (v_4 % 20))), .int (nI (1 + (v_16 % 6)))]) (rest := []) hC hl.1 hM (c_L_lent (mc := 0) (ms := 0) l D tb X z0 n_17 bo (nI (v_1 % B)) (nI (T + (v_4 % 20))) (nI (1 + (v_16 % 6))) rfl rfl ⟨Nat.le_of_ble_eq_true rfl, Nat.le_of_ble_eq_true rfl⟩ (bq_at h_b) (c_X7_lend l D tb X z0 n_17 bo g G F sf inp out (me_up M0 ra (.inl (tb 0, 1, .inl f_16))) S B L P T nx ct (v_1 % B) (T + (v_4 % 20)) (1 + (v_16 % 6)) hW hT hT0 hnx hnx0 hct hct0 (by omega) (by omega) (by omega) (by omega) (by omega) hre)) w_756 w_757 w_0 w_758 (by decide +kernel) rfl rfl ⟨Nat.le_of_ble_eq_true rfl, Nat.le_of_ble_eq_true rfl⟩ rfl rfl (Nat.le_of_ble_eq_true rfl) dL_act_164 ⟨Nat.le_of_ble_eq_true rfl, Nat.le_of_ble_eq_true rfl⟩ (fun r_18 M_18 hP_18 H locs n_18 hM => ?_)
          obtain ⟨rfl, rfl⟩ := hP_18
          have hL30 := reF_L hW hre
          have hW2 := wf_ad (s := (T + (v_4 % 20))) (n := (1 + (v_16 % 6))) hW (show v_1 % B < B by omega) hL30
          have hT2 := (a0 (v_1 % B) (T + (v_4 % 20)) (1 + (v_16 % 6)) (by omega) (by omega)).trans hT
          refine lv_istore (lv' := [(12, .int (nI L)), (11, .int (g (89 + 11 * (v_1 % B) + 2))), (10, .int (prF g (v_1 % B) (nI (1 + (v_16 % 6))))), (9, .int (reF g L P (v_1 % B) (T + (v_4 % 20)) (1 + (v_16 % 6)))), (8, .int (nI (1 + (v_16 % 6)))), (7, .int (nI (T + (v_4 % 20)))), (6, .int (nI sv)), (5, .int (nI (v_3 % L))), (4, .int (nI (v_2 % S))), (3, .int (nI (v_1 % B))), (2, .int (nI L)), (0, .ref bo), (1, .ref ra)]) hx hb dL_act_167 hl (by decide) rfl (fun ls hl => ?_)
          refine lv_iload hx hb dL_act_169 (lv_at hl 3 rfl) ?_
          refine me_evi (y := 0) hre ?_
          refine lv_if_eq (tgt := 202) hx hb dL_act_171 (by decide) (fun c_20 => ?_) (fun c_20 => ?_)
          · refine lv_iload hx hb dL_act_202 (lv_at hl 0 rfl) ?_
            refine lv_iload_n hx hb dL_act_204 rfl (lv_at hl 10 rfl) ?_
            refine lv_icmp_ne (tgt := 252) hx hb dL_act_205 (by decide) (fun c_21 => ?_) (fun c_21 => ?_)
            · exact absurd rfl c_21
            · refine lv_aload_n hx hb dL_act_208 rfl (lv_at hl 11 rfl) ?_
              refine lv_iload_n hx hb dL_act_209 rfl (lv_at hl 9 rfl) ?_
              refine me_callVi (As := [.int (nI (v_1 % B))]) (rest := []) hC hl.1 hM (c_X7_creditOf l D tb X z0 n_18 bo (adF g L (v_1 % B) (T + (v_4 % 20)) (1 + (v_16 % 6))) (recG G g S B L P nx) (recF F nx ct) sf inp out (me_up M0 ra (.inl (tb 0, 1, .inl f_16))) S B (L + 1) P (v_1 % B) hW2 (by omega)) (kv_L_134 hw rfl rfl ⟨Nat.le_of_ble_eq_true rfl, Nat.le_of_ble_eq_true rfl⟩) rfl rfl (bq_at h_b) rfl (Nat.le_of_ble_eq_true rfl) dL_act_210 ⟨Nat.le_of_ble_eq_true rfl, Nat.le_of_ble_eq_true rfl⟩ (fun H locs hM => ?_)
              refine me_evi (y := g (89 + 11 * (v_1 % B) + 2) - prF g (v_1 % B) (nI (1 + (v_16 % 6)))) (a1_ hre).1 ?_
              refine lv_iload hx hb dL_act_213 (lv_at hl 1 rfl) ?_
              refine lv_iload hx hb dL_act_215 (lv_at hl 2 rfl) ?_
              refine lv_isub hx hb dL_act_217 ?_
              refine me_evi (y := g (89 + 11 * (v_1 % B) + 2) - prF g (v_1 % B) (nI (1 + (v_16 % 6)))) rfl ?_
              refine lv_icmp_ne (tgt := 252) hx hb dL_act_218 (by decide) (fun c_22 => ?_) (fun c_22 => ?_)
              · exact absurd rfl c_22
              · refine lv_aload_n hx hb dL_act_221 rfl (lv_at hl 11 rfl) ?_
                refine lv_iload hx hb dL_act_222 (lv_at hl 5 rfl) ?_
                refine me_callVi (As := [.int (nI (T + (v_4 % 20)))]) (rest := []) hC hl.1 hM (c_X7_holderOf l D tb X z0 n_18 bo (adF g L (v_1 % B) (T + (v_4 % 20)) (1 + (v_16 % 6))) (recG G g S B L P nx) (recF F nx ct) sf inp out (me_up M0 ra (.inl (tb 0, 1, .inl f_16))) S B (L + 1) P T (T + (v_4 % 20)) hW2 hT2 hT0 (by omega) (by omega)) (kv_L_165 hw rfl rfl ⟨Nat.le_of_ble_eq_true rfl, Nat.le_of_ble_eq_true rfl⟩) rfl rfl (bq_at h_b) rfl (Nat.le_of_ble_eq_true rfl) dL_act_224 ⟨Nat.le_of_ble_eq_true rfl, Nat.le_of_ble_eq_true rfl⟩ (fun H locs hM => ?_)
                refine me_evi (y := nI L) ((a1_ hre).2 _ (by omega) (by omega)) ?_
                refine lv_iload hx hb dL_act_227 (lv_at hl 0 rfl) ?_
                refine lv_icmp_ne (tgt := 252) hx hb dL_act_229 (by decide) (fun c_23 => ?_) (fun c_23 => ?_)
                · exact absurd rfl c_23
                · refine lv_aload_n hx hb dL_act_232 rfl (lv_at hl 11 rfl) ?_
                  refine lv_iload hx hb dL_act_233 (lv_at hl 5 rfl) ?_
                  refine lv_iload hx hb dL_act_235 (lv_at hl 4 rfl) ?_
                  refine lv_iadd hx hb dL_act_237 ?_
                  refine lv_iconst (v := 1) hx hb dL_act_238 (by decide) ?_
                  refine lv_isub hx hb dL_act_239 ?_
                  refine me_evi (y := nI (T + (v_4 % 20) + (1 + (v_16 % 6)) - 1)) (nx_sub (nx_add rfl rfl) (show (1 : Int32) = nI 1 from rfl) (by omega)) ?_
                  refine me_callVi (As := [.int (nI (T + (v_4 % 20) + (1 + (v_16 % 6)) - 1))]) (rest := []) hC hl.1 hM (c_X7_holderOf l D tb X z0 n_18 bo (adF g L (v_1 % B) (T + (v_4 % 20)) (1 + (v_16 % 6))) (recG G g S B L P nx) (recF F nx ct) sf inp out (me_up M0 ra (.inl (tb 0, 1, .inl f_16))) S B (L + 1) P T (T + (v_4 % 20) + (1 + (v_16 % 6)) - 1) hW2 hT2 hT0 (by omega) (by omega)) (kv_L_165 hw rfl rfl ⟨Nat.le_of_ble_eq_true rfl, Nat.le_of_ble_eq_true rfl⟩) rfl rfl (bq_at h_b) rfl (Nat.le_of_ble_eq_true rfl) dL_act_240 ⟨Nat.le_of_ble_eq_true rfl, Nat.le_of_ble_eq_true rfl⟩ (fun H locs hM => ?_)
                  refine me_evi (y := nI L) ((a1_ hre).2 _ (by omega) (by omega)) ?_
                  refine lv_iload hx hb dL_act_243 (lv_at hl 0 rfl) ?_
                  refine lv_icmp_ne (tgt := 252) hx hb dL_act_245 (by decide) (fun c_24 => ?_) (fun c_24 => ?_)
                  · exact absurd rfl c_24
                  · refine lv_iconst (v := 1) hx hb dL_act_248 (by decide) ?_
                    refine lv_goto (tgt := 253) hx hb dL_act_249 (by decide) ?_
                    refine W.widen (k := 8) (n := 60) (by omega) (by omega) ?_
                    exact me_pret hC hr hlk hM (⟨_, _, _, _, _, rfl, Or.inl (⟨_, _, _, by omega, by omega, by omega, by omega, by omega, hre, rfl, rfl, rfl, rfl⟩), rfl⟩) (rfl) dL_act_253
          · exact absurd c_20 (by decide)
        · skip
          refine lv_aload_n hx hb dL_act_158 rfl (lv_at hl 10 rfl) ?_
          refine lv_iload_n hx hb dL_act_159 rfl (lv_at hl 8 rfl) ?_
          refine lv_iload hx hb dL_act_160 (lv_at hl 4 rfl) ?_
          refine lv_iload hx hb dL_act_162 (lv_at hl 3 rfl) ?_
          refine me_callSnp (nA := 4) (As := [.ref bo, .int (nI (v_1 % B)), .int (nI (T + (v_4 % 20))), .int (nI (1 + (v_16 % 6)))]) (rest := []) hC hl.1 hM (c_L_lent_x3 (mc := 1) (ms := 6) l D tb X z0 n_17 bo (nI (v_1 % B)) (nI (T + (v_4 % 20))) (nI (1 + (v_16 % 6))) hCE rfl rfl ⟨Nat.le_of_ble_eq_true rfl, Nat.le_of_ble_eq_true rfl⟩ (bq_at h_b) (c_X7_lend_x4 l D tb X z0 n_17 bo g G F sf inp out (me_up M0 ra (.inl (tb 0, 1, .inl f_16))) S B L P T (v_1 % B) (T + (v_4 % 20)) (1 + (v_16 % 6)) hfl hXs hW hT hT0 (by omega) (by omega) (by omega) (by omega) (by omega) hre)) w_756 w_757 w_0 w_758 (by decide +kernel) rfl rfl ⟨Nat.le_of_ble_eq_true rfl, Nat.le_of_ble_eq_true rfl⟩ rfl rfl (Nat.le_of_ble_eq_true rfl) dL_act_164 ⟨Nat.le_of_ble_eq_true rfl, Nat.le_of_ble_eq_true rfl⟩ (fun r_19 M_19 hP_19 H locs n_19 hM => ?_)
          obtain ⟨rfl, rfl⟩ := hP_19
          refine lv_istore (lv' := [(12, .int (-3)), (11, .int (g (89 + 11 * (v_1 % B) + 2))), (10, .int (prF g (v_1 % B) (nI (1 + (v_16 % 6))))), (9, .int (reF g L P (v_1 % B) (T + (v_4 % 20)) (1 + (v_16 % 6)))), (8, .int (nI (1 + (v_16 % 6)))), (7, .int (nI (T + (v_4 % 20)))), (6, .int (nI sv)), (5, .int (nI (v_3 % L))), (4, .int (nI (v_2 % S))), (3, .int (nI (v_1 % B))), (2, .int (nI L)), (0, .ref bo), (1, .ref ra)]) hx hb dL_act_167 hl (by decide) rfl (fun ls hl => ?_)
          refine lv_iload hx hb dL_act_169 (lv_at hl 3 rfl) ?_
          refine lv_if_eq (tgt := 202) hx hb dL_act_171 (by decide) (fun c_25 => ?_) (fun c_25 => ?_)
          · exact absurd c_25 hre
          · refine lv_iload hx hb dL_act_174 (lv_at hl 0 rfl) ?_
            refine lv_bipush (v := (-3)) hx hb dL_act_176 (by decide) ?_
            refine lv_icmp_ne (tgt := 198) hx hb dL_act_178 (by decide) (fun c_26 => ?_) (fun c_26 => ?_)
            · exact absurd c_26 (by decide)
            · refine lv_aload_n hx hb dL_act_181 rfl (lv_at hl 11 rfl) ?_
              refine lv_iload_n hx hb dL_act_182 rfl (lv_at hl 9 rfl) ?_
              refine lv_iconst (v := 3) hx hb dL_act_183 (by decide) ?_
              refine me_callSnp (nA := 3) (As := [.ref bo, .int (nI (v_1 % B)), .int 3]) (rest := []) hC hl.1 hM (c_L_paid (mc := 0) (ms := 0) l D tb X z0 n_19 bo (nI (v_1 % B)) 3 rfl rfl ⟨Nat.le_of_ble_eq_true rfl, Nat.le_of_ble_eq_true rfl⟩ (bq_at h_b) (c_X7_pay l D tb X z0 n_19 bo g G F sf inp out (me_up M0 ra (.inl (tb 0, 1, .inl f_16))) S B L P nx ct (v_1 % B) 3 hW hnx hnx0 hct hct0 (by omega) (by decide) (by decide))) w_833 w_834 w_0 w_835 (by decide +kernel) rfl rfl ⟨Nat.le_of_ble_eq_true rfl, Nat.le_of_ble_eq_true rfl⟩ rfl rfl (Nat.le_of_ble_eq_true rfl) dL_act_184 ⟨Nat.le_of_ble_eq_true rfl, Nat.le_of_ble_eq_true rfl⟩ (fun r_20 M_20 hP_20 H locs n_20 hM => ?_)
              obtain ⟨rfl, rfl⟩ := hP_20
              refine lv_iload hx hb dL_act_187 (lv_at hl 1 rfl) ?_
              refine lv_iconst (v := 3) hx hb dL_act_189 (by decide) ?_
              refine lv_iadd hx hb dL_act_190 ?_
              refine me_evi (y := g (89 + 11 * (v_1 % B) + 2) + nI 3) rfl ?_
              refine lv_icmp_ne (tgt := 198) hx hb dL_act_191 (by decide) (fun c_27 => ?_) (fun c_27 => ?_)
              · exact absurd rfl c_27
              · refine lv_iconst (v := 1) hx hb dL_act_194 (by decide) ?_
                refine lv_goto (tgt := 253) hx hb dL_act_195 (by decide) ?_
                refine W.widen (k := 8) (n := 60) (by omega) (by omega) ?_
                exact me_pret hC hr hlk hM (⟨_, _, _, _, _, rfl, Or.inr (Or.inr (Or.inr (Or.inr (Or.inr (Or.inl (⟨v_1 % B, 3, by omega, by decide, by decide, rfl, rfl, rfl, rfl⟩)))))), rfl⟩) (rfl) dL_act_253
      · refine me_evi (y := 3) c_3 ?_
        refine lv_tableIn (tgt := 254) hx hb dL_act_79 (by decide) (by decide) (off := 175) (by decide) (by decide) ?_
        refine lv_iload hx hb dL_act_254 (lv_at hl 1 rfl) ?_
        refine lv_if_ne (tgt := 279) hx hb dL_act_256 (by decide) (fun c_28 => ?_) (fun c_28 => ?_)
        · have c_28 := (not_congr (br_eq rfl (show (0 : Int32) = nI 0 from rfl) (by omega) (by omega))).mp c_28
          refine lv_iconst (v := 0) hx hb dL_act_279 (by decide) ?_
          refine lv_istore (lv' := [(13, .int 0), (7, .int (nI (T + (v_4 % 20)))), (6, .int (nI sv)), (5, .int (nI (v_3 % L))), (4, .int (nI (v_2 % S))), (3, .int (nI (v_1 % B))), (2, .int (nI L)), (0, .ref bo), (1, .ref ra)]) hx hb dL_act_280 hl (by decide) rfl (fun ls hl => ?_)
          have hst0 : ¬ g (261 + 5 * (v_3 % L) + 4) = 0 := fun z => c_28 ((nI_eq (b := 0) (by omega) (by omega)).mp (est.symm.trans z))
          refine lv_aload_n hx hb dL_act_282 rfl (lv_at hl 7 rfl) ?_
          refine lv_iload hx hb dL_act_283 (lv_at hl 3 rfl) ?_
          refine me_callSnp (nA := 2) (As := [.ref bo, .int (nI (v_3 % L))]) (rest := []) hC hl.1 hM (c_L_cancelled_x2 (mc := 1) (ms := 6) l D tb X z0 n_5 bo (nI (v_3 % L)) hCE rfl rfl ⟨Nat.le_of_ble_eq_true rfl, Nat.le_of_ble_eq_true rfl⟩ (bq_at h_b) (c_X7_cancel_x2 l D tb X z0 n_5 bo g G F sf inp out (me_up M0 ra (.inl (tb 0, 1, .inl f_5))) S B L P (v_3 % L) hfl hXs hW (by omega) hst0)) w_779 w_780 w_0 w_781 (by decide +kernel) rfl rfl ⟨Nat.le_of_ble_eq_true rfl, Nat.le_of_ble_eq_true rfl⟩ rfl rfl (Nat.le_of_ble_eq_true rfl) dL_act_285 ⟨Nat.le_of_ble_eq_true rfl, Nat.le_of_ble_eq_true rfl⟩ (fun r_21 M_21 hP_21 H locs n_21 hM => ?_)
          obtain ⟨rfl, rfl⟩ := hP_21
          refine lv_istore (lv' := [(14, .int (-99993)), (13, .int 0), (7, .int (nI (T + (v_4 % 20)))), (6, .int (nI sv)), (5, .int (nI (v_3 % L))), (4, .int (nI (v_2 % S))), (3, .int (nI (v_1 % B))), (2, .int (nI L)), (0, .ref bo), (1, .ref ra)]) hx hb dL_act_288 hl (by decide) rfl (fun ls hl => ?_)
          refine lv_iload hx hb dL_act_290 (lv_at hl 3 rfl) ?_
          refine lv_if_ne (tgt := 320) hx hb dL_act_292 (by decide) (fun c_29 => ?_) (fun c_29 => ?_)
          · have c_29 := (not_congr (br_eq rfl (show (0 : Int32) = nI 0 from rfl) (by omega) (by omega))).mp c_29
            refine lv_iload hx hb dL_act_320 (lv_at hl 0 rfl) ?_
            refine lv_ldc (v := (-99990)) hx hb hC.2.2.2.1 (hw _ w_1274) dL_act_322 ?_
            refine lv_icmp_ge (tgt := 343) hx hb dL_act_324 (by decide) (fun c_30 => ?_) (fun c_30 => ?_)
            · exact absurd c_30 (by decide)
            · have c_30q := c_30
              have c_30 := Int32.not_le.mp c_30
              refine lv_aload_n hx hb dL_act_327 rfl (lv_at hl 8 rfl) ?_
              refine lv_iload_n hx hb dL_act_328 rfl (lv_at hl 6 rfl) ?_
              refine lv_iconst (v := 1) hx hb dL_act_329 (by decide) ?_
              refine me_callSnp (nA := 3) (As := [.ref bo, .int (nI (v_1 % B)), .int 1]) (rest := []) hC hl.1 hM (c_L_paid (mc := 0) (ms := 0) l D tb X z0 n_21 bo (nI (v_1 % B)) 1 rfl rfl ⟨Nat.le_of_ble_eq_true rfl, Nat.le_of_ble_eq_true rfl⟩ (bq_at h_b) (c_X7_pay l D tb X z0 n_21 bo g G F sf inp out (me_up M0 ra (.inl (tb 0, 1, .inl f_5))) S B L P nx ct (v_1 % B) 1 hW hnx hnx0 hct hct0 (by omega) (by decide) (by decide))) w_833 w_834 w_0 w_835 (by decide +kernel) rfl rfl ⟨Nat.le_of_ble_eq_true rfl, Nat.le_of_ble_eq_true rfl⟩ rfl rfl (Nat.le_of_ble_eq_true rfl) dL_act_330 ⟨Nat.le_of_ble_eq_true rfl, Nat.le_of_ble_eq_true rfl⟩ (fun r_22 M_22 hP_22 H locs n_22 hM => ?_)
              obtain ⟨rfl, rfl⟩ := hP_22
              refine lv_sipush (v := (-9999)) hx hb dL_act_333 (by decide) ?_
              refine lv_icmp_le (tgt := 343) hx hb dL_act_336 (by decide) (fun c_31 => ?_) (fun c_31 => ?_)
              · have c_31q := c_31
                have c_31 := Int32.not_lt.mpr c_31
                exact absurd c_31q (a3 _ _ (by omega) (by decide))
              · have c_31q := c_31
                have c_31 := Int32.not_le.mp c_31
                refine lv_iconst (v := 1) hx hb dL_act_339 (by decide) ?_
                refine lv_goto (tgt := 344) hx hb dL_act_340 (by decide) ?_
                refine W.widen (k := 8) (n := 60) (by omega) (by omega) ?_
                exact me_pret hC hr hlk hM (⟨_, _, _, _, _, rfl, Or.inr (Or.inr (Or.inr (Or.inr (Or.inr (Or.inl (⟨v_1 % B, 1, by omega, by decide, by decide, rfl, rfl, rfl, rfl⟩)))))), rfl⟩) (rfl) dL_act_344
          · have c_29 := (br_eq rfl (show (0 : Int32) = nI 0 from rfl) (by omega) (by omega)).mp c_29
            exfalso; omega
        · have c_28 := (br_eq rfl (show (0 : Int32) = nI 0 from rfl) (by omega) (by omega)).mp c_28
          refine lv_aload_n hx hb dL_act_259 rfl (lv_at hl 6 rfl) ?_
          refine lv_aload_n hx hb dL_act_260 rfl (lv_at hl 6 rfl) ?_
          refine lv_iload hx hb dL_act_261 (lv_at hl 2 rfl) ?_
          refine me_callVi (As := [.int (nI (v_3 % L))]) (rest := [.ref bo]) hC hl.1 hM (c_X7_borrowerOf l D tb X z0 n_5 bo g G F sf inp out (me_up M0 ra (.inl (tb 0, 1, .inl f_5))) S B L P (v_3 % L) hW (by omega)) (kv_L_140 hw rfl rfl ⟨Nat.le_of_ble_eq_true rfl, Nat.le_of_ble_eq_true rfl⟩) rfl rfl (bq_at h_b) rfl (Nat.le_of_ble_eq_true rfl) dL_act_263 ⟨Nat.le_of_ble_eq_true rfl, Nat.le_of_ble_eq_true rfl⟩ (fun H locs hM => ?_)
          have hb_ := (hW.2.2.2.2.2.2.2.2.2 (v_3 % L) (by omega)).2
          refine me_evi (y := nI (ow g (v_3 % L))) (hW.2.2.2.2.2.2.2.2.2 (v_3 % L) (by omega)).1 ?_
          refine me_callVi (As := [.int (nI (ow g (v_3 % L)))]) (rest := []) hC hl.1 hM (c_X7_creditOf l D tb X z0 n_5 bo g G F sf inp out (me_up M0 ra (.inl (tb 0, 1, .inl f_5))) S B L P (ow g (v_3 % L)) hW (by omega)) (kv_L_134 hw rfl rfl ⟨Nat.le_of_ble_eq_true rfl, Nat.le_of_ble_eq_true rfl⟩) rfl rfl (bq_at h_b) rfl (Nat.le_of_ble_eq_true rfl) dL_act_266 ⟨Nat.le_of_ble_eq_true rfl, Nat.le_of_ble_eq_true rfl⟩ (fun H locs hM => ?_)
          refine lv_aload_n hx hb dL_act_269 rfl (lv_at hl 6 rfl) ?_
          refine lv_iload hx hb dL_act_270 (lv_at hl 2 rfl) ?_
          refine me_callVi (As := [.int (nI (v_3 % L))]) (rest := [.int (g (89 + 11 * (ow g (v_3 % L)) + 2))]) hC hl.1 hM (c_X7_priceOf l D tb X z0 n_5 bo g G F sf inp out (me_up M0 ra (.inl (tb 0, 1, .inl f_5))) S B L P (v_3 % L) hW (by omega)) (kv_L_149 hw rfl rfl ⟨Nat.le_of_ble_eq_true rfl, Nat.le_of_ble_eq_true rfl⟩) rfl rfl (bq_at h_b) rfl (Nat.le_of_ble_eq_true rfl) dL_act_272 ⟨Nat.le_of_ble_eq_true rfl, Nat.le_of_ble_eq_true rfl⟩ (fun H locs hM => ?_)
          refine lv_iadd hx hb dL_act_275 ?_
          refine lv_goto (tgt := 280) hx hb dL_act_276 (by decide) ?_
          refine lv_istore (lv' := [(13, .int ((g (89 + 11 * (ow g (v_3 % L)) + 2)) + (g (261 + 5 * (v_3 % L) + 3)))), (7, .int (nI (T + (v_4 % 20)))), (6, .int (nI sv)), (5, .int (nI (v_3 % L))), (4, .int (nI (v_2 % S))), (3, .int (nI (v_1 % B))), (2, .int (nI L)), (0, .ref bo), (1, .ref ra)]) hx hb dL_act_280 hl (by decide) rfl (fun ls hl => ?_)
          have hst0 : g (261 + 5 * (v_3 % L) + 4) = 0 := est.trans (congrArg nI c_28)
          refine lv_aload_n hx hb dL_act_282 rfl (lv_at hl 7 rfl) ?_
          refine lv_iload hx hb dL_act_283 (lv_at hl 3 rfl) ?_
          refine me_callSnp (nA := 2) (As := [.ref bo, .int (nI (v_3 % L))]) (rest := []) hC hl.1 hM (c_L_cancelled (mc := 0) (ms := 0) l D tb X z0 n_5 bo (nI (v_3 % L)) rfl rfl ⟨Nat.le_of_ble_eq_true rfl, Nat.le_of_ble_eq_true rfl⟩ (bq_at h_b) (c_X7_cancel l D tb X z0 n_5 bo g G F sf inp out (me_up M0 ra (.inl (tb 0, 1, .inl f_5))) S B L P nx ct (v_3 % L) hW hnx hnx0 hct hct0 (by omega) hst0)) w_779 w_780 w_0 w_781 (by decide +kernel) rfl rfl ⟨Nat.le_of_ble_eq_true rfl, Nat.le_of_ble_eq_true rfl⟩ rfl rfl (Nat.le_of_ble_eq_true rfl) dL_act_285 ⟨Nat.le_of_ble_eq_true rfl, Nat.le_of_ble_eq_true rfl⟩ (fun r_23 M_23 hP_23 H locs n_23 hM => ?_)
          obtain ⟨rfl, rfl⟩ := hP_23
          have hW2 := wf_ca (k := v_3 % L) hW (by omega)
          have hT2 : (caS (v_3 % L) g) 2 = nI T := by unfold caS; rw [upd_n (by omega), upd_n (by omega)]; exact hT
          refine lv_istore (lv' := [(14, .int ((caS (v_3 % L) g) (89 + 11 * (ow (caS (v_3 % L) g) (v_3 % L)) + 2))), (13, .int ((g (89 + 11 * (ow g (v_3 % L)) + 2)) + (g (261 + 5 * (v_3 % L) + 3)))), (7, .int (nI (T + (v_4 % 20)))), (6, .int (nI sv)), (5, .int (nI (v_3 % L))), (4, .int (nI (v_2 % S))), (3, .int (nI (v_1 % B))), (2, .int (nI L)), (0, .ref bo), (1, .ref ra)]) hx hb dL_act_288 hl (by decide) rfl (fun ls hl => ?_)
          refine lv_iload hx hb dL_act_290 (lv_at hl 3 rfl) ?_
          refine lv_if_ne (tgt := 320) hx hb dL_act_292 (by decide) (fun c_32 => ?_) (fun c_32 => ?_)
          · have c_32 := (not_congr (br_eq rfl (show (0 : Int32) = nI 0 from rfl) (by omega) (by omega))).mp c_32
            exfalso; omega
          · have c_32 := (br_eq rfl (show (0 : Int32) = nI 0 from rfl) (by omega) (by omega)).mp c_32
            refine lv_iload hx hb dL_act_295 (lv_at hl 0 rfl) ?_
            refine lv_iload hx hb dL_act_297 (lv_at hl 1 rfl) ?_
            refine me_stk (st2 := [.int ((g (89 + 11 * (ow g (v_3 % L)) + 2)) + (g (261 + 5 * (v_3 % L) + 3))), .int ((g (89 + 11 * (ow g (v_3 % L)) + 2)) + (g (261 + 5 * (v_3 % L) + 3)))]) (by rw [ca_cr (g := g) (k := (v_3 % L)) (by omega)]) ?_
            refine lv_icmp_ne (tgt := 316) hx hb dL_act_299 (by decide) (fun c_33 => ?_) (fun c_33 => ?_)
            · exact absurd rfl c_33
            · refine lv_aload_n hx hb dL_act_302 rfl (lv_at hl 8 rfl) ?_
              refine lv_iload hx hb dL_act_303 (lv_at hl 4 rfl) ?_
              refine me_callVi (As := [.int (nI (v_3 % L))]) (rest := []) hC hl.1 hM (c_X7_statusOf l D tb X z0 n_23 bo (caS (v_3 % L) g) (recG G g S B L P nx) (recF F nx ct) sf inp out (me_up M0 ra (.inl (tb 0, 1, .inl f_5))) S B L P (v_3 % L) hW2 (by omega)) (kv_L_152 hw rfl rfl ⟨Nat.le_of_ble_eq_true rfl, Nat.le_of_ble_eq_true rfl⟩) rfl rfl (bq_at h_b) rfl (Nat.le_of_ble_eq_true rfl) dL_act_305 ⟨Nat.le_of_ble_eq_true rfl, Nat.le_of_ble_eq_true rfl⟩ (fun H locs hM => ?_)
              refine me_evi (y := 5) (by unfold caS; rw [upd_n (by omega), upd_s]) ?_
              refine lv_iconst (v := 5) hx hb dL_act_308 (by decide) ?_
              refine lv_icmp_ne (tgt := 316) hx hb dL_act_309 (by decide) (fun c_34 => ?_) (fun c_34 => ?_)
              · exact absurd c_34 (by decide)
              · refine lv_iconst (v := 1) hx hb dL_act_312 (by decide) ?_
                refine lv_goto (tgt := 344) hx hb dL_act_313 (by decide) ?_
                refine W.widen (k := 8) (n := 60) (by omega) (by omega) ?_
                exact me_pret hC hr hlk hM (⟨_, _, _, _, _, rfl, Or.inr (Or.inl (⟨_, by omega, hst0, rfl, rfl, rfl, rfl⟩)), rfl⟩) (rfl) dL_act_344
      · refine me_evi (y := 4) c_3 ?_
        refine lv_tableIn (tgt := 345) hx hb dL_act_79 (by decide) (by decide) (off := 266) (by decide) (by decide) ?_
        refine lv_iload hx hb dL_act_345 (lv_at hl 1 rfl) ?_
        refine lv_if_ge (tgt := 354) hx hb dL_act_347 (by decide) (fun c_35 => ?_) (fun c_35 => ?_)
        · have c_35q := c_35
          have c_35 := Int32.not_lt.mpr c_35
          refine lv_aload_n hx hb dL_act_354 rfl (lv_at hl 6 rfl) ?_
          refine me_callVi (As := []) (rest := []) hC hl.1 hM (c_X7_clock l D tb X z0 n_5 bo g G F sf inp out (me_up M0 ra (.inl (tb 0, 1, .inl f_5))) S B L P  ) (kv_L_104 hw rfl rfl ⟨Nat.le_of_ble_eq_true rfl, Nat.le_of_ble_eq_true rfl⟩) rfl rfl (bq_at h_b) rfl (Nat.le_of_ble_eq_true rfl) dL_act_355 ⟨Nat.le_of_ble_eq_true rfl, Nat.le_of_ble_eq_true rfl⟩ (fun H locs hM => ?_)
          refine me_evi (y := nI T) hT ?_
          refine lv_aload_n hx hb dL_act_358 rfl (lv_at hl 6 rfl) ?_
          refine lv_iload hx hb dL_act_359 (lv_at hl 2 rfl) ?_
          refine me_callVi (As := [.int (nI (v_3 % L))]) (rest := [.int (nI T)]) hC hl.1 hM (c_X7_startOf l D tb X z0 n_5 bo g G F sf inp out (me_up M0 ra (.inl (tb 0, 1, .inl f_5))) S B L P (v_3 % L) hW (by omega)) (kv_L_143 hw rfl rfl ⟨Nat.le_of_ble_eq_true rfl, Nat.le_of_ble_eq_true rfl⟩) rfl rfl (bq_at h_b) rfl (Nat.le_of_ble_eq_true rfl) dL_act_361 ⟨Nat.le_of_ble_eq_true rfl, Nat.le_of_ble_eq_true rfl⟩ (fun H locs hM => ?_)
          refine lv_isub hx hb dL_act_364 ?_
          refine lv_aload_n hx hb dL_act_365 rfl (lv_at hl 6 rfl) ?_
          refine lv_iload hx hb dL_act_366 (lv_at hl 2 rfl) ?_
          refine me_callVi (As := [.int (nI (v_3 % L))]) (rest := [.int ((nI T) - (g (261 + 5 * (v_3 % L) + 1)))]) hC hl.1 hM (c_X7_lengthOf l D tb X z0 n_5 bo g G F sf inp out (me_up M0 ra (.inl (tb 0, 1, .inl f_5))) S B L P (v_3 % L) hW (by omega)) (kv_L_146 hw rfl rfl ⟨Nat.le_of_ble_eq_true rfl, Nat.le_of_ble_eq_true rfl⟩) rfl rfl (bq_at h_b) rfl (Nat.le_of_ble_eq_true rfl) dL_act_368 ⟨Nat.le_of_ble_eq_true rfl, Nat.le_of_ble_eq_true rfl⟩ (fun H locs hM => ?_)
          refine lv_isub hx hb dL_act_371 ?_
          refine lv_istore (lv' := [(15, .int (((nI T) - (g (261 + 5 * (v_3 % L) + 1))) - (g (261 + 5 * (v_3 % L) + 2)))), (7, .int (nI (T + (v_4 % 20)))), (6, .int (nI sv)), (5, .int (nI (v_3 % L))), (4, .int (nI (v_2 % S))), (3, .int (nI (v_1 % B))), (2, .int (nI L)), (0, .ref bo), (1, .ref ra)]) hx hb dL_act_372 hl (by decide) rfl (fun ls hl => ?_)
          have hem := Classical.em (g (261 + 5 * (v_3 % L) + 4) = 2 ∨ g (261 + 5 * (v_3 % L) + 4) = 4)
          rcases hem with hst24 | hst24
          · skip
            refine lv_aload_n hx hb dL_act_374 rfl (lv_at hl 7 rfl) ?_
            refine lv_iload hx hb dL_act_375 (lv_at hl 3 rfl) ?_
            refine me_callSnp (nA := 2) (As := [.ref bo, .int (nI (v_3 % L))]) (rest := []) hC hl.1 hM (c_L_whistled (mc := 0) (ms := 0) l D tb X z0 n_5 bo (nI (v_3 % L)) rfl rfl ⟨Nat.le_of_ble_eq_true rfl, Nat.le_of_ble_eq_true rfl⟩ (bq_at h_b) (c_X7_whistle l D tb X z0 n_5 bo g G F sf inp out (me_up M0 ra (.inl (tb 0, 1, .inl f_5))) S B L P nx ct (v_3 % L) hW hnx hnx0 hct hct0 (by omega) hst24)) w_795 w_796 w_0 w_797 (by decide +kernel) rfl rfl ⟨Nat.le_of_ble_eq_true rfl, Nat.le_of_ble_eq_true rfl⟩ rfl rfl (Nat.le_of_ble_eq_true rfl) dL_act_377 ⟨Nat.le_of_ble_eq_true rfl, Nat.le_of_ble_eq_true rfl⟩ (fun r_24 M_24 hP_24 H locs n_24 hM => ?_)
            obtain ⟨rfl, rfl⟩ := hP_24
            have hW2 := wf_ws (k := v_3 % L) hW (by omega)
            have hT2 : (wsG (v_3 % L) g) 2 = nI T := by unfold wsG; rw [upd_n (by omega)]; exact hT
            refine lv_istore (lv' := [(16, .int (g 2 - (g (261 + 5 * (v_3 % L) + 1) + g (261 + 5 * (v_3 % L) + 2)))), (15, .int (((nI T) - (g (261 + 5 * (v_3 % L) + 1))) - (g (261 + 5 * (v_3 % L) + 2)))), (7, .int (nI (T + (v_4 % 20)))), (6, .int (nI sv)), (5, .int (nI (v_3 % L))), (4, .int (nI (v_2 % S))), (3, .int (nI (v_1 % B))), (2, .int (nI L)), (0, .ref bo), (1, .ref ra)]) hx hb dL_act_380 hl (by decide) rfl (fun ls hl => ?_)
            refine lv_iload hx hb dL_act_382 (lv_at hl 3 rfl) ?_
            refine lv_iconst (v := 2) hx hb dL_act_384 (by decide) ?_
            refine lv_icmp_eq (tgt := 394) hx hb dL_act_385 (by decide) (fun c_36 => ?_) (fun c_36 => ?_)
            · have c_36 := (br_eq rfl (nx_c 2) (by omega) (by omega)).mp c_36
              refine lv_iload hx hb dL_act_394 (lv_at hl 0 rfl) ?_
              refine lv_iload hx hb dL_act_396 (lv_at hl 1 rfl) ?_
              refine me_evi (y := g 2 - (g (261 + 5 * (v_3 % L) + 1) + g (261 + 5 * (v_3 % L) + 2))) (by rw [hT]; exact Int32.sub_sub _ _ _) ?_
              refine lv_icmp_ne (tgt := 415) hx hb dL_act_398 (by decide) (fun c_37 => ?_) (fun c_37 => ?_)
              · exact absurd rfl c_37
              · refine lv_aload_n hx hb dL_act_401 rfl (lv_at hl 8 rfl) ?_
                refine lv_iload hx hb dL_act_402 (lv_at hl 4 rfl) ?_
                refine me_callVi (As := [.int (nI (v_3 % L))]) (rest := []) hC hl.1 hM (c_X7_statusOf l D tb X z0 n_24 bo (wsG (v_3 % L) g) (recG G g S B L P nx) (recF F nx ct) sf inp out (me_up M0 ra (.inl (tb 0, 1, .inl f_5))) S B L P (v_3 % L) hW2 (by omega)) (kv_L_152 hw rfl rfl ⟨Nat.le_of_ble_eq_true rfl, Nat.le_of_ble_eq_true rfl⟩) rfl rfl (bq_at h_b) rfl (Nat.le_of_ble_eq_true rfl) dL_act_404 ⟨Nat.le_of_ble_eq_true rfl, Nat.le_of_ble_eq_true rfl⟩ (fun H locs hM => ?_)
                refine me_evi (y := 3) (by unfold wsG; rw [upd_s]) ?_
                refine lv_iconst (v := 3) hx hb dL_act_407 (by decide) ?_
                refine lv_icmp_ne (tgt := 415) hx hb dL_act_408 (by decide) (fun c_38 => ?_) (fun c_38 => ?_)
                · exact absurd c_38 (by decide)
                · refine lv_iconst (v := 1) hx hb dL_act_411 (by decide) ?_
                  refine lv_goto (tgt := 443) hx hb dL_act_412 (by decide) ?_
                  refine W.widen (k := 8) (n := 60) (by omega) (by omega) ?_
                  exact me_pret hC hr hlk hM (⟨_, _, _, _, _, rfl, Or.inr (Or.inr (Or.inl (⟨_, by omega, hst24, rfl, rfl, rfl, rfl⟩))), rfl⟩) (rfl) dL_act_443
            · have c_36 := (not_congr (br_eq rfl (nx_c 2) (by omega) (by omega))).mp c_36
              refine lv_iload hx hb dL_act_388 (lv_at hl 3 rfl) ?_
              refine lv_iconst (v := 4) hx hb dL_act_390 (by decide) ?_
              refine lv_icmp_ne (tgt := 419) hx hb dL_act_391 (by decide) (fun c_39 => ?_) (fun c_39 => ?_)
              · have c_39 := (not_congr (br_eq rfl (nx_c 4) (by omega) (by omega))).mp c_39
                exact absurd hst24 (fun z => z.elim (fun z => c_36 ((nI_eq (b := 2) (by omega) (by omega)).mp (est.symm.trans z))) (fun z => c_39 ((nI_eq (b := 4) (by omega) (by omega)).mp (est.symm.trans z))))
              · have c_39 := (br_eq rfl (nx_c 4) (by omega) (by omega)).mp c_39
                refine lv_iload hx hb dL_act_394 (lv_at hl 0 rfl) ?_
                refine lv_iload hx hb dL_act_396 (lv_at hl 1 rfl) ?_
                refine me_evi (y := g 2 - (g (261 + 5 * (v_3 % L) + 1) + g (261 + 5 * (v_3 % L) + 2))) (by rw [hT]; exact Int32.sub_sub _ _ _) ?_
                refine lv_icmp_ne (tgt := 415) hx hb dL_act_398 (by decide) (fun c_40 => ?_) (fun c_40 => ?_)
                · exact absurd rfl c_40
                · refine lv_aload_n hx hb dL_act_401 rfl (lv_at hl 8 rfl) ?_
                  refine lv_iload hx hb dL_act_402 (lv_at hl 4 rfl) ?_
                  refine me_callVi (As := [.int (nI (v_3 % L))]) (rest := []) hC hl.1 hM (c_X7_statusOf l D tb X z0 n_24 bo (wsG (v_3 % L) g) (recG G g S B L P nx) (recF F nx ct) sf inp out (me_up M0 ra (.inl (tb 0, 1, .inl f_5))) S B L P (v_3 % L) hW2 (by omega)) (kv_L_152 hw rfl rfl ⟨Nat.le_of_ble_eq_true rfl, Nat.le_of_ble_eq_true rfl⟩) rfl rfl (bq_at h_b) rfl (Nat.le_of_ble_eq_true rfl) dL_act_404 ⟨Nat.le_of_ble_eq_true rfl, Nat.le_of_ble_eq_true rfl⟩ (fun H locs hM => ?_)
                  refine me_evi (y := 3) (by unfold wsG; rw [upd_s]) ?_
                  refine lv_iconst (v := 3) hx hb dL_act_407 (by decide) ?_
                  refine lv_icmp_ne (tgt := 415) hx hb dL_act_408 (by decide) (fun c_41 => ?_) (fun c_41 => ?_)
                  · exact absurd c_41 (by decide)
                  · refine lv_iconst (v := 1) hx hb dL_act_411 (by decide) ?_
                    refine lv_goto (tgt := 443) hx hb dL_act_412 (by decide) ?_
                    refine W.widen (k := 8) (n := 60) (by omega) (by omega) ?_
                    exact me_pret hC hr hlk hM (⟨_, _, _, _, _, rfl, Or.inr (Or.inr (Or.inl (⟨_, by omega, hst24, rfl, rfl, rfl, rfl⟩))), rfl⟩) (rfl) dL_act_443
          · skip
            refine lv_aload_n hx hb dL_act_374 rfl (lv_at hl 7 rfl) ?_
            refine lv_iload hx hb dL_act_375 (lv_at hl 3 rfl) ?_
            refine me_callSnp (nA := 2) (As := [.ref bo, .int (nI (v_3 % L))]) (rest := []) hC hl.1 hM (c_L_whistled_x2 (mc := 1) (ms := 6) l D tb X z0 n_5 bo (nI (v_3 % L)) hCE rfl rfl ⟨Nat.le_of_ble_eq_true rfl, Nat.le_of_ble_eq_true rfl⟩ (bq_at h_b) (c_X7_whistle_x2 l D tb X z0 n_5 bo g G F sf inp out (me_up M0 ra (.inl (tb 0, 1, .inl f_5))) S B L P (v_3 % L) hfl hXs hW (by omega) hst24)) w_795 w_796 w_0 w_797 (by decide +kernel) rfl rfl ⟨Nat.le_of_ble_eq_true rfl, Nat.le_of_ble_eq_true rfl⟩ rfl rfl (Nat.le_of_ble_eq_true rfl) dL_act_377 ⟨Nat.le_of_ble_eq_true rfl, Nat.le_of_ble_eq_true rfl⟩ (fun r_25 M_25 hP_25 H locs n_25 hM => ?_)
            obtain ⟨rfl, rfl⟩ := hP_25
            refine lv_istore (lv' := [(16, .int (-3)), (15, .int (((nI T) - (g (261 + 5 * (v_3 % L) + 1))) - (g (261 + 5 * (v_3 % L) + 2)))), (7, .int (nI (T + (v_4 % 20)))), (6, .int (nI sv)), (5, .int (nI (v_3 % L))), (4, .int (nI (v_2 % S))), (3, .int (nI (v_1 % B))), (2, .int (nI L)), (0, .ref bo), (1, .ref ra)]) hx hb dL_act_380 hl (by decide) rfl (fun ls hl => ?_)
            refine lv_iload hx hb dL_act_382 (lv_at hl 3 rfl) ?_
            refine lv_iconst (v := 2) hx hb dL_act_384 (by decide) ?_
            refine lv_icmp_eq (tgt := 394) hx hb dL_act_385 (by decide) (fun c_42 => ?_) (fun c_42 => ?_)
            · have c_42 := (br_eq rfl (nx_c 2) (by omega) (by omega)).mp c_42
              exact absurd (Or.inl (est.trans (congrArg nI c_42))) hst24
            · have c_42 := (not_congr (br_eq rfl (nx_c 2) (by omega) (by omega))).mp c_42
              refine lv_iload hx hb dL_act_388 (lv_at hl 3 rfl) ?_
              refine lv_iconst (v := 4) hx hb dL_act_390 (by decide) ?_
              refine lv_icmp_ne (tgt := 419) hx hb dL_act_391 (by decide) (fun c_43 => ?_) (fun c_43 => ?_)
              · have c_43 := (not_congr (br_eq rfl (nx_c 4) (by omega) (by omega))).mp c_43
                refine lv_iload hx hb dL_act_419 (lv_at hl 0 rfl) ?_
                refine lv_bipush (v := (-2)) hx hb dL_act_421 (by decide) ?_
                refine lv_icmp_ge (tgt := 442) hx hb dL_act_423 (by decide) (fun c_44 => ?_) (fun c_44 => ?_)
                · exact absurd c_44 (by decide)
                · have c_44q := c_44
                  have c_44 := Int32.not_le.mp c_44
                  refine lv_aload_n hx hb dL_act_426 rfl (lv_at hl 8 rfl) ?_
                  refine lv_iload_n hx hb dL_act_427 rfl (lv_at hl 6 rfl) ?_
                  refine lv_iconst (v := 2) hx hb dL_act_428 (by decide) ?_
                  refine me_callSnp (nA := 3) (As := [.ref bo, .int (nI (v_1 % B)), .int 2]) (rest := []) hC hl.1 hM (c_L_paid (mc := 0) (ms := 0) l D tb X z0 n_25 bo (nI (v_1 % B)) 2 rfl rfl ⟨Nat.le_of_ble_eq_true rfl, Nat.le_of_ble_eq_true rfl⟩ (bq_at h_b) (c_X7_pay l D tb X z0 n_25 bo g G F sf inp out (me_up M0 ra (.inl (tb 0, 1, .inl f_5))) S B L P nx ct (v_1 % B) 2 hW hnx hnx0 hct hct0 (by omega) (by decide) (by decide))) w_833 w_834 w_0 w_835 (by decide +kernel) rfl rfl ⟨Nat.le_of_ble_eq_true rfl, Nat.le_of_ble_eq_true rfl⟩ rfl rfl (Nat.le_of_ble_eq_true rfl) dL_act_429 ⟨Nat.le_of_ble_eq_true rfl, Nat.le_of_ble_eq_true rfl⟩ (fun r_26 M_26 hP_26 H locs n_26 hM => ?_)
                  obtain ⟨rfl, rfl⟩ := hP_26
                  refine lv_sipush (v := (-9999)) hx hb dL_act_432 (by decide) ?_
                  refine lv_icmp_le (tgt := 442) hx hb dL_act_435 (by decide) (fun c_45 => ?_) (fun c_45 => ?_)
                  · have c_45q := c_45
                    have c_45 := Int32.not_lt.mpr c_45
                    exact absurd c_45q (a3 _ _ (by omega) (by decide))
                  · have c_45q := c_45
                    have c_45 := Int32.not_le.mp c_45
                    refine lv_iconst (v := 1) hx hb dL_act_438 (by decide) ?_
                    refine lv_goto (tgt := 443) hx hb dL_act_439 (by decide) ?_
                    refine W.widen (k := 8) (n := 60) (by omega) (by omega) ?_
                    exact me_pret hC hr hlk hM (⟨_, _, _, _, _, rfl, Or.inr (Or.inr (Or.inr (Or.inr (Or.inr (Or.inl (⟨v_1 % B, 2, by omega, by decide, by decide, rfl, rfl, rfl, rfl⟩)))))), rfl⟩) (rfl) dL_act_443
              · have c_43 := (br_eq rfl (nx_c 4) (by omega) (by omega)).mp c_43
                exact absurd (Or.inr (est.trans (congrArg nI c_43))) hst24
        · exact absurd (nI_pos' (by omega)) c_35
      · refine me_evi (y := 5) c_3 ?_
        refine lv_tableIn (tgt := 444) hx hb dL_act_79 (by decide) (by decide) (off := 365) (by decide) (by decide) ?_
        refine lv_aload_n hx hb dL_act_444 rfl (lv_at hl 6 rfl) ?_
        refine me_callVi (As := []) (rest := []) hC hl.1 hM (c_X7_permitCount l D tb X z0 n_5 bo g G F sf inp out (me_up M0 ra (.inl (tb 0, 1, .inl f_5))) S B L P  ) (kv_L_107 hw rfl rfl ⟨Nat.le_of_ble_eq_true rfl, Nat.le_of_ble_eq_true rfl⟩) rfl rfl (bq_at h_b) rfl (Nat.le_of_ble_eq_true rfl) dL_act_445 ⟨Nat.le_of_ble_eq_true rfl, Nat.le_of_ble_eq_true rfl⟩ (fun H locs hM => ?_)
        refine me_evi (y := nI P) hW.2.2.2.2.2.2.1 ?_
        refine lv_istore (lv' := [(17, .int (nI P)), (7, .int (nI (T + (v_4 % 20)))), (6, .int (nI sv)), (5, .int (nI (v_3 % L))), (4, .int (nI (v_2 % S))), (3, .int (nI (v_1 % B))), (2, .int (nI L)), (0, .ref bo), (1, .ref ra)]) hx hb dL_act_448 hl (by decide) rfl (fun ls hl => ?_)
        refine lv_iload hx hb dL_act_450 (lv_at hl 0 rfl) ?_
        refine lv_bipush (v := 10) hx hb dL_act_452 (by decide) ?_
        refine lv_icmp_ne (tgt := 461) hx hb dL_act_454 (by decide) (fun c_46 => ?_) (fun c_46 => ?_)
        · have c_46 := (not_congr (br_eq rfl (nx_c 10) (by omega) (by omega))).mp c_46
          refine lv_iconst (v := 0) hx hb dL_act_461 (by decide) ?_
          refine lv_istore (lv' := [(18, .int 0), (17, .int (nI P)), (7, .int (nI (T + (v_4 % 20)))), (6, .int (nI sv)), (5, .int (nI (v_3 % L))), (4, .int (nI (v_2 % S))), (3, .int (nI (v_1 % B))), (2, .int (nI L)), (0, .ref bo), (1, .ref ra)]) hx hb dL_act_462 hl (by decide) rfl (fun ls hl => ?_)
          refine lv_iconst (v := 1) hx hb dL_act_464 (by decide) ?_
          refine lv_aload_n hx hb dL_act_465 rfl (lv_at hl 9 rfl) ?_
          refine me_callSp (As := [.ref ra]) (rest := [.int 1]) hC hl.1 hM (c_L_next l D tb X z0 n_5 ra f_5 (sp tb (bo + 722) g (bq tb bo G F sf inp out (me_up M0 ra (.inl (tb 0, 1, .inl f_5))))) (bq_some hra (me_up_s _ _ _))) (ks_L_79 hw rfl rfl ⟨Nat.le_of_ble_eq_true rfl, Nat.le_of_ble_eq_true rfl⟩) rfl rfl (Nat.le_of_ble_eq_true rfl) dL_act_466 ⟨Nat.le_of_ble_eq_true rfl, Nat.le_of_ble_eq_true rfl⟩ (fun r_27 M_27 hP_27 H locs n_27 hM => ?_)
          obtain ⟨v_27, f_27, rfl, hv_27, rfl⟩ := hP_27
          have hM := hM.eq (bq_upo hra)
          refine lv_bipush (v := 12) hx hb dL_act_469 (by decide) ?_
          refine lv_irem hx hb dL_act_471 (by decide) ?_
          refine me_evi (y := nI (v_27 % 12)) (nx_rem 12 rfl (by omega) (by omega) (by omega)) ?_
          refine lv_iadd hx hb dL_act_472 ?_
          refine me_evi (y := nI (1 + (v_27 % 12))) (nx_add (show (1 : Int32) = nI 1 from rfl) rfl) ?_
          refine lv_istore (lv' := [(19, .int (nI (1 + (v_27 % 12)))), (18, .int 0), (17, .int (nI P)), (7, .int (nI (T + (v_4 % 20)))), (6, .int (nI sv)), (5, .int (nI (v_3 % L))), (4, .int (nI (v_2 % S))), (3, .int (nI (v_1 % B))), (2, .int (nI L)), (0, .ref bo), (1, .ref ra)]) hx hb dL_act_473 hl (by decide) rfl (fun ls hl => ?_)
          refine lv_iload hx hb dL_act_475 (lv_at hl 3 rfl) ?_
          refine lv_istore (lv' := [(20, .int (nI (T + (v_4 % 20)))), (19, .int (nI (1 + (v_27 % 12)))), (18, .int 0), (17, .int (nI P)), (7, .int (nI (T + (v_4 % 20)))), (6, .int (nI sv)), (5, .int (nI (v_3 % L))), (4, .int (nI (v_2 % S))), (3, .int (nI (v_1 % B))), (2, .int (nI L)), (0, .ref bo), (1, .ref ra)]) hx hb dL_act_477 hl (by decide) rfl (fun ls hl => ?_)
          have lp_479 : ∀ (rP : Nat) (i : Nat) (tk : Int32) (H : Heap) (locs : List Loc) (ls : Array Slot), (i + rP = 1 + (v_27 % 12)) → ((tk = 0 ∧ ¬ P = 10 ∧ ∀ j, j < i → ¬ hbS g L (v_2 % S) (T + (v_4 % 20)) j) ∨ (¬ tk = 0 ∧ (P = 10 ∨ ∃ j, j < i ∧ hbS g L (v_2 % S) (T + (v_4 % 20)) j))) → me_at D z0 (sp tb (bo + 722) g (bq tb bo G F sf inp out (me_up M0 ra (.inl (tb 0, 1, .inl f_27))))) n_27 s H locs → lv_has ls 29 [(0, .ref bo), (1, .ref ra), (3, .int (nI (v_1 % B))), (4, .int (nI (v_2 % S))), (7, .int (nI (T + (v_4 % 20)))), (17, .int (nI P)), (19, .int (nI (1 + (v_27 % 12)))), (18, .int tk), (20, .int (nI (T + (v_4 % 20) + i)))] → W p l e (({ frames := 14, cells := 8, slots := 60, locals := 504 } : Room)) s m args below meth c H locs 0 0 (MQ below (me_Qp D z0 (fun r1 M1 => ∃ (g2 : Nat → Int32) (L2 P2 T2 : Nat) (f2 : Nat → Int32), r1 = 1 ∧ stp S B L P T g g2 L2 P2 T2 ∧ M1 = sp tb (bo + 722) g2 (bq tb bo (recG G g S B L P nx) (recF F nx ct) sf inp out (me_up M0 ra (.inl (tb 0, 1, .inl f2)))))) args s 8 60 (me_A z0)) (F0 m 479 ls []) := by
            intro rP
            refine Nat.strongRecOn rP ?_
            intro rP ih_479 i tk H locs ls hkP hqP hM hl
            refine lv_iload hx hb dL_act_479 (lv_at hl 8 rfl) ?_
            refine lv_iload hx hb dL_act_481 (lv_at hl 4 rfl) ?_
            refine lv_iload hx hb dL_act_483 (lv_at hl 6 rfl) ?_
            refine lv_iadd hx hb dL_act_485 ?_
            refine lv_icmp_ge (tgt := 535) hx hb dL_act_486 (by decide) (fun c_47 => ?_) (fun c_47 => ?_)
            · have c_47 := (br_le (nx_add rfl rfl) rfl (by omega) (by omega)).mp c_47
              have hem := Classical.em (fi (fun k => cpP g L (nI (v_2 % S)) (nI (T + (v_4 % 20))) (nI (1 + (v_27 % 12))) k) L 0 = -1 ∧ P < 10)
              have a5_ := (a5 (v_2 % S) (T + (v_4 % 20)) (1 + (v_27 % 12)) (by omega) (by omega) (by omega) (by omega) (by omega))
              rcases hem with hcp | hcp
              · skip
                refine lv_aload_n hx hb dL_act_535 rfl (lv_at hl 0 rfl) ?_
                refine lv_iload hx hb dL_act_536 (lv_at hl 3 rfl) ?_
                refine lv_iload hx hb dL_act_538 (lv_at hl 4 rfl) ?_
                refine lv_iload hx hb dL_act_540 (lv_at hl 6 rfl) ?_
                refine me_callSnp (nA := 4) (As := [.ref bo, .int (nI (v_2 % S)), .int (nI (T + (v_4 % 20))), .int (nI (1 + (v_27 % 12)))]) (rest := []) hC hl.1 hM (c_L_permitted (mc := 0) (ms := 0) l D tb X z0 n_27 bo (nI (v_2 % S)) (nI (T + (v_4 % 20))) (nI (1 + (v_27 % 12))) rfl rfl ⟨Nat.le_of_ble_eq_true rfl, Nat.le_of_ble_eq_true rfl⟩ (bq_at h_b) (c_X7_grantPermit l D tb X z0 n_27 bo g G F sf inp out (me_up M0 ra (.inl (tb 0, 1, .inl f_27))) S B L P T nx ct (v_2 % S) (T + (v_4 % 20)) (1 + (v_27 % 12)) hW hT hT0 hnx hnx0 hct hct0 (by omega) (by omega) (by omega) (by omega) (by omega) hcp)) w_805 w_806 w_0 w_807 (by decide +kernel) rfl rfl ⟨Nat.le_of_ble_eq_true rfl, Nat.le_of_ble_eq_true rfl⟩ rfl rfl (Nat.le_of_ble_eq_true rfl) dL_act_542 ⟨Nat.le_of_ble_eq_true rfl, Nat.le_of_ble_eq_true rfl⟩ (fun r_28 M_28 hP_28 H locs n_28 hM => ?_)
                obtain ⟨rfl, rfl⟩ := hP_28
                have hW2 := wf_ap (st := nI (v_2 % S)) (s := nI (T + (v_4 % 20))) (n := nI (1 + (v_27 % 12))) hW hcp.2
                have hT2 : (apF g P (nI (v_2 % S)) (nI (T + (v_4 % 20))) (nI (1 + (v_27 % 12)))) 2 = nI T := by unfold apF; rw [upd_n (by omega), upd_n (by omega), upd_n (by omega), upd_n (by omega), upd_n (by omega)]; exact hT
                refine lv_istore (lv' := [(20, .int (nI P)), (0, .ref bo), (1, .ref ra), (3, .int (nI (v_1 % B))), (4, .int (nI (v_2 % S))), (7, .int (nI (T + (v_4 % 20)))), (17, .int (nI P)), (19, .int (nI (1 + (v_27 % 12)))), (18, .int tk)]) hx hb dL_act_545 hl (by decide) rfl (fun ls hl => ?_)
                refine lv_iload hx hb dL_act_547 (lv_at hl 8 rfl) ?_
                refine lv_if_eq (tgt := 579) hx hb dL_act_549 (by decide) (fun c_48 => ?_) (fun c_48 => ?_)
                · refine lv_iload hx hb dL_act_579 (lv_at hl 0 rfl) ?_
                  refine lv_iload hx hb dL_act_581 (lv_at hl 6 rfl) ?_
                  refine lv_icmp_ne (tgt := 601) hx hb dL_act_583 (by decide) (fun c_49 => ?_) (fun c_49 => ?_)
                  · exact absurd rfl c_49
                  · refine lv_aload_n hx hb dL_act_586 rfl (lv_at hl 1 rfl) ?_
                    refine lv_iload hx hb dL_act_587 (lv_at hl 4 rfl) ?_
                    refine lv_iload hx hb dL_act_589 (lv_at hl 5 rfl) ?_
                    refine me_callVi (As := [.int (nI (v_2 % S)), .int (nI (T + (v_4 % 20)))]) (rest := []) hC hl.1 hM (c_X7_permitFor l D tb X z0 n_28 bo (apF g P (nI (v_2 % S)) (nI (T + (v_4 % 20))) (nI (1 + (v_27 % 12)))) (recG G g S B L P nx) (recF F nx ct) sf inp out (me_up M0 ra (.inl (tb 0, 1, .inl f_27))) S B L (P + 1) T (v_2 % S) (T + (v_4 % 20)) hW2 hT2 hT0 (by omega) (by omega) (by omega)) (kv_L_155 hw rfl rfl ⟨Nat.le_of_ble_eq_true rfl, Nat.le_of_ble_eq_true rfl⟩) rfl rfl (bq_at h_b) rfl (Nat.le_of_ble_eq_true rfl) dL_act_591 ⟨Nat.le_of_ble_eq_true rfl, Nat.le_of_ble_eq_true rfl⟩ (fun H locs hM => ?_)
                    refine lv_if_lt (tgt := 601) hx hb dL_act_594 (by decide) (fun c_50 => ?_) (fun c_50 => ?_)
                    · have c_50q := Int32.not_le.mpr c_50
                      exact absurd c_50 (a6 _ _ _ (by omega) (by omega) (by omega) (by omega) (by omega) hcp.2)
                    · have c_50q := Int32.not_lt.mp c_50
                      refine lv_iconst (v := 1) hx hb dL_act_597 (by decide) ?_
                      refine lv_goto (tgt := 602) hx hb dL_act_598 (by decide) ?_
                      refine W.widen (k := 8) (n := 60) (by omega) (by omega) ?_
                      exact me_pret hC hr hlk hM (⟨_, _, _, _, _, rfl, Or.inr (Or.inr (Or.inr (Or.inl (⟨_, _, _, by omega, by omega, by omega, by omega, by omega, hcp, rfl, rfl, rfl, rfl⟩)))), rfl⟩) (rfl) dL_act_602
                · exact absurd hcp (fun z => (hqP.resolve_left (fun y => c_48 y.1)).2.elim (fun e2 => by have := z.2; omega) (fun ⟨j, hj, h⟩ => a5_.mp z.1 j (by omega) h))
              · skip
                refine lv_aload_n hx hb dL_act_535 rfl (lv_at hl 0 rfl) ?_
                refine lv_iload hx hb dL_act_536 (lv_at hl 3 rfl) ?_
                refine lv_iload hx hb dL_act_538 (lv_at hl 4 rfl) ?_
                refine lv_iload hx hb dL_act_540 (lv_at hl 6 rfl) ?_
                refine me_callSnp (nA := 4) (As := [.ref bo, .int (nI (v_2 % S)), .int (nI (T + (v_4 % 20))), .int (nI (1 + (v_27 % 12)))]) (rest := []) hC hl.1 hM (c_L_permitted_x3 (mc := 1) (ms := 6) l D tb X z0 n_27 bo (nI (v_2 % S)) (nI (T + (v_4 % 20))) (nI (1 + (v_27 % 12))) hCE rfl rfl ⟨Nat.le_of_ble_eq_true rfl, Nat.le_of_ble_eq_true rfl⟩ (bq_at h_b) (c_X7_grantPermit_x4 l D tb X z0 n_27 bo g G F sf inp out (me_up M0 ra (.inl (tb 0, 1, .inl f_27))) S B L P T (v_2 % S) (T + (v_4 % 20)) (1 + (v_27 % 12)) hfl hXs hW hT hT0 (by omega) (by omega) (by omega) (by omega) (by omega) hcp)) w_805 w_806 w_0 w_807 (by decide +kernel) rfl rfl ⟨Nat.le_of_ble_eq_true rfl, Nat.le_of_ble_eq_true rfl⟩ rfl rfl (Nat.le_of_ble_eq_true rfl) dL_act_542 ⟨Nat.le_of_ble_eq_true rfl, Nat.le_of_ble_eq_true rfl⟩ (fun r_29 M_29 hP_29 H locs n_29 hM => ?_)
                obtain ⟨rfl, rfl⟩ := hP_29
                refine lv_istore (lv' := [(20, .int (-3)), (0, .ref bo), (1, .ref ra), (3, .int (nI (v_1 % B))), (4, .int (nI (v_2 % S))), (7, .int (nI (T + (v_4 % 20)))), (17, .int (nI P)), (19, .int (nI (1 + (v_27 % 12)))), (18, .int tk)]) hx hb dL_act_545 hl (by decide) rfl (fun ls hl => ?_)
                refine lv_iload hx hb dL_act_547 (lv_at hl 8 rfl) ?_
                refine lv_if_eq (tgt := 579) hx hb dL_act_549 (by decide) (fun c_51 => ?_) (fun c_51 => ?_)
                · exact absurd ⟨a5_.mpr (fun j hj => (hqP.resolve_right (fun y => y.1 c_51)).2.2 j (by omega)), by have := (hqP.resolve_right (fun y => y.1 c_51)).2.1; omega⟩ hcp
                · refine lv_iload hx hb dL_act_552 (lv_at hl 0 rfl) ?_
                  refine lv_bipush (v := (-3)) hx hb dL_act_554 (by decide) ?_
                  refine lv_icmp_ne (tgt := 575) hx hb dL_act_556 (by decide) (fun c_52 => ?_) (fun c_52 => ?_)
                  · exact absurd c_52 (by decide)
                  · refine lv_aload_n hx hb dL_act_559 rfl (lv_at hl 1 rfl) ?_
                    refine lv_iload_n hx hb dL_act_560 rfl (lv_at hl 3 rfl) ?_
                    refine lv_iconst (v := 4) hx hb dL_act_561 (by decide) ?_
                    refine me_callSnp (nA := 3) (As := [.ref bo, .int (nI (v_1 % B)), .int 4]) (rest := []) hC hl.1 hM (c_L_paid (mc := 0) (ms := 0) l D tb X z0 n_29 bo (nI (v_1 % B)) 4 rfl rfl ⟨Nat.le_of_ble_eq_true rfl, Nat.le_of_ble_eq_true rfl⟩ (bq_at h_b) (c_X7_pay l D tb X z0 n_29 bo g G F sf inp out (me_up M0 ra (.inl (tb 0, 1, .inl f_27))) S B L P nx ct (v_1 % B) 4 hW hnx hnx0 hct hct0 (by omega) (by decide) (by decide))) w_833 w_834 w_0 w_835 (by decide +kernel) rfl rfl ⟨Nat.le_of_ble_eq_true rfl, Nat.le_of_ble_eq_true rfl⟩ rfl rfl (Nat.le_of_ble_eq_true rfl) dL_act_562 ⟨Nat.le_of_ble_eq_true rfl, Nat.le_of_ble_eq_true rfl⟩ (fun r_30 M_30 hP_30 H locs n_30 hM => ?_)
                    obtain ⟨rfl, rfl⟩ := hP_30
                    refine lv_sipush (v := (-9999)) hx hb dL_act_565 (by decide) ?_
                    refine lv_icmp_le (tgt := 575) hx hb dL_act_568 (by decide) (fun c_53 => ?_) (fun c_53 => ?_)
                    · have c_53q := c_53
                      have c_53 := Int32.not_lt.mpr c_53
                      exact absurd c_53q (a3 _ _ (by omega) (by decide))
                    · have c_53q := c_53
                      have c_53 := Int32.not_le.mp c_53
                      refine lv_iconst (v := 1) hx hb dL_act_571 (by decide) ?_
                      refine lv_goto (tgt := 602) hx hb dL_act_572 (by decide) ?_
                      refine W.widen (k := 8) (n := 60) (by omega) (by omega) ?_
                      exact me_pret hC hr hlk hM (⟨_, _, _, _, _, rfl, Or.inr (Or.inr (Or.inr (Or.inr (Or.inr (Or.inl (⟨v_1 % B, 4, by omega, by decide, by decide, rfl, rfl, rfl, rfl⟩)))))), rfl⟩) (rfl) dL_act_602
            · have c_47 := (not_congr (br_le (nx_add rfl rfl) rfl (by omega) (by omega))).mp c_47
              obtain ⟨qP, rfl⟩ : ∃ qP, rP = qP + 1 := ⟨rP - 1, by omega⟩
              refine lv_aload_n hx hb dL_act_489 rfl (lv_at hl 0 rfl) ?_
              refine lv_iload hx hb dL_act_490 (lv_at hl 8 rfl) ?_
              refine me_callVi (As := [.int (nI (T + (v_4 % 20) + i))]) (rest := []) hC hl.1 hM (c_X7_holderOf l D tb X z0 n_27 bo g G F sf inp out (me_up M0 ra (.inl (tb 0, 1, .inl f_27))) S B L P T (T + (v_4 % 20) + i) hW hT hT0 (by omega) (by omega)) (kv_L_165 hw rfl rfl ⟨Nat.le_of_ble_eq_true rfl, Nat.le_of_ble_eq_true rfl⟩) rfl rfl (bq_at h_b) rfl (Nat.le_of_ble_eq_true rfl) dL_act_492 ⟨Nat.le_of_ble_eq_true rfl, Nat.le_of_ble_eq_true rfl⟩ (fun H locs hM => ?_)
              obtain ⟨yh, hyh⟩ : ∃ yh, hoF g L (nI (T + (v_4 % 20) + i)) = yh := ⟨_, rfl⟩
              refine me_evi (y := yh) hyh ?_
              rcases hoC (by omega) hyh.symm with rfl | ⟨j, hj, rfl⟩
              · skip
                refine lv_istore (lv' := [(21, .int (-1)), (0, .ref bo), (1, .ref ra), (3, .int (nI (v_1 % B))), (4, .int (nI (v_2 % S))), (7, .int (nI (T + (v_4 % 20)))), (17, .int (nI P)), (19, .int (nI (1 + (v_27 % 12)))), (18, .int tk), (20, .int (nI (T + (v_4 % 20) + i)))]) hx hb dL_act_495 hl (by decide) rfl (fun ls hl => ?_)
                refine lv_iload hx hb dL_act_497 (lv_at hl 8 rfl) ?_
                refine lv_if_ne (tgt := 522) hx hb dL_act_499 (by decide) (fun c_54 => ?_) (fun c_54 => ?_)
                · refine lv_iconst (v := 1) hx hb dL_act_522 (by decide) ?_
                  refine lv_goto (tgt := 527) hx hb dL_act_523 (by decide) ?_
                  refine lv_istore (lv' := [(18, .int 1), (21, .int (-1)), (0, .ref bo), (1, .ref ra), (3, .int (nI (v_1 % B))), (4, .int (nI (v_2 % S))), (7, .int (nI (T + (v_4 % 20)))), (17, .int (nI P)), (19, .int (nI (1 + (v_27 % 12)))), (20, .int (nI (T + (v_4 % 20) + i)))]) hx hb dL_act_527 hl (by decide) rfl (fun ls hl => ?_)
                  refine lv_iinc (v := nI (T + (v_4 % 20) + i + 1)) (lv' := [(20, .int (nI (T + (v_4 % 20) + i + 1))), (18, .int 1), (21, .int (-1)), (0, .ref bo), (1, .ref ra), (3, .int (nI (v_1 % B))), (4, .int (nI (v_2 % S))), (7, .int (nI (T + (v_4 % 20)))), (17, .int (nI P)), (19, .int (nI (1 + (v_27 % 12))))]) hx hb dL_act_529 hl (k := 9) rfl (nx_add rfl rfl) (by decide) rfl (fun ls hl => ?_)
                  refine lv_goto (tgt := 479) hx hb dL_act_532 (by decide) ?_
                  exact ih_479 qP (by omega) (i + 1) 1 _ _ _ (by omega) (Or.inr ⟨by decide, (hqP.resolve_left (fun z => c_54 z.1)).2.imp id (fun ⟨j, hj, h⟩ => ⟨j, by omega, h⟩)⟩) hM (lv_sub hl [3, 4, 5, 6, 7, 8, 9, 1, 0] rfl)
                · refine lv_iload hx hb dL_act_502 (lv_at hl 0 rfl) ?_
                  refine lv_if_lt (tgt := 526) hx hb dL_act_504 (by decide) (fun c_55 => ?_) (fun c_55 => ?_)
                  · have c_55q := Int32.not_le.mpr c_55
                    refine lv_iconst (v := 0) hx hb dL_act_526 (by decide) ?_
                    refine lv_istore (lv' := [(18, .int 0), (21, .int (-1)), (0, .ref bo), (1, .ref ra), (3, .int (nI (v_1 % B))), (4, .int (nI (v_2 % S))), (7, .int (nI (T + (v_4 % 20)))), (17, .int (nI P)), (19, .int (nI (1 + (v_27 % 12)))), (20, .int (nI (T + (v_4 % 20) + i)))]) hx hb dL_act_527 hl (by decide) rfl (fun ls hl => ?_)
                    refine lv_iinc (v := nI (T + (v_4 % 20) + i + 1)) (lv' := [(20, .int (nI (T + (v_4 % 20) + i + 1))), (18, .int 0), (21, .int (-1)), (0, .ref bo), (1, .ref ra), (3, .int (nI (v_1 % B))), (4, .int (nI (v_2 % S))), (7, .int (nI (T + (v_4 % 20)))), (17, .int (nI P)), (19, .int (nI (1 + (v_27 % 12))))]) hx hb dL_act_529 hl (k := 9) rfl (nx_add rfl rfl) (by decide) rfl (fun ls hl => ?_)
                    refine lv_goto (tgt := 479) hx hb dL_act_532 (by decide) ?_
                    exact ih_479 qP (by omega) (i + 1) 0 _ _ _ (by omega) (Or.inl ⟨rfl, (hqP.resolve_right (fun z => z.1 c_54)).2.1, fun j2 h2 => (Nat.lt_succ_iff_lt_or_eq.mp h2).elim ((hqP.resolve_right (fun z => z.1 c_54)).2.2 j2) (fun e2 => by subst e2; exact fun ⟨l2, h5, h6, h7⟩ => nI_nm1 (k := l2) (by omega) (h6.symm.trans hyh))⟩) hM (lv_sub hl [3, 4, 5, 6, 7, 8, 9, 1, 0] rfl)
                  · exact absurd c_55 (by decide)
              · skip
                refine lv_istore (lv' := [(21, .int (nI j)), (0, .ref bo), (1, .ref ra), (3, .int (nI (v_1 % B))), (4, .int (nI (v_2 % S))), (7, .int (nI (T + (v_4 % 20)))), (17, .int (nI P)), (19, .int (nI (1 + (v_27 % 12)))), (18, .int tk), (20, .int (nI (T + (v_4 % 20) + i)))]) hx hb dL_act_495 hl (by decide) rfl (fun ls hl => ?_)
                refine lv_iload hx hb dL_act_497 (lv_at hl 8 rfl) ?_
                refine lv_if_ne (tgt := 522) hx hb dL_act_499 (by decide) (fun c_56 => ?_) (fun c_56 => ?_)
                · refine lv_iconst (v := 1) hx hb dL_act_522 (by decide) ?_
                  refine lv_goto (tgt := 527) hx hb dL_act_523 (by decide) ?_
                  refine lv_istore (lv' := [(18, .int 1), (21, .int (nI j)), (0, .ref bo), (1, .ref ra), (3, .int (nI (v_1 % B))), (4, .int (nI (v_2 % S))), (7, .int (nI (T + (v_4 % 20)))), (17, .int (nI P)), (19, .int (nI (1 + (v_27 % 12)))), (20, .int (nI (T + (v_4 % 20) + i)))]) hx hb dL_act_527 hl (by decide) rfl (fun ls hl => ?_)
                  refine lv_iinc (v := nI (T + (v_4 % 20) + i + 1)) (lv' := [(20, .int (nI (T + (v_4 % 20) + i + 1))), (18, .int 1), (21, .int (nI j)), (0, .ref bo), (1, .ref ra), (3, .int (nI (v_1 % B))), (4, .int (nI (v_2 % S))), (7, .int (nI (T + (v_4 % 20)))), (17, .int (nI P)), (19, .int (nI (1 + (v_27 % 12))))]) hx hb dL_act_529 hl (k := 9) rfl (nx_add rfl rfl) (by decide) rfl (fun ls hl => ?_)
                  refine lv_goto (tgt := 479) hx hb dL_act_532 (by decide) ?_
                  exact ih_479 qP (by omega) (i + 1) 1 _ _ _ (by omega) (Or.inr ⟨by decide, (hqP.resolve_left (fun z => c_56 z.1)).2.imp id (fun ⟨j, hj, h⟩ => ⟨j, by omega, h⟩)⟩) hM (lv_sub hl [3, 4, 5, 6, 7, 8, 9, 1, 0] rfl)
                · refine lv_iload hx hb dL_act_502 (lv_at hl 0 rfl) ?_
                  refine lv_if_lt (tgt := 526) hx hb dL_act_504 (by decide) (fun c_57 => ?_) (fun c_57 => ?_)
                  · exact absurd c_57 (nI_pos (by omega))
                  · have c_57q := Int32.not_lt.mp c_57
                    refine lv_aload_n hx hb dL_act_507 rfl (lv_at hl 1 rfl) ?_
                    refine lv_aload_n hx hb dL_act_508 rfl (lv_at hl 1 rfl) ?_
                    refine lv_iload hx hb dL_act_509 (lv_at hl 0 rfl) ?_
                    refine me_callVi (As := [.int (nI j)]) (rest := [.ref bo]) hC hl.1 hM (c_X7_borrowerOf l D tb X z0 n_27 bo g G F sf inp out (me_up M0 ra (.inl (tb 0, 1, .inl f_27))) S B L P j hW (by omega)) (kv_L_140 hw rfl rfl ⟨Nat.le_of_ble_eq_true rfl, Nat.le_of_ble_eq_true rfl⟩) rfl rfl (bq_at h_b) rfl (Nat.le_of_ble_eq_true rfl) dL_act_511 ⟨Nat.le_of_ble_eq_true rfl, Nat.le_of_ble_eq_true rfl⟩ (fun H locs hM => ?_)
                    have hb_ := (hW.2.2.2.2.2.2.2.2.2 j (by omega)).2
                    refine me_evi (y := nI (ow g j)) (hW.2.2.2.2.2.2.2.2.2 j (by omega)).1 ?_
                    refine me_callVi (As := [.int (nI (ow g j))]) (rest := []) hC hl.1 hM (c_X7_streetOf l D tb X z0 n_27 bo g G F sf inp out (me_up M0 ra (.inl (tb 0, 1, .inl f_27))) S B L P (ow g j) hW (by omega)) (kv_L_128 hw rfl rfl ⟨Nat.le_of_ble_eq_true rfl, Nat.le_of_ble_eq_true rfl⟩) rfl rfl (bq_at h_b) rfl (Nat.le_of_ble_eq_true rfl) dL_act_514 ⟨Nat.le_of_ble_eq_true rfl, Nat.le_of_ble_eq_true rfl⟩ (fun H locs hM => ?_)
                    have hb_ := (hW.2.2.2.2.2.2.2.2.1 (ow g j) (by omega)).2
                    refine me_evi (y := nI (hm g (ow g j))) (hW.2.2.2.2.2.2.2.2.1 (ow g j) (by omega)).1 ?_
                    refine lv_iload hx hb dL_act_517 (lv_at hl 4 rfl) ?_
                    refine lv_icmp_ne (tgt := 526) hx hb dL_act_519 (by decide) (fun c_58 => ?_) (fun c_58 => ?_)
                    · have c_58 := (not_congr (br_eq rfl rfl (by omega) (by omega))).mp c_58
                      refine lv_iconst (v := 0) hx hb dL_act_526 (by decide) ?_
                      refine lv_istore (lv' := [(18, .int 0), (21, .int (nI j)), (0, .ref bo), (1, .ref ra), (3, .int (nI (v_1 % B))), (4, .int (nI (v_2 % S))), (7, .int (nI (T + (v_4 % 20)))), (17, .int (nI P)), (19, .int (nI (1 + (v_27 % 12)))), (20, .int (nI (T + (v_4 % 20) + i)))]) hx hb dL_act_527 hl (by decide) rfl (fun ls hl => ?_)
                      refine lv_iinc (v := nI (T + (v_4 % 20) + i + 1)) (lv' := [(20, .int (nI (T + (v_4 % 20) + i + 1))), (18, .int 0), (21, .int (nI j)), (0, .ref bo), (1, .ref ra), (3, .int (nI (v_1 % B))), (4, .int (nI (v_2 % S))), (7, .int (nI (T + (v_4 % 20)))), (17, .int (nI P)), (19, .int (nI (1 + (v_27 % 12))))]) hx hb dL_act_529 hl (k := 9) rfl (nx_add rfl rfl) (by decide) rfl (fun ls hl => ?_)
                      refine lv_goto (tgt := 479) hx hb dL_act_532 (by decide) ?_
                      exact ih_479 qP (by omega) (i + 1) 0 _ _ _ (by omega) (Or.inl ⟨rfl, (hqP.resolve_right (fun z => z.1 c_56)).2.1, fun j2 h2 => (Nat.lt_succ_iff_lt_or_eq.mp h2).elim ((hqP.resolve_right (fun z => z.1 c_56)).2.2 j2) (fun e2 => by subst e2; exact fun ⟨l2, h5, h6, h7⟩ => c_58 ((show l2 = j from (nI_eq (by omega) (by omega)).mp (h6.symm.trans hyh)) ▸ h7))⟩) hM (lv_sub hl [3, 4, 5, 6, 7, 8, 9, 1, 0] rfl)
                    · have c_58 := (br_eq rfl rfl (by omega) (by omega)).mp c_58
                      refine lv_iconst (v := 1) hx hb dL_act_522 (by decide) ?_
                      refine lv_goto (tgt := 527) hx hb dL_act_523 (by decide) ?_
                      refine lv_istore (lv' := [(18, .int 1), (21, .int (nI j)), (0, .ref bo), (1, .ref ra), (3, .int (nI (v_1 % B))), (4, .int (nI (v_2 % S))), (7, .int (nI (T + (v_4 % 20)))), (17, .int (nI P)), (19, .int (nI (1 + (v_27 % 12)))), (20, .int (nI (T + (v_4 % 20) + i)))]) hx hb dL_act_527 hl (by decide) rfl (fun ls hl => ?_)
                      refine lv_iinc (v := nI (T + (v_4 % 20) + i + 1)) (lv' := [(20, .int (nI (T + (v_4 % 20) + i + 1))), (18, .int 1), (21, .int (nI j)), (0, .ref bo), (1, .ref ra), (3, .int (nI (v_1 % B))), (4, .int (nI (v_2 % S))), (7, .int (nI (T + (v_4 % 20)))), (17, .int (nI P)), (19, .int (nI (1 + (v_27 % 12))))]) hx hb dL_act_529 hl (k := 9) rfl (nx_add rfl rfl) (by decide) rfl (fun ls hl => ?_)
                      refine lv_goto (tgt := 479) hx hb dL_act_532 (by decide) ?_
                      exact ih_479 qP (by omega) (i + 1) 1 _ _ _ (by omega) (Or.inr ⟨by decide, Or.inr ⟨i, by omega, j, hj, hyh, c_58⟩⟩) hM (lv_sub hl [3, 4, 5, 6, 7, 8, 9, 1, 0] rfl)
          exact lp_479 (1 + (v_27 % 12)) 0 0 _ _ _ (by omega) (Or.inl ⟨rfl, c_46, fun j hj => absurd hj (Nat.not_lt_zero _)⟩) hM (lv_sub hl [10, 11, 8, 7, 4, 3, 1, 2, 0] rfl)
        · have c_46 := (br_eq rfl (nx_c 10) (by omega) (by omega)).mp c_46
          refine lv_iconst (v := 1) hx hb dL_act_457 (by decide) ?_
          refine lv_goto (tgt := 462) hx hb dL_act_458 (by decide) ?_
          refine lv_istore (lv' := [(18, .int 1), (17, .int (nI P)), (7, .int (nI (T + (v_4 % 20)))), (6, .int (nI sv)), (5, .int (nI (v_3 % L))), (4, .int (nI (v_2 % S))), (3, .int (nI (v_1 % B))), (2, .int (nI L)), (0, .ref bo), (1, .ref ra)]) hx hb dL_act_462 hl (by decide) rfl (fun ls hl => ?_)
          refine lv_iconst (v := 1) hx hb dL_act_464 (by decide) ?_
          refine lv_aload_n hx hb dL_act_465 rfl (lv_at hl 9 rfl) ?_
          refine me_callSp (As := [.ref ra]) (rest := [.int 1]) hC hl.1 hM (c_L_next l D tb X z0 n_5 ra f_5 (sp tb (bo + 722) g (bq tb bo G F sf inp out (me_up M0 ra (.inl (tb 0, 1, .inl f_5))))) (bq_some hra (me_up_s _ _ _))) (ks_L_79 hw rfl rfl ⟨Nat.le_of_ble_eq_true rfl, Nat.le_of_ble_eq_true rfl⟩) rfl rfl (Nat.le_of_ble_eq_true rfl) dL_act_466 ⟨Nat.le_of_ble_eq_true rfl, Nat.le_of_ble_eq_true rfl⟩ (fun r_31 M_31 hP_31 H locs n_31 hM => ?_)
          obtain ⟨v_31, f_31, rfl, hv_31, rfl⟩ := hP_31
          have hM := hM.eq (bq_upo hra)
          refine lv_bipush (v := 12) hx hb dL_act_469 (by decide) ?_
          refine lv_irem hx hb dL_act_471 (by decide) ?_
          refine me_evi (y := nI (v_31 % 12)) (nx_rem 12 rfl (by omega) (by omega) (by omega)) ?_
          refine lv_iadd hx hb dL_act_472 ?_
          refine me_evi (y := nI (1 + (v_31 % 12))) (nx_add (show (1 : Int32) = nI 1 from rfl) rfl) ?_
          refine lv_istore (lv' := [(19, .int (nI (1 + (v_31 % 12)))), (18, .int 1), (17, .int (nI P)), (7, .int (nI (T + (v_4 % 20)))), (6, .int (nI sv)), (5, .int (nI (v_3 % L))), (4, .int (nI (v_2 % S))), (3, .int (nI (v_1 % B))), (2, .int (nI L)), (0, .ref bo), (1, .ref ra)]) hx hb dL_act_473 hl (by decide) rfl (fun ls hl => ?_)
          refine lv_iload hx hb dL_act_475 (lv_at hl 3 rfl) ?_
          refine lv_istore (lv' := [(20, .int (nI (T + (v_4 % 20)))), (19, .int (nI (1 + (v_31 % 12)))), (18, .int 1), (17, .int (nI P)), (7, .int (nI (T + (v_4 % 20)))), (6, .int (nI sv)), (5, .int (nI (v_3 % L))), (4, .int (nI (v_2 % S))), (3, .int (nI (v_1 % B))), (2, .int (nI L)), (0, .ref bo), (1, .ref ra)]) hx hb dL_act_477 hl (by decide) rfl (fun ls hl => ?_)
          have lp_479 : ∀ (rP : Nat) (i : Nat) (tk : Int32) (H : Heap) (locs : List Loc) (ls : Array Slot), (i + rP = 1 + (v_31 % 12)) → ((tk = 0 ∧ ¬ P = 10 ∧ ∀ j, j < i → ¬ hbS g L (v_2 % S) (T + (v_4 % 20)) j) ∨ (¬ tk = 0 ∧ (P = 10 ∨ ∃ j, j < i ∧ hbS g L (v_2 % S) (T + (v_4 % 20)) j))) → me_at D z0 (sp tb (bo + 722) g (bq tb bo G F sf inp out (me_up M0 ra (.inl (tb 0, 1, .inl f_31))))) n_31 s H locs → lv_has ls 29 [(0, .ref bo), (1, .ref ra), (3, .int (nI (v_1 % B))), (4, .int (nI (v_2 % S))), (7, .int (nI (T + (v_4 % 20)))), (17, .int (nI P)), (19, .int (nI (1 + (v_31 % 12)))), (18, .int tk), (20, .int (nI (T + (v_4 % 20) + i)))] → W p l e (({ frames := 14, cells := 8, slots := 60, locals := 504 } : Room)) s m args below meth c H locs 0 0 (MQ below (me_Qp D z0 (fun r1 M1 => ∃ (g2 : Nat → Int32) (L2 P2 T2 : Nat) (f2 : Nat → Int32), r1 = 1 ∧ stp S B L P T g g2 L2 P2 T2 ∧ M1 = sp tb (bo + 722) g2 (bq tb bo (recG G g S B L P nx) (recF F nx ct) sf inp out (me_up M0 ra (.inl (tb 0, 1, .inl f2)))))) args s 8 60 (me_A z0)) (F0 m 479 ls []) := by
            intro rP
            refine Nat.strongRecOn rP ?_
            intro rP ih_479 i tk H locs ls hkP hqP hM hl
            refine lv_iload hx hb dL_act_479 (lv_at hl 8 rfl) ?_
            refine lv_iload hx hb dL_act_481 (lv_at hl 4 rfl) ?_
            refine lv_iload hx hb dL_act_483 (lv_at hl 6 rfl) ?_
            refine lv_iadd hx hb dL_act_485 ?_
            refine lv_icmp_ge (tgt := 535) hx hb dL_act_486 (by decide) (fun c_59 => ?_) (fun c_59 => ?_)
            · have c_59 := (br_le (nx_add rfl rfl) rfl (by omega) (by omega)).mp c_59
              have hem := Classical.em (fi (fun k => cpP g L (nI (v_2 % S)) (nI (T + (v_4 % 20))) (nI (1 + (v_31 % 12))) k) L 0 = -1 ∧ P < 10)
              have a5_ := (a5 (v_2 % S) (T + (v_4 % 20)) (1 + (v_31 % 12)) (by omega) (by omega) (by omega) (by omega) (by omega))
              rcases hem with hcp | hcp
              · skip
                refine lv_aload_n hx hb dL_act_535 rfl (lv_at hl 0 rfl) ?_
                refine lv_iload hx hb dL_act_536 (lv_at hl 3 rfl) ?_
                refine lv_iload hx hb dL_act_538 (lv_at hl 4 rfl) ?_
                refine lv_iload hx hb dL_act_540 (lv_at hl 6 rfl) ?_
                refine me_callSnp (nA := 4) (As := [.ref bo, .int (nI (v_2 % S)), .int (nI (T + (v_4 % 20))), .int (nI (1 + (v_31 % 12)))]) (rest := []) hC hl.1 hM (c_L_permitted (mc := 0) (ms := 0) l D tb X z0 n_31 bo (nI (v_2 % S)) (nI (T + (v_4 % 20))) (nI (1 + (v_31 % 12))) rfl rfl ⟨Nat.le_of_ble_eq_true rfl, Nat.le_of_ble_eq_true rfl⟩ (bq_at h_b) (c_X7_grantPermit l D tb X z0 n_31 bo g G F sf inp out (me_up M0 ra (.inl (tb 0, 1, .inl f_31))) S B L P T nx ct (v_2 % S) (T + (v_4 % 20)) (1 + (v_31 % 12)) hW hT hT0 hnx hnx0 hct hct0 (by omega) (by omega) (by omega) (by omega) (by omega) hcp)) w_805 w_806 w_0 w_807 (by decide +kernel) rfl rfl ⟨Nat.le_of_ble_eq_true rfl, Nat.le_of_ble_eq_true rfl⟩ rfl rfl (Nat.le_of_ble_eq_true rfl) dL_act_542 ⟨Nat.le_of_ble_eq_true rfl, Nat.le_of_ble_eq_true rfl⟩ (fun r_32 M_32 hP_32 H locs n_32 hM => ?_)
                obtain ⟨rfl, rfl⟩ := hP_32
                have hW2 := wf_ap (st := nI (v_2 % S)) (s := nI (T + (v_4 % 20))) (n := nI (1 + (v_31 % 12))) hW hcp.2
                have hT2 : (apF g P (nI (v_2 % S)) (nI (T + (v_4 % 20))) (nI (1 + (v_31 % 12)))) 2 = nI T := by unfold apF; rw [upd_n (by omega), upd_n (by omega), upd_n (by omega), upd_n (by omega), upd_n (by omega)]; exact hT
                refine lv_istore (lv' := [(20, .int (nI P)), (0, .ref bo), (1, .ref ra), (3, .int (nI (v_1 % B))), (4, .int (nI (v_2 % S))), (7, .int (nI (T + (v_4 % 20)))), (17, .int (nI P)), (19, .int (nI (1 + (v_31 % 12)))), (18, .int tk)]) hx hb dL_act_545 hl (by decide) rfl (fun ls hl => ?_)
                refine lv_iload hx hb dL_act_547 (lv_at hl 8 rfl) ?_
                refine lv_if_eq (tgt := 579) hx hb dL_act_549 (by decide) (fun c_60 => ?_) (fun c_60 => ?_)
                · refine lv_iload hx hb dL_act_579 (lv_at hl 0 rfl) ?_
                  refine lv_iload hx hb dL_act_581 (lv_at hl 6 rfl) ?_
                  refine lv_icmp_ne (tgt := 601) hx hb dL_act_583 (by decide) (fun c_61 => ?_) (fun c_61 => ?_)
                  · exact absurd rfl c_61
                  · refine lv_aload_n hx hb dL_act_586 rfl (lv_at hl 1 rfl) ?_
                    refine lv_iload hx hb dL_act_587 (lv_at hl 4 rfl) ?_
                    refine lv_iload hx hb dL_act_589 (lv_at hl 5 rfl) ?_
                    refine me_callVi (As := [.int (nI (v_2 % S)), .int (nI (T + (v_4 % 20)))]) (rest := []) hC hl.1 hM (c_X7_permitFor l D tb X z0 n_32 bo (apF g P (nI (v_2 % S)) (nI (T + (v_4 % 20))) (nI (1 + (v_31 % 12)))) (recG G g S B L P nx) (recF F nx ct) sf inp out (me_up M0 ra (.inl (tb 0, 1, .inl f_31))) S B L (P + 1) T (v_2 % S) (T + (v_4 % 20)) hW2 hT2 hT0 (by omega) (by omega) (by omega)) (kv_L_155 hw rfl rfl ⟨Nat.le_of_ble_eq_true rfl, Nat.le_of_ble_eq_true rfl⟩) rfl rfl (bq_at h_b) rfl (Nat.le_of_ble_eq_true rfl) dL_act_591 ⟨Nat.le_of_ble_eq_true rfl, Nat.le_of_ble_eq_true rfl⟩ (fun H locs hM => ?_)
                    refine lv_if_lt (tgt := 601) hx hb dL_act_594 (by decide) (fun c_62 => ?_) (fun c_62 => ?_)
                    · have c_62q := Int32.not_le.mpr c_62
                      exact absurd c_62 (a6 _ _ _ (by omega) (by omega) (by omega) (by omega) (by omega) hcp.2)
                    · have c_62q := Int32.not_lt.mp c_62
                      refine lv_iconst (v := 1) hx hb dL_act_597 (by decide) ?_
                      refine lv_goto (tgt := 602) hx hb dL_act_598 (by decide) ?_
                      refine W.widen (k := 8) (n := 60) (by omega) (by omega) ?_
                      exact me_pret hC hr hlk hM (⟨_, _, _, _, _, rfl, Or.inr (Or.inr (Or.inr (Or.inl (⟨_, _, _, by omega, by omega, by omega, by omega, by omega, hcp, rfl, rfl, rfl, rfl⟩)))), rfl⟩) (rfl) dL_act_602
                · exact absurd hcp (fun z => (hqP.resolve_left (fun y => c_60 y.1)).2.elim (fun e2 => by have := z.2; omega) (fun ⟨j, hj, h⟩ => a5_.mp z.1 j (by omega) h))
              · skip
                refine lv_aload_n hx hb dL_act_535 rfl (lv_at hl 0 rfl) ?_
                refine lv_iload hx hb dL_act_536 (lv_at hl 3 rfl) ?_
                refine lv_iload hx hb dL_act_538 (lv_at hl 4 rfl) ?_
                refine lv_iload hx hb dL_act_540 (lv_at hl 6 rfl) ?_
                refine me_callSnp (nA := 4) (As := [.ref bo, .int (nI (v_2 % S)), .int (nI (T + (v_4 % 20))), .int (nI (1 + (v_31 % 12)))]) (rest := []) hC hl.1 hM (c_L_permitted_x3 (mc := 1) (ms := 6) l D tb X z0 n_31 bo (nI (v_2 % S)) (nI (T + (v_4 % 20))) (nI (1 + (v_31 % 12))) hCE rfl rfl ⟨Nat.le_of_ble_eq_true rfl, Nat.le_of_ble_eq_true rfl⟩ (bq_at h_b) (c_X7_grantPermit_x4 l D tb X z0 n_31 bo g G F sf inp out (me_up M0 ra (.inl (tb 0, 1, .inl f_31))) S B L P T (v_2 % S) (T + (v_4 % 20)) (1 + (v_31 % 12)) hfl hXs hW hT hT0 (by omega) (by omega) (by omega) (by omega) (by omega) hcp)) w_805 w_806 w_0 w_807 (by decide +kernel) rfl rfl ⟨Nat.le_of_ble_eq_true rfl, Nat.le_of_ble_eq_true rfl⟩ rfl rfl (Nat.le_of_ble_eq_true rfl) dL_act_542 ⟨Nat.le_of_ble_eq_true rfl, Nat.le_of_ble_eq_true rfl⟩ (fun r_33 M_33 hP_33 H locs n_33 hM => ?_)
                obtain ⟨rfl, rfl⟩ := hP_33
                refine lv_istore (lv' := [(20, .int (-3)), (0, .ref bo), (1, .ref ra), (3, .int (nI (v_1 % B))), (4, .int (nI (v_2 % S))), (7, .int (nI (T + (v_4 % 20)))), (17, .int (nI P)), (19, .int (nI (1 + (v_31 % 12)))), (18, .int tk)]) hx hb dL_act_545 hl (by decide) rfl (fun ls hl => ?_)
                refine lv_iload hx hb dL_act_547 (lv_at hl 8 rfl) ?_
                refine lv_if_eq (tgt := 579) hx hb dL_act_549 (by decide) (fun c_63 => ?_) (fun c_63 => ?_)
                · exact absurd ⟨a5_.mpr (fun j hj => (hqP.resolve_right (fun y => y.1 c_63)).2.2 j (by omega)), by have := (hqP.resolve_right (fun y => y.1 c_63)).2.1; omega⟩ hcp
                · refine lv_iload hx hb dL_act_552 (lv_at hl 0 rfl) ?_
                  refine lv_bipush (v := (-3)) hx hb dL_act_554 (by decide) ?_
                  refine lv_icmp_ne (tgt := 575) hx hb dL_act_556 (by decide) (fun c_64 => ?_) (fun c_64 => ?_)
                  · exact absurd c_64 (by decide)
                  · refine lv_aload_n hx hb dL_act_559 rfl (lv_at hl 1 rfl) ?_
                    refine lv_iload_n hx hb dL_act_560 rfl (lv_at hl 3 rfl) ?_
                    refine lv_iconst (v := 4) hx hb dL_act_561 (by decide) ?_
                    refine me_callSnp (nA := 3) (As := [.ref bo, .int (nI (v_1 % B)), .int 4]) (rest := []) hC hl.1 hM (c_L_paid (mc := 0) (ms := 0) l D tb X z0 n_33 bo (nI (v_1 % B)) 4 rfl rfl ⟨Nat.le_of_ble_eq_true rfl, Nat.le_of_ble_eq_true rfl⟩ (bq_at h_b) (c_X7_pay l D tb X z0 n_33 bo g G F sf inp out (me_up M0 ra (.inl (tb 0, 1, .inl f_31))) S B L P nx ct (v_1 % B) 4 hW hnx hnx0 hct hct0 (by omega) (by decide) (by decide))) w_833 w_834 w_0 w_835 (by decide +kernel) rfl rfl ⟨Nat.le_of_ble_eq_true rfl, Nat.le_of_ble_eq_true rfl⟩ rfl rfl (Nat.le_of_ble_eq_true rfl) dL_act_562 ⟨Nat.le_of_ble_eq_true rfl, Nat.le_of_ble_eq_true rfl⟩ (fun r_34 M_34 hP_34 H locs n_34 hM => ?_)
                    obtain ⟨rfl, rfl⟩ := hP_34
                    refine lv_sipush (v := (-9999)) hx hb dL_act_565 (by decide) ?_
                    refine lv_icmp_le (tgt := 575) hx hb dL_act_568 (by decide) (fun c_65 => ?_) (fun c_65 => ?_)
                    · have c_65q := c_65
                      have c_65 := Int32.not_lt.mpr c_65
                      exact absurd c_65q (a3 _ _ (by omega) (by decide))
                    · have c_65q := c_65
                      have c_65 := Int32.not_le.mp c_65
                      refine lv_iconst (v := 1) hx hb dL_act_571 (by decide) ?_
                      refine lv_goto (tgt := 602) hx hb dL_act_572 (by decide) ?_
                      refine W.widen (k := 8) (n := 60) (by omega) (by omega) ?_
                      exact me_pret hC hr hlk hM (⟨_, _, _, _, _, rfl, Or.inr (Or.inr (Or.inr (Or.inr (Or.inr (Or.inl (⟨v_1 % B, 4, by omega, by decide, by decide, rfl, rfl, rfl, rfl⟩)))))), rfl⟩) (rfl) dL_act_602
            · have c_59 := (not_congr (br_le (nx_add rfl rfl) rfl (by omega) (by omega))).mp c_59
              obtain ⟨qP, rfl⟩ : ∃ qP, rP = qP + 1 := ⟨rP - 1, by omega⟩
              refine lv_aload_n hx hb dL_act_489 rfl (lv_at hl 0 rfl) ?_
              refine lv_iload hx hb dL_act_490 (lv_at hl 8 rfl) ?_
              refine me_callVi (As := [.int (nI (T + (v_4 % 20) + i))]) (rest := []) hC hl.1 hM (c_X7_holderOf l D tb X z0 n_31 bo g G F sf inp out (me_up M0 ra (.inl (tb 0, 1, .inl f_31))) S B L P T (T + (v_4 % 20) + i) hW hT hT0 (by omega) (by omega)) (kv_L_165 hw rfl rfl ⟨Nat.le_of_ble_eq_true rfl, Nat.le_of_ble_eq_true rfl⟩) rfl rfl (bq_at h_b) rfl (Nat.le_of_ble_eq_true rfl) dL_act_492 ⟨Nat.le_of_ble_eq_true rfl, Nat.le_of_ble_eq_true rfl⟩ (fun H locs hM => ?_)
              obtain ⟨yh, hyh⟩ : ∃ yh, hoF g L (nI (T + (v_4 % 20) + i)) = yh := ⟨_, rfl⟩
              refine me_evi (y := yh) hyh ?_
              rcases hoC (by omega) hyh.symm with rfl | ⟨j, hj, rfl⟩
              · skip
                refine lv_istore (lv' := [(21, .int (-1)), (0, .ref bo), (1, .ref ra), (3, .int (nI (v_1 % B))), (4, .int (nI (v_2 % S))), (7, .int (nI (T + (v_4 % 20)))), (17, .int (nI P)), (19, .int (nI (1 + (v_31 % 12)))), (18, .int tk), (20, .int (nI (T + (v_4 % 20) + i)))]) hx hb dL_act_495 hl (by decide) rfl (fun ls hl => ?_)
                refine lv_iload hx hb dL_act_497 (lv_at hl 8 rfl) ?_
                refine lv_if_ne (tgt := 522) hx hb dL_act_499 (by decide) (fun c_66 => ?_) (fun c_66 => ?_)
                · refine lv_iconst (v := 1) hx hb dL_act_522 (by decide) ?_
                  refine lv_goto (tgt := 527) hx hb dL_act_523 (by decide) ?_
                  refine lv_istore (lv' := [(18, .int 1), (21, .int (-1)), (0, .ref bo), (1, .ref ra), (3, .int (nI (v_1 % B))), (4, .int (nI (v_2 % S))), (7, .int (nI (T + (v_4 % 20)))), (17, .int (nI P)), (19, .int (nI (1 + (v_31 % 12)))), (20, .int (nI (T + (v_4 % 20) + i)))]) hx hb dL_act_527 hl (by decide) rfl (fun ls hl => ?_)
                  refine lv_iinc (v := nI (T + (v_4 % 20) + i + 1)) (lv' := [(20, .int (nI (T + (v_4 % 20) + i + 1))), (18, .int 1), (21, .int (-1)), (0, .ref bo), (1, .ref ra), (3, .int (nI (v_1 % B))), (4, .int (nI (v_2 % S))), (7, .int (nI (T + (v_4 % 20)))), (17, .int (nI P)), (19, .int (nI (1 + (v_31 % 12))))]) hx hb dL_act_529 hl (k := 9) rfl (nx_add rfl rfl) (by decide) rfl (fun ls hl => ?_)
                  refine lv_goto (tgt := 479) hx hb dL_act_532 (by decide) ?_
                  exact ih_479 qP (by omega) (i + 1) 1 _ _ _ (by omega) (Or.inr ⟨by decide, (hqP.resolve_left (fun z => c_66 z.1)).2.imp id (fun ⟨j, hj, h⟩ => ⟨j, by omega, h⟩)⟩) hM (lv_sub hl [3, 4, 5, 6, 7, 8, 9, 1, 0] rfl)
                · refine lv_iload hx hb dL_act_502 (lv_at hl 0 rfl) ?_
                  refine lv_if_lt (tgt := 526) hx hb dL_act_504 (by decide) (fun c_67 => ?_) (fun c_67 => ?_)
                  · have c_67q := Int32.not_le.mpr c_67
                    refine lv_iconst (v := 0) hx hb dL_act_526 (by decide) ?_
                    refine lv_istore (lv' := [(18, .int 0), (21, .int (-1)), (0, .ref bo), (1, .ref ra), (3, .int (nI (v_1 % B))), (4, .int (nI (v_2 % S))), (7, .int (nI (T + (v_4 % 20)))), (17, .int (nI P)), (19, .int (nI (1 + (v_31 % 12)))), (20, .int (nI (T + (v_4 % 20) + i)))]) hx hb dL_act_527 hl (by decide) rfl (fun ls hl => ?_)
                    refine lv_iinc (v := nI (T + (v_4 % 20) + i + 1)) (lv' := [(20, .int (nI (T + (v_4 % 20) + i + 1))), (18, .int 0), (21, .int (-1)), (0, .ref bo), (1, .ref ra), (3, .int (nI (v_1 % B))), (4, .int (nI (v_2 % S))), (7, .int (nI (T + (v_4 % 20)))), (17, .int (nI P)), (19, .int (nI (1 + (v_31 % 12))))]) hx hb dL_act_529 hl (k := 9) rfl (nx_add rfl rfl) (by decide) rfl (fun ls hl => ?_)
                    refine lv_goto (tgt := 479) hx hb dL_act_532 (by decide) ?_
                    exact ih_479 qP (by omega) (i + 1) 0 _ _ _ (by omega) (Or.inl ⟨rfl, (hqP.resolve_right (fun z => z.1 c_66)).2.1, fun j2 h2 => (Nat.lt_succ_iff_lt_or_eq.mp h2).elim ((hqP.resolve_right (fun z => z.1 c_66)).2.2 j2) (fun e2 => by subst e2; exact fun ⟨l2, h5, h6, h7⟩ => nI_nm1 (k := l2) (by omega) (h6.symm.trans hyh))⟩) hM (lv_sub hl [3, 4, 5, 6, 7, 8, 9, 1, 0] rfl)
                  · exact absurd c_67 (by decide)
              · skip
                refine lv_istore (lv' := [(21, .int (nI j)), (0, .ref bo), (1, .ref ra), (3, .int (nI (v_1 % B))), (4, .int (nI (v_2 % S))), (7, .int (nI (T + (v_4 % 20)))), (17, .int (nI P)), (19, .int (nI (1 + (v_31 % 12)))), (18, .int tk), (20, .int (nI (T + (v_4 % 20) + i)))]) hx hb dL_act_495 hl (by decide) rfl (fun ls hl => ?_)
                refine lv_iload hx hb dL_act_497 (lv_at hl 8 rfl) ?_
                refine lv_if_ne (tgt := 522) hx hb dL_act_499 (by decide) (fun c_68 => ?_) (fun c_68 => ?_)
                · refine lv_iconst (v := 1) hx hb dL_act_522 (by decide) ?_
                  refine lv_goto (tgt := 527) hx hb dL_act_523 (by decide) ?_
                  refine lv_istore (lv' := [(18, .int 1), (21, .int (nI j)), (0, .ref bo), (1, .ref ra), (3, .int (nI (v_1 % B))), (4, .int (nI (v_2 % S))), (7, .int (nI (T + (v_4 % 20)))), (17, .int (nI P)), (19, .int (nI (1 + (v_31 % 12)))), (20, .int (nI (T + (v_4 % 20) + i)))]) hx hb dL_act_527 hl (by decide) rfl (fun ls hl => ?_)
                  refine lv_iinc (v := nI (T + (v_4 % 20) + i + 1)) (lv' := [(20, .int (nI (T + (v_4 % 20) + i + 1))), (18, .int 1), (21, .int (nI j)), (0, .ref bo), (1, .ref ra), (3, .int (nI (v_1 % B))), (4, .int (nI (v_2 % S))), (7, .int (nI (T + (v_4 % 20)))), (17, .int (nI P)), (19, .int (nI (1 + (v_31 % 12))))]) hx hb dL_act_529 hl (k := 9) rfl (nx_add rfl rfl) (by decide) rfl (fun ls hl => ?_)
                  refine lv_goto (tgt := 479) hx hb dL_act_532 (by decide) ?_
                  exact ih_479 qP (by omega) (i + 1) 1 _ _ _ (by omega) (Or.inr ⟨by decide, (hqP.resolve_left (fun z => c_68 z.1)).2.imp id (fun ⟨j, hj, h⟩ => ⟨j, by omega, h⟩)⟩) hM (lv_sub hl [3, 4, 5, 6, 7, 8, 9, 1, 0] rfl)
                · refine lv_iload hx hb dL_act_502 (lv_at hl 0 rfl) ?_
                  refine lv_if_lt (tgt := 526) hx hb dL_act_504 (by decide) (fun c_69 => ?_) (fun c_69 => ?_)
                  · exact absurd c_69 (nI_pos (by omega))
                  · have c_69q := Int32.not_lt.mp c_69
                    refine lv_aload_n hx hb dL_act_507 rfl (lv_at hl 1 rfl) ?_
                    refine lv_aload_n hx hb dL_act_508 rfl (lv_at hl 1 rfl) ?_
                    refine lv_iload hx hb dL_act_509 (lv_at hl 0 rfl) ?_
                    refine me_callVi (As := [.int (nI j)]) (rest := [.ref bo]) hC hl.1 hM (c_X7_borrowerOf l D tb X z0 n_31 bo g G F sf inp out (me_up M0 ra (.inl (tb 0, 1, .inl f_31))) S B L P j hW (by omega)) (kv_L_140 hw rfl rfl ⟨Nat.le_of_ble_eq_true rfl, Nat.le_of_ble_eq_true rfl⟩) rfl rfl (bq_at h_b) rfl (Nat.le_of_ble_eq_true rfl) dL_act_511 ⟨Nat.le_of_ble_eq_true rfl, Nat.le_of_ble_eq_true rfl⟩ (fun H locs hM => ?_)
                    have hb_ := (hW.2.2.2.2.2.2.2.2.2 j (by omega)).2
                    refine me_evi (y := nI (ow g j)) (hW.2.2.2.2.2.2.2.2.2 j (by omega)).1 ?_
                    refine me_callVi (As := [.int (nI (ow g j))]) (rest := []) hC hl.1 hM (c_X7_streetOf l D tb X z0 n_31 bo g G F sf inp out (me_up M0 ra (.inl (tb 0, 1, .inl f_31))) S B L P (ow g j) hW (by omega)) (kv_L_128 hw rfl rfl ⟨Nat.le_of_ble_eq_true rfl, Nat.le_of_ble_eq_true rfl⟩) rfl rfl (bq_at h_b) rfl (Nat.le_of_ble_eq_true rfl) dL_act_514 ⟨Nat.le_of_ble_eq_true rfl, Nat.le_of_ble_eq_true rfl⟩ (fun H locs hM => ?_)
                    have hb_ := (hW.2.2.2.2.2.2.2.2.1 (ow g j) (by omega)).2
                    refine me_evi (y := nI (hm g (ow g j))) (hW.2.2.2.2.2.2.2.2.1 (ow g j) (by omega)).1 ?_
                    refine lv_iload hx hb dL_act_517 (lv_at hl 4 rfl) ?_
                    refine lv_icmp_ne (tgt := 526) hx hb dL_act_519 (by decide) (fun c_70 => ?_) (fun c_70 => ?_)
                    · have c_70 := (not_congr (br_eq rfl rfl (by omega) (by omega))).mp c_70
                      refine lv_iconst (v := 0) hx hb dL_act_526 (by decide) ?_
                      refine lv_istore (lv' := [(18, .int 0), (21, .int (nI j)), (0, .ref bo), (1, .ref ra), (3, .int (nI (v_1 % B))), (4, .int (nI (v_2 % S))), (7, .int (nI (T + (v_4 % 20)))), (17, .int (nI P)), (19, .int (nI (1 + (v_31 % 12)))), (20, .int (nI (T + (v_4 % 20) + i)))]) hx hb dL_act_527 hl (by decide) rfl (fun ls hl => ?_)
                      refine lv_iinc (v := nI (T + (v_4 % 20) + i + 1)) (lv' := [(20, .int (nI (T + (v_4 % 20) + i + 1))), (18, .int 0), (21, .int (nI j)), (0, .ref bo), (1, .ref ra), (3, .int (nI (v_1 % B))), (4, .int (nI (v_2 % S))), (7, .int (nI (T + (v_4 % 20)))), (17, .int (nI P)), (19, .int (nI (1 + (v_31 % 12))))]) hx hb dL_act_529 hl (k := 9) rfl (nx_add rfl rfl) (by decide) rfl (fun ls hl => ?_)
                      refine lv_goto (tgt := 479) hx hb dL_act_532 (by decide) ?_
                      exact ih_479 qP (by omega) (i + 1) 0 _ _ _ (by omega) (Or.inl ⟨rfl, (hqP.resolve_right (fun z => z.1 c_68)).2.1, fun j2 h2 => (Nat.lt_succ_iff_lt_or_eq.mp h2).elim ((hqP.resolve_right (fun z => z.1 c_68)).2.2 j2) (fun e2 => by subst e2; exact fun ⟨l2, h5, h6, h7⟩ => c_70 ((show l2 = j from (nI_eq (by omega) (by omega)).mp (h6.symm.trans hyh)) ▸ h7))⟩) hM (lv_sub hl [3, 4, 5, 6, 7, 8, 9, 1, 0] rfl)
                    · have c_70 := (br_eq rfl rfl (by omega) (by omega)).mp c_70
                      refine lv_iconst (v := 1) hx hb dL_act_522 (by decide) ?_
                      refine lv_goto (tgt := 527) hx hb dL_act_523 (by decide) ?_
                      refine lv_istore (lv' := [(18, .int 1), (21, .int (nI j)), (0, .ref bo), (1, .ref ra), (3, .int (nI (v_1 % B))), (4, .int (nI (v_2 % S))), (7, .int (nI (T + (v_4 % 20)))), (17, .int (nI P)), (19, .int (nI (1 + (v_31 % 12)))), (20, .int (nI (T + (v_4 % 20) + i)))]) hx hb dL_act_527 hl (by decide) rfl (fun ls hl => ?_)
                      refine lv_iinc (v := nI (T + (v_4 % 20) + i + 1)) (lv' := [(20, .int (nI (T + (v_4 % 20) + i + 1))), (18, .int 1), (21, .int (nI j)), (0, .ref bo), (1, .ref ra), (3, .int (nI (v_1 % B))), (4, .int (nI (v_2 % S))), (7, .int (nI (T + (v_4 % 20)))), (17, .int (nI P)), (19, .int (nI (1 + (v_31 % 12))))]) hx hb dL_act_529 hl (k := 9) rfl (nx_add rfl rfl) (by decide) rfl (fun ls hl => ?_)
                      refine lv_goto (tgt := 479) hx hb dL_act_532 (by decide) ?_
                      exact ih_479 qP (by omega) (i + 1) 1 _ _ _ (by omega) (Or.inr ⟨by decide, Or.inr ⟨i, by omega, j, hj, hyh, c_70⟩⟩) hM (lv_sub hl [3, 4, 5, 6, 7, 8, 9, 1, 0] rfl)
          exact lp_479 (1 + (v_31 % 12)) 0 1 _ _ _ (by omega) (Or.inr ⟨by decide, Or.inl c_46⟩) hM (lv_sub hl [10, 11, 8, 7, 4, 3, 1, 2, 0] rfl)
      · refine me_evi (y := 6) c_3 ?_
        refine lv_tableIn (tgt := 603) hx hb dL_act_79 (by decide) (by decide) (off := 524) (by decide) (by decide) ?_
        refine lv_aload_n hx hb dL_act_603 rfl (lv_at hl 6 rfl) ?_
        refine lv_aload_n hx hb dL_act_604 rfl (lv_at hl 7 rfl) ?_
        refine me_callSp (As := [.ref ra]) (rest := [.ref bo]) hC hl.1 hM (c_L_next l D tb X z0 n_5 ra f_5 (sp tb (bo + 722) g (bq tb bo G F sf inp out (me_up M0 ra (.inl (tb 0, 1, .inl f_5))))) (bq_some hra (me_up_s _ _ _))) (ks_L_79 hw rfl rfl ⟨Nat.le_of_ble_eq_true rfl, Nat.le_of_ble_eq_true rfl⟩) rfl rfl (Nat.le_of_ble_eq_true rfl) dL_act_605 ⟨Nat.le_of_ble_eq_true rfl, Nat.le_of_ble_eq_true rfl⟩ (fun r_35 M_35 hP_35 H locs n_35 hM => ?_)
        obtain ⟨v_35, f_35, rfl, hv_35, rfl⟩ := hP_35
        have hM := hM.eq (bq_upo hra)
        refine lv_bipush (v := 10) hx hb dL_act_608 (by decide) ?_
        refine lv_irem hx hb dL_act_610 (by decide) ?_
        refine me_evi (y := nI (v_35 % 10)) (nx_rem 10 rfl (by omega) (by omega) (by omega)) ?_
        have hem := rv_cases g P (v_35 % 10)
        rcases hem with hrv | hrv | hrv
        · skip
          refine me_callSnp (nA := 2) (As := [.ref bo, .int (nI (v_35 % 10))]) (rest := []) hC hl.1 hM (c_L_revoked_x1 (mc := 1) (ms := 6) l D tb X z0 n_35 bo (nI (v_35 % 10)) hCE rfl rfl ⟨Nat.le_of_ble_eq_true rfl, Nat.le_of_ble_eq_true rfl⟩ (bq_at h_b) (c_X7_revokePermit_x1 l D tb X z0 n_35 bo g G F sf inp out (me_up M0 ra (.inl (tb 0, 1, .inl f_35))) S B L P (nI (v_35 % 10)) hfl hXs hW (Or.inr (by rw [hW.2.2.2.2.2.2.1]; exact nI_le hrv (by omega))))) w_820 w_821 w_0 w_822 (by decide +kernel) rfl rfl ⟨Nat.le_of_ble_eq_true rfl, Nat.le_of_ble_eq_true rfl⟩ rfl rfl (Nat.le_of_ble_eq_true rfl) dL_act_611 ⟨Nat.le_of_ble_eq_true rfl, Nat.le_of_ble_eq_true rfl⟩ (fun r_36 M_36 hP_36 H locs n_36 hM => ?_)
          obtain ⟨rfl, rfl⟩ := hP_36
          refine lv_istore (lv' := [(21, .int (-5)), (7, .int (nI (T + (v_4 % 20)))), (6, .int (nI sv)), (5, .int (nI (v_3 % L))), (4, .int (nI (v_2 % S))), (3, .int (nI (v_1 % B))), (2, .int (nI L)), (0, .ref bo), (1, .ref ra)]) hx hb dL_act_614 hl (by decide) rfl (fun ls hl => ?_)
          refine lv_iload hx hb dL_act_616 (lv_at hl 0 rfl) ?_
          refine lv_if_lt (tgt := 638) hx hb dL_act_618 (by decide) (fun c_71 => ?_) (fun c_71 => ?_)
          · have c_71q := Int32.not_le.mpr c_71
            refine lv_aload_n hx hb dL_act_638 rfl (lv_at hl 7 rfl) ?_
            refine lv_iload_n hx hb dL_act_639 rfl (lv_at hl 5 rfl) ?_
            refine lv_iconst (v := 5) hx hb dL_act_640 (by decide) ?_
            refine me_callSnp (nA := 3) (As := [.ref bo, .int (nI (v_1 % B)), .int 5]) (rest := []) hC hl.1 hM (c_L_paid (mc := 0) (ms := 0) l D tb X z0 n_36 bo (nI (v_1 % B)) 5 rfl rfl ⟨Nat.le_of_ble_eq_true rfl, Nat.le_of_ble_eq_true rfl⟩ (bq_at h_b) (c_X7_pay l D tb X z0 n_36 bo g G F sf inp out (me_up M0 ra (.inl (tb 0, 1, .inl f_35))) S B L P nx ct (v_1 % B) 5 hW hnx hnx0 hct hct0 (by omega) (by decide) (by decide))) w_833 w_834 w_0 w_835 (by decide +kernel) rfl rfl ⟨Nat.le_of_ble_eq_true rfl, Nat.le_of_ble_eq_true rfl⟩ rfl rfl (Nat.le_of_ble_eq_true rfl) dL_act_641 ⟨Nat.le_of_ble_eq_true rfl, Nat.le_of_ble_eq_true rfl⟩ (fun r_37 M_37 hP_37 H locs n_37 hM => ?_)
            obtain ⟨rfl, rfl⟩ := hP_37
            refine lv_sipush (v := (-9999)) hx hb dL_act_644 (by decide) ?_
            refine lv_icmp_le (tgt := 654) hx hb dL_act_647 (by decide) (fun c_72 => ?_) (fun c_72 => ?_)
            · have c_72q := c_72
              have c_72 := Int32.not_lt.mpr c_72
              exact absurd c_72q (a3 _ _ (by omega) (by decide))
            · have c_72q := c_72
              have c_72 := Int32.not_le.mp c_72
              refine lv_iconst (v := 1) hx hb dL_act_650 (by decide) ?_
              refine lv_goto (tgt := 655) hx hb dL_act_651 (by decide) ?_
              refine W.widen (k := 8) (n := 60) (by omega) (by omega) ?_
              exact me_pret hC hr hlk hM (⟨_, _, _, _, _, rfl, Or.inr (Or.inr (Or.inr (Or.inr (Or.inr (Or.inl (⟨v_1 % B, 5, by omega, by decide, by decide, rfl, rfl, rfl, rfl⟩)))))), rfl⟩) (rfl) dL_act_655
          · exact absurd c_71 (by decide)
        · skip
          refine me_callSnp (nA := 2) (As := [.ref bo, .int (nI (v_35 % 10))]) (rest := []) hC hl.1 hM (c_L_revoked_x2 (mc := 1) (ms := 6) l D tb X z0 n_35 bo (nI (v_35 % 10)) hCE rfl rfl ⟨Nat.le_of_ble_eq_true rfl, Nat.le_of_ble_eq_true rfl⟩ (bq_at h_b) (c_X7_revokePermit_x2 l D tb X z0 n_35 bo g G F sf inp out (me_up M0 ra (.inl (tb 0, 1, .inl f_35))) S B L P (v_35 % 10) hfl hXs hW hrv.1 hrv.2)) w_820 w_821 w_0 w_822 (by decide +kernel) rfl rfl ⟨Nat.le_of_ble_eq_true rfl, Nat.le_of_ble_eq_true rfl⟩ rfl rfl (Nat.le_of_ble_eq_true rfl) dL_act_611 ⟨Nat.le_of_ble_eq_true rfl, Nat.le_of_ble_eq_true rfl⟩ (fun r_38 M_38 hP_38 H locs n_38 hM => ?_)
          obtain ⟨rfl, rfl⟩ := hP_38
          refine lv_istore (lv' := [(21, .int (-3)), (7, .int (nI (T + (v_4 % 20)))), (6, .int (nI sv)), (5, .int (nI (v_3 % L))), (4, .int (nI (v_2 % S))), (3, .int (nI (v_1 % B))), (2, .int (nI L)), (0, .ref bo), (1, .ref ra)]) hx hb dL_act_614 hl (by decide) rfl (fun ls hl => ?_)
          refine lv_iload hx hb dL_act_616 (lv_at hl 0 rfl) ?_
          refine lv_if_lt (tgt := 638) hx hb dL_act_618 (by decide) (fun c_73 => ?_) (fun c_73 => ?_)
          · have c_73q := Int32.not_le.mpr c_73
            refine lv_aload_n hx hb dL_act_638 rfl (lv_at hl 7 rfl) ?_
            refine lv_iload_n hx hb dL_act_639 rfl (lv_at hl 5 rfl) ?_
            refine lv_iconst (v := 5) hx hb dL_act_640 (by decide) ?_
            refine me_callSnp (nA := 3) (As := [.ref bo, .int (nI (v_1 % B)), .int 5]) (rest := []) hC hl.1 hM (c_L_paid (mc := 0) (ms := 0) l D tb X z0 n_38 bo (nI (v_1 % B)) 5 rfl rfl ⟨Nat.le_of_ble_eq_true rfl, Nat.le_of_ble_eq_true rfl⟩ (bq_at h_b) (c_X7_pay l D tb X z0 n_38 bo g G F sf inp out (me_up M0 ra (.inl (tb 0, 1, .inl f_35))) S B L P nx ct (v_1 % B) 5 hW hnx hnx0 hct hct0 (by omega) (by decide) (by decide))) w_833 w_834 w_0 w_835 (by decide +kernel) rfl rfl ⟨Nat.le_of_ble_eq_true rfl, Nat.le_of_ble_eq_true rfl⟩ rfl rfl (Nat.le_of_ble_eq_true rfl) dL_act_641 ⟨Nat.le_of_ble_eq_true rfl, Nat.le_of_ble_eq_true rfl⟩ (fun r_39 M_39 hP_39 H locs n_39 hM => ?_)
            obtain ⟨rfl, rfl⟩ := hP_39
            refine lv_sipush (v := (-9999)) hx hb dL_act_644 (by decide) ?_
            refine lv_icmp_le (tgt := 654) hx hb dL_act_647 (by decide) (fun c_74 => ?_) (fun c_74 => ?_)
            · have c_74q := c_74
              have c_74 := Int32.not_lt.mpr c_74
              exact absurd c_74q (a3 _ _ (by omega) (by decide))
            · have c_74q := c_74
              have c_74 := Int32.not_le.mp c_74
              refine lv_iconst (v := 1) hx hb dL_act_650 (by decide) ?_
              refine lv_goto (tgt := 655) hx hb dL_act_651 (by decide) ?_
              refine W.widen (k := 8) (n := 60) (by omega) (by omega) ?_
              exact me_pret hC hr hlk hM (⟨_, _, _, _, _, rfl, Or.inr (Or.inr (Or.inr (Or.inr (Or.inr (Or.inl (⟨v_1 % B, 5, by omega, by decide, by decide, rfl, rfl, rfl, rfl⟩)))))), rfl⟩) (rfl) dL_act_655
          · exact absurd c_73 (by decide)
        · skip
          refine me_callSnp (nA := 2) (As := [.ref bo, .int (nI (v_35 % 10))]) (rest := []) hC hl.1 hM (c_L_revoked (mc := 0) (ms := 0) l D tb X z0 n_35 bo (nI (v_35 % 10)) rfl rfl ⟨Nat.le_of_ble_eq_true rfl, Nat.le_of_ble_eq_true rfl⟩ (bq_at h_b) (c_X7_revokePermit l D tb X z0 n_35 bo g G F sf inp out (me_up M0 ra (.inl (tb 0, 1, .inl f_35))) S B L P nx ct (v_35 % 10) hW hnx hnx0 hct hct0 hrv.1 hrv.2)) w_820 w_821 w_0 w_822 (by decide +kernel) rfl rfl ⟨Nat.le_of_ble_eq_true rfl, Nat.le_of_ble_eq_true rfl⟩ rfl rfl (Nat.le_of_ble_eq_true rfl) dL_act_611 ⟨Nat.le_of_ble_eq_true rfl, Nat.le_of_ble_eq_true rfl⟩ (fun r_40 M_40 hP_40 H locs n_40 hM => ?_)
          obtain ⟨rfl, rfl⟩ := hP_40
          have hW2 := wf_rv (k := v_35 % 10) hW hrv.1
          have hT2 : (rvG (v_35 % 10) g) 2 = nI T := by unfold rvG; rw [upd_n (by omega)]; exact hT
          have hco := co_lt (P := fun k2 => bz (rvG (v_35 % 10) g (221 + 4 * k2 + 3)) = 0) P 0 (v_35 % 10) (by omega) (by omega) (by show ¬ bz (rvG (v_35 % 10) g (221 + 4 * (v_35 % 10) + 3)) = 0; unfold rvG; rw [upd_s, bz_1]; decide)
          refine lv_istore (lv' := [(21, .int (nI (co (fun k2 => bz (rvG (v_35 % 10) g (221 + 4 * k2 + 3)) = 0) P 0))), (7, .int (nI (T + (v_4 % 20)))), (6, .int (nI sv)), (5, .int (nI (v_3 % L))), (4, .int (nI (v_2 % S))), (3, .int (nI (v_1 % B))), (2, .int (nI L)), (0, .ref bo), (1, .ref ra)]) hx hb dL_act_614 hl (by decide) rfl (fun ls hl => ?_)
          refine lv_iload hx hb dL_act_616 (lv_at hl 0 rfl) ?_
          refine lv_if_lt (tgt := 638) hx hb dL_act_618 (by decide) (fun c_75 => ?_) (fun c_75 => ?_)
          · exact absurd c_75 (nI_pos (by omega))
          · have c_75q := Int32.not_lt.mp c_75
            refine lv_iload hx hb dL_act_621 (lv_at hl 0 rfl) ?_
            refine lv_aload_n hx hb dL_act_623 rfl (lv_at hl 7 rfl) ?_
            refine me_callVi (As := []) (rest := [.int (nI (co (fun k2 => bz (rvG (v_35 % 10) g (221 + 4 * k2 + 3)) = 0) P 0))]) hC hl.1 hM (c_X7_permitCount l D tb X z0 n_40 bo (rvG (v_35 % 10) g) (recG G g S B L P nx) (recF F nx ct) sf inp out (me_up M0 ra (.inl (tb 0, 1, .inl f_35))) S B L P  ) (kv_L_107 hw rfl rfl ⟨Nat.le_of_ble_eq_true rfl, Nat.le_of_ble_eq_true rfl⟩) rfl rfl (bq_at h_b) rfl (Nat.le_of_ble_eq_true rfl) dL_act_624 ⟨Nat.le_of_ble_eq_true rfl, Nat.le_of_ble_eq_true rfl⟩ (fun H locs hM => ?_)
            refine me_evi (y := nI P) hW2.2.2.2.2.2.2.1 ?_
            refine lv_icmp_ge (tgt := 634) hx hb dL_act_627 (by decide) (fun c_76 => ?_) (fun c_76 => ?_)
            · have c_76 := (br_le rfl rfl (by omega) (by omega)).mp c_76
              exfalso; omega
            · have c_76 := (not_congr (br_le rfl rfl (by omega) (by omega))).mp c_76
              refine lv_iconst (v := 1) hx hb dL_act_630 (by decide) ?_
              refine lv_goto (tgt := 655) hx hb dL_act_631 (by decide) ?_
              refine W.widen (k := 8) (n := 60) (by omega) (by omega) ?_
              exact me_pret hC hr hlk hM (⟨_, _, _, _, _, rfl, Or.inr (Or.inr (Or.inr (Or.inr (Or.inl (⟨_, hrv.1, hrv.2, rfl, rfl, rfl, rfl⟩))))), rfl⟩) (rfl) dL_act_655
      · refine me_evi (y := 7) c_3 ?_
        refine lv_tableOut (tgt := 656) hx hb dL_act_79 (by decide) (by decide) ?_
        refine lv_iconst (v := 1) hx hb dL_act_656 (by decide) ?_
        refine lv_aload_n hx hb dL_act_657 rfl (lv_at hl 7 rfl) ?_
        refine me_callSp (As := [.ref ra]) (rest := [.int 1]) hC hl.1 hM (c_L_next l D tb X z0 n_5 ra f_5 (sp tb (bo + 722) g (bq tb bo G F sf inp out (me_up M0 ra (.inl (tb 0, 1, .inl f_5))))) (bq_some hra (me_up_s _ _ _))) (ks_L_79 hw rfl rfl ⟨Nat.le_of_ble_eq_true rfl, Nat.le_of_ble_eq_true rfl⟩) rfl rfl (Nat.le_of_ble_eq_true rfl) dL_act_658 ⟨Nat.le_of_ble_eq_true rfl, Nat.le_of_ble_eq_true rfl⟩ (fun r_41 M_41 hP_41 H locs n_41 hM => ?_)
        obtain ⟨v_41, f_41, rfl, hv_41, rfl⟩ := hP_41
        have hM := hM.eq (bq_upo hra)
        refine lv_bipush (v := 12) hx hb dL_act_661 (by decide) ?_
        refine lv_irem hx hb dL_act_663 (by decide) ?_
        refine me_evi (y := nI (v_41 % 12)) (nx_rem 12 rfl (by omega) (by omega) (by omega)) ?_
        refine lv_iadd hx hb dL_act_664 ?_
        refine me_evi (y := nI (1 + (v_41 % 12))) (nx_add (show (1 : Int32) = nI 1 from rfl) rfl) ?_
        refine lv_istore (lv' := [(22, .int (nI (1 + (v_41 % 12)))), (7, .int (nI (T + (v_4 % 20)))), (6, .int (nI sv)), (5, .int (nI (v_3 % L))), (4, .int (nI (v_2 % S))), (3, .int (nI (v_1 % B))), (2, .int (nI L)), (0, .ref bo), (1, .ref ra)]) hx hb dL_act_665 hl (by decide) rfl (fun ls hl => ?_)
        refine lv_aload_n hx hb dL_act_667 rfl (lv_at hl 7 rfl) ?_
        refine lv_iload_n hx hb dL_act_668 rfl (lv_at hl 5 rfl) ?_
        refine lv_iload hx hb dL_act_669 (lv_at hl 0 rfl) ?_
        have hfr_ := bq_fresh hM
        have hM0_ := hM
        refine me_callVi (As := [.int (nI (v_1 % B)), .int (nI (1 + (v_41 % 12)))]) (rest := []) hC hl.1 hM (c_X7_illnessAfter l D tb X z0 n_41 bo g G F sf inp out (me_up M0 ra (.inl (tb 0, 1, .inl f_41))) S B L P hN (v_1 % B) (1 + (v_41 % 12)) hW (by omega) (by omega) (bq_lt hM)) (kv_L_137 hw rfl rfl ⟨Nat.le_of_ble_eq_true rfl, Nat.le_of_ble_eq_true rfl⟩) rfl rfl (bq_at h_b) rfl (Nat.le_of_ble_eq_true rfl) dL_act_671 ⟨Nat.le_of_ble_eq_true rfl, Nat.le_of_ble_eq_true rfl⟩ (fun H locs hM => ?_)
        have hM := bq_drop hfr_ (bq_lt hM0_) hM
        refine lv_istore (lv' := [(23, .int (fcF g L P (v_1 % B) (1 + (v_41 % 12)))), (22, .int (nI (1 + (v_41 % 12)))), (7, .int (nI (T + (v_4 % 20)))), (6, .int (nI sv)), (5, .int (nI (v_3 % L))), (4, .int (nI (v_2 % S))), (3, .int (nI (v_1 % B))), (2, .int (nI L)), (0, .ref bo), (1, .ref ra)]) hx hb dL_act_674 hl (by decide) rfl (fun ls hl => ?_)
        refine lv_aload_n hx hb dL_act_676 rfl (lv_at hl 8 rfl) ?_
        refine me_callVi (As := []) (rest := []) hC hl.1 hM (c_X7_clock l D tb X z0 (n_41 + 1) bo g G F sf inp out (me_up M0 ra (.inl (tb 0, 1, .inl f_41))) S B L P  ) (kv_L_104 hw rfl rfl ⟨Nat.le_of_ble_eq_true rfl, Nat.le_of_ble_eq_true rfl⟩) rfl rfl (bq_at h_b) rfl (Nat.le_of_ble_eq_true rfl) dL_act_677 ⟨Nat.le_of_ble_eq_true rfl, Nat.le_of_ble_eq_true rfl⟩ (fun H locs hM => ?_)
        refine me_evi (y := nI T) hT ?_
        refine lv_istore (lv' := [(24, .int (nI T)), (23, .int (fcF g L P (v_1 % B) (1 + (v_41 % 12)))), (22, .int (nI (1 + (v_41 % 12)))), (7, .int (nI (T + (v_4 % 20)))), (6, .int (nI sv)), (5, .int (nI (v_3 % L))), (4, .int (nI (v_2 % S))), (3, .int (nI (v_1 % B))), (2, .int (nI L)), (0, .ref bo), (1, .ref ra)]) hx hb dL_act_680 hl (by decide) rfl (fun ls hl => ?_)
        refine lv_aload_n hx hb dL_act_682 rfl (lv_at hl 9 rfl) ?_
        refine lv_iconst (v := 4) hx hb dL_act_683 (by decide) ?_
        refine me_callVi (As := [.int 4]) (rest := []) hC hl.1 hM (c_X7_loansWith l D tb X z0 (n_41 + 1) bo g G F sf inp out (me_up M0 ra (.inl (tb 0, 1, .inl f_41))) S B L P 4 hW (by omega)) (kv_L_219 hw rfl rfl ⟨Nat.le_of_ble_eq_true rfl, Nat.le_of_ble_eq_true rfl⟩) rfl rfl (bq_at h_b) rfl (Nat.le_of_ble_eq_true rfl) dL_act_684 ⟨Nat.le_of_ble_eq_true rfl, Nat.le_of_ble_eq_true rfl⟩ (fun H locs hM => ?_)
        refine lv_istore (lv' := [(25, .int (nI (co (fun k => g (261 + 5 * k + 4) = nI 4) L 0))), (24, .int (nI T)), (23, .int (fcF g L P (v_1 % B) (1 + (v_41 % 12)))), (22, .int (nI (1 + (v_41 % 12)))), (7, .int (nI (T + (v_4 % 20)))), (6, .int (nI sv)), (5, .int (nI (v_3 % L))), (4, .int (nI (v_2 % S))), (3, .int (nI (v_1 % B))), (2, .int (nI L)), (0, .ref bo), (1, .ref ra)]) hx hb dL_act_687 hl (by decide) rfl (fun ls hl => ?_)
        refine lv_aload_n hx hb dL_act_689 rfl (lv_at hl 10 rfl) ?_
        refine lv_iload hx hb dL_act_690 (lv_at hl 7 rfl) ?_
        refine me_callVi (As := [.int (nI (v_2 % S))]) (rest := []) hC hl.1 hM (c_X7_noiseNow l D tb X z0 (n_41 + 1) bo g G F sf inp out (me_up M0 ra (.inl (tb 0, 1, .inl f_41))) S B L P hN (v_2 % S) hW (by omega)) (kv_L_122 hw rfl rfl ⟨Nat.le_of_ble_eq_true rfl, Nat.le_of_ble_eq_true rfl⟩) rfl rfl (bq_at h_b) rfl (Nat.le_of_ble_eq_true rfl) dL_act_692 ⟨Nat.le_of_ble_eq_true rfl, Nat.le_of_ble_eq_true rfl⟩ (fun H locs hM => ?_)
        refine lv_istore (lv' := [(26, .int (noF g L P (v_2 % S) (g 2))), (25, .int (nI (co (fun k => g (261 + 5 * k + 4) = nI 4) L 0))), (24, .int (nI T)), (23, .int (fcF g L P (v_1 % B) (1 + (v_41 % 12)))), (22, .int (nI (1 + (v_41 % 12)))), (7, .int (nI (T + (v_4 % 20)))), (6, .int (nI sv)), (5, .int (nI (v_3 % L))), (4, .int (nI (v_2 % S))), (3, .int (nI (v_1 % B))), (2, .int (nI L)), (0, .ref bo), (1, .ref ra)]) hx hb dL_act_695 hl (by decide) rfl (fun ls hl => ?_)
        refine lv_aload_n hx hb dL_act_697 rfl (lv_at hl 11 rfl) ?_
        refine lv_iload hx hb dL_act_698 (lv_at hl 8 rfl) ?_
        refine me_callVi (As := [.int (nI (v_2 % S))]) (rest := []) hC hl.1 hM (c_X7_noiseTotal l D tb X z0 (n_41 + 1) bo g G F sf inp out (me_up M0 ra (.inl (tb 0, 1, .inl f_41))) S B L P (v_2 % S) hW (by omega)) (kv_L_116 hw rfl rfl ⟨Nat.le_of_ble_eq_true rfl, Nat.le_of_ble_eq_true rfl⟩) rfl rfl (bq_at h_b) rfl (Nat.le_of_ble_eq_true rfl) dL_act_700 ⟨Nat.le_of_ble_eq_true rfl, Nat.le_of_ble_eq_true rfl⟩ (fun H locs hM => ?_)
        refine lv_istore (lv' := [(27, .int (g (9 + 10 * (v_2 % S) + 2))), (26, .int (noF g L P (v_2 % S) (g 2))), (25, .int (nI (co (fun k => g (261 + 5 * k + 4) = nI 4) L 0))), (24, .int (nI T)), (23, .int (fcF g L P (v_1 % B) (1 + (v_41 % 12)))), (22, .int (nI (1 + (v_41 % 12)))), (7, .int (nI (T + (v_4 % 20)))), (6, .int (nI sv)), (5, .int (nI (v_3 % L))), (4, .int (nI (v_2 % S))), (3, .int (nI (v_1 % B))), (2, .int (nI L)), (0, .ref bo), (1, .ref ra)]) hx hb dL_act_703 hl (by decide) rfl (fun ls hl => ?_)
        refine lv_aload_n hx hb dL_act_705 rfl (lv_at hl 12 rfl) ?_
        refine lv_iload hx hb dL_act_706 (lv_at hl 5 rfl) ?_
        refine me_callSnp (nA := 2) (As := [.ref bo, .int (nI (1 + (v_41 % 12)))]) (rest := []) hC hl.1 hM (c_L_advanced (mc := 0) (ms := 0) l D tb X z0 (n_41 + 1) bo (nI (1 + (v_41 % 12))) rfl rfl ⟨Nat.le_of_ble_eq_true rfl, Nat.le_of_ble_eq_true rfl⟩ (bq_at h_b) (c_X7_advance l D tb X z0 (n_41 + 1) bo g G F sf inp out (me_up M0 ra (.inl (tb 0, 1, .inl f_41))) S B L P T nx ct hN (1 + (v_41 % 12)) hW hT hT0 hnx hnx0 hct hct0 (by omega) (by omega) (by omega))) w_842 w_843 w_0 w_844 (by decide +kernel) rfl rfl ⟨Nat.le_of_ble_eq_true rfl, Nat.le_of_ble_eq_true rfl⟩ rfl rfl (Nat.le_of_ble_eq_true rfl) dL_act_708 ⟨Nat.le_of_ble_eq_true rfl, Nat.le_of_ble_eq_true rfl⟩ (fun r_42 M_42 hP_42 H locs n_42 hM => ?_)
        obtain ⟨rfl, rfl⟩ := hP_42
        have hW2 := wf_pa (1 + (v_41 % 12)) g hW
        have hT2 := a7 (1 + (v_41 % 12)) (by omega) (by omega)
        have hT3 : T + (1 + (v_41 % 12)) ≤ 10000 := by omega
        have hpn := Nat.le_trans (chN_paN S B L P (1 + (v_41 % 12)) g) (Nat.mul_le_mul (show (1 + (v_41 % 12)) ≤ 12 by omega) hL0)
        have hc1 := co_le (fun k => g (261 + 5 * k + 4) = nI 4) L 0
        have hc2 := co_le (fun k => (paG S B L P (1 + (v_41 % 12)) g) (261 + 5 * k + 4) = nI 4) L 0
        refine lv_istore (lv' := [(28, .int (nI (paN S B L P (1 + (v_41 % 12)) g))), (27, .int (g (9 + 10 * (v_2 % S) + 2))), (26, .int (noF g L P (v_2 % S) (g 2))), (25, .int (nI (co (fun k => g (261 + 5 * k + 4) = nI 4) L 0))), (24, .int (nI T)), (23, .int (fcF g L P (v_1 % B) (1 + (v_41 % 12)))), (22, .int (nI (1 + (v_41 % 12)))), (7, .int (nI (T + (v_4 % 20)))), (6, .int (nI sv)), (5, .int (nI (v_3 % L))), (4, .int (nI (v_2 % S))), (3, .int (nI (v_1 % B))), (2, .int (nI L)), (0, .ref bo), (1, .ref ra)]) hx hb dL_act_711 hl (by decide) rfl (fun ls hl => ?_)
        refine lv_aload_n hx hb dL_act_713 rfl (lv_at hl 13 rfl) ?_
        refine me_callVi (As := []) (rest := []) hC hl.1 hM (c_X7_clock l D tb X z0 n_42 bo (paG S B L P (1 + (v_41 % 12)) g) (recG G g S B L P nx) (recF F nx ct) sf inp out (me_up M0 ra (.inl (tb 0, 1, .inl f_41))) S B L P  ) (kv_L_104 hw rfl rfl ⟨Nat.le_of_ble_eq_true rfl, Nat.le_of_ble_eq_true rfl⟩) rfl rfl (bq_at h_b) rfl (Nat.le_of_ble_eq_true rfl) dL_act_714 ⟨Nat.le_of_ble_eq_true rfl, Nat.le_of_ble_eq_true rfl⟩ (fun H locs hM => ?_)
        refine me_evi (y := nI (T + (1 + (v_41 % 12)))) hT2 ?_
        refine lv_iload hx hb dL_act_717 (lv_at hl 4 rfl) ?_
        refine lv_iload hx hb dL_act_719 (lv_at hl 6 rfl) ?_
        refine lv_iadd hx hb dL_act_721 ?_
        refine lv_icmp_ne (tgt := 809) hx hb dL_act_722 (by decide) (fun c_77 => ?_) (fun c_77 => ?_)
        · have c_77 := (not_congr (br_eq rfl (nx_add rfl rfl) (by omega) (by omega))).mp c_77
          exfalso; omega
        · have c_77 := (br_eq rfl (nx_add rfl rfl) (by omega) (by omega)).mp c_77
          refine lv_aload_n hx hb dL_act_725 rfl (lv_at hl 13 rfl) ?_
          refine lv_iload_n hx hb dL_act_726 rfl (lv_at hl 11 rfl) ?_
          refine me_callVi (As := [.int (nI (v_1 % B))]) (rest := []) hC hl.1 hM (c_X7_illnessOf l D tb X z0 n_42 bo (paG S B L P (1 + (v_41 % 12)) g) (recG G g S B L P nx) (recF F nx ct) sf inp out (me_up M0 ra (.inl (tb 0, 1, .inl f_41))) S B L P (v_1 % B) hW2 (by omega)) (kv_L_131 hw rfl rfl ⟨Nat.le_of_ble_eq_true rfl, Nat.le_of_ble_eq_true rfl⟩) rfl rfl (bq_at h_b) rfl (Nat.le_of_ble_eq_true rfl) dL_act_727 ⟨Nat.le_of_ble_eq_true rfl, Nat.le_of_ble_eq_true rfl⟩ (fun H locs hM => ?_)
          refine lv_iload hx hb dL_act_730 (lv_at hl 5 rfl) ?_
          refine lv_icmp_ne (tgt := 809) hx hb dL_act_732 (by decide) (fun c_78 => ?_) (fun c_78 => ?_)
          · exact absurd (a8 _ _ (by omega) (by omega) (by omega)) c_78
          · refine lv_aload_n hx hb dL_act_735 rfl (lv_at hl 13 rfl) ?_
            refine lv_iconst (v := 4) hx hb dL_act_736 (by decide) ?_
            refine me_callVi (As := [.int 4]) (rest := []) hC hl.1 hM (c_X7_loansWith l D tb X z0 n_42 bo (paG S B L P (1 + (v_41 % 12)) g) (recG G g S B L P nx) (recF F nx ct) sf inp out (me_up M0 ra (.inl (tb 0, 1, .inl f_41))) S B L P 4 hW2 (by omega)) (kv_L_219 hw rfl rfl ⟨Nat.le_of_ble_eq_true rfl, Nat.le_of_ble_eq_true rfl⟩) rfl rfl (bq_at h_b) rfl (Nat.le_of_ble_eq_true rfl) dL_act_737 ⟨Nat.le_of_ble_eq_true rfl, Nat.le_of_ble_eq_true rfl⟩ (fun H locs hM => ?_)
            refine lv_iload hx hb dL_act_740 (lv_at hl 3 rfl) ?_
            refine lv_iload hx hb dL_act_742 (lv_at hl 0 rfl) ?_
            refine lv_iadd hx hb dL_act_744 ?_
            refine lv_icmp_ne (tgt := 809) hx hb dL_act_745 (by decide) (fun c_79 => ?_) (fun c_79 => ?_)
            · have c_79 := (not_congr (br_eq rfl (nx_add rfl rfl) (by omega) (by omega))).mp c_79
              exact absurd (a9 _ (by omega) (by omega)) c_79
            · have c_79 := (br_eq rfl (nx_add rfl rfl) (by omega) (by omega)).mp c_79
              refine lv_aload_n hx hb dL_act_748 rfl (lv_at hl 13 rfl) ?_
              refine lv_iload hx hb dL_act_749 (lv_at hl 10 rfl) ?_
              refine me_callVi (As := [.int (nI (v_2 % S))]) (rest := []) hC hl.1 hM (c_X7_noiseTotal l D tb X z0 n_42 bo (paG S B L P (1 + (v_41 % 12)) g) (recG G g S B L P nx) (recF F nx ct) sf inp out (me_up M0 ra (.inl (tb 0, 1, .inl f_41))) S B L P (v_2 % S) hW2 (by omega)) (kv_L_116 hw rfl rfl ⟨Nat.le_of_ble_eq_true rfl, Nat.le_of_ble_eq_true rfl⟩) rfl rfl (bq_at h_b) rfl (Nat.le_of_ble_eq_true rfl) dL_act_751 ⟨Nat.le_of_ble_eq_true rfl, Nat.le_of_ble_eq_true rfl⟩ (fun H locs hM => ?_)
              refine lv_iload hx hb dL_act_754 (lv_at hl 1 rfl) ?_
              refine lv_iload hx hb dL_act_756 (lv_at hl 2 rfl) ?_
              refine lv_iadd hx hb dL_act_758 ?_
              refine lv_icmp_lt (tgt := 809) hx hb dL_act_759 (by decide) (fun c_80 => ?_) (fun c_80 => ?_)
              · have c_80q := Int32.not_le.mpr c_80
                exact absurd c_80 (a10 _ _ (by omega) (by omega) (by omega))
              · have c_80q := Int32.not_lt.mp c_80
                refine lv_iload hx hb dL_act_762 (lv_at hl 6 rfl) ?_
                refine lv_iconst (v := 1) hx hb dL_act_764 (by decide) ?_
                refine lv_icmp_gt (tgt := 782) hx hb dL_act_765 (by decide) (fun c_81 => ?_) (fun c_81 => ?_)
                · have c_81 := (br_lt (show (1 : Int32) = nI 1 from rfl) rfl (by omega) (by omega)).mp c_81
                  refine lv_aload_n hx hb dL_act_782 rfl (lv_at hl 13 rfl) ?_
                  refine lv_iload hx hb dL_act_783 (lv_at hl 10 rfl) ?_
                  refine me_callVd (As := [.int (nI (v_2 % S))]) (rest := []) hC hl.1 hM (c_X7_meanNoise l D tb X z0 n_42 bo (paG S B L P (1 + (v_41 % 12)) g) (recG G g S B L P nx) (recF F nx ct) sf inp out (me_up M0 ra (.inl (tb 0, 1, .inl f_41))) S B L P (T + (1 + (v_41 % 12))) (v_2 % S) hW2 hT2 hT3 (by omega)) (kv_L_225 hw rfl rfl ⟨Nat.le_of_ble_eq_true rfl, Nat.le_of_ble_eq_true rfl⟩) rfl rfl (bq_at h_b) rfl (Nat.le_of_ble_eq_true rfl) dL_act_785 ⟨Nat.le_of_ble_eq_true rfl, Nat.le_of_ble_eq_true rfl⟩ (fun H locs hM => ?_)
                  refine me_stk (st2 := [.double (FP.ddiv (FP.i2d ((paG S B L P (1 + (v_41 % 12)) g) (9 + 10 * (v_2 % S) + 2))) (FP.i2d (nI (T + (1 + (v_41 % 12))))))]) (by rw [if_neg (show ¬ (T + (1 + (v_41 % 12)) = 0) by omega)]) ?_
                  refine lv_aload_n hx hb dL_act_788 rfl (lv_at hl 13 rfl) ?_
                  refine lv_iload hx hb dL_act_789 (lv_at hl 10 rfl) ?_
                  refine me_callVi (As := [.int (nI (v_2 % S))]) (rest := [.double (FP.ddiv (FP.i2d ((paG S B L P (1 + (v_41 % 12)) g) (9 + 10 * (v_2 % S) + 2))) (FP.i2d (nI (T + (1 + (v_41 % 12))))))]) hC hl.1 hM (c_X7_noiseTotal l D tb X z0 n_42 bo (paG S B L P (1 + (v_41 % 12)) g) (recG G g S B L P nx) (recF F nx ct) sf inp out (me_up M0 ra (.inl (tb 0, 1, .inl f_41))) S B L P (v_2 % S) hW2 (by omega)) (kv_L_116 hw rfl rfl ⟨Nat.le_of_ble_eq_true rfl, Nat.le_of_ble_eq_true rfl⟩) rfl rfl (bq_at h_b) rfl (Nat.le_of_ble_eq_true rfl) dL_act_791 ⟨Nat.le_of_ble_eq_true rfl, Nat.le_of_ble_eq_true rfl⟩ (fun H locs hM => ?_)
                  refine lv_i2d hx hb dL_act_794 ?_
                  refine lv_aload_n hx hb dL_act_795 rfl (lv_at hl 13 rfl) ?_
                  refine me_callVi (As := []) (rest := [.double (FP.i2d ((paG S B L P (1 + (v_41 % 12)) g) (9 + 10 * (v_2 % S) + 2))), .double (FP.ddiv (FP.i2d ((paG S B L P (1 + (v_41 % 12)) g) (9 + 10 * (v_2 % S) + 2))) (FP.i2d (nI (T + (1 + (v_41 % 12))))))]) hC hl.1 hM (c_X7_clock l D tb X z0 n_42 bo (paG S B L P (1 + (v_41 % 12)) g) (recG G g S B L P nx) (recF F nx ct) sf inp out (me_up M0 ra (.inl (tb 0, 1, .inl f_41))) S B L P  ) (kv_L_104 hw rfl rfl ⟨Nat.le_of_ble_eq_true rfl, Nat.le_of_ble_eq_true rfl⟩) rfl rfl (bq_at h_b) rfl (Nat.le_of_ble_eq_true rfl) dL_act_796 ⟨Nat.le_of_ble_eq_true rfl, Nat.le_of_ble_eq_true rfl⟩ (fun H locs hM => ?_)
                  refine me_evi (y := nI (T + (1 + (v_41 % 12)))) hT2 ?_
                  refine lv_i2d hx hb dL_act_799 ?_
                  refine lv_ddiv hx hb dL_act_800 (fp_mean (by omega) (by omega)) ?_
                  refine lv_dcmp hx hb dL_act_801 ?_
                  refine me_evi (y := 0) (dcm_ok (fp_mok (by omega) (by omega))) ?_
                  refine lv_if_ne (tgt := 809) hx hb dL_act_802 (by decide) (fun c_82 => ?_) (fun c_82 => ?_)
                  · exact absurd c_82 (by decide)
                  · refine lv_iconst (v := 1) hx hb dL_act_805 (by decide) ?_
                    refine lv_goto (tgt := 810) hx hb dL_act_806 (by decide) ?_
                    refine W.widen (k := 8) (n := 60) (by omega) (by omega) ?_
                    exact me_pret hC hr hlk hM (⟨_, _, _, _, _, rfl, Or.inr (Or.inr (Or.inr (Or.inr (Or.inr (Or.inr (⟨_, by omega, by omega, rfl, rfl, rfl, rfl⟩)))))), rfl⟩) (rfl) dL_act_810
                · have c_81 := (not_congr (br_lt (show (1 : Int32) = nI 1 from rfl) rfl (by omega) (by omega))).mp c_81
                  refine lv_aload_n hx hb dL_act_768 rfl (lv_at hl 13 rfl) ?_
                  refine lv_iload hx hb dL_act_769 (lv_at hl 10 rfl) ?_
                  refine me_callVi (As := [.int (nI (v_2 % S))]) (rest := []) hC hl.1 hM (c_X7_noiseTotal l D tb X z0 n_42 bo (paG S B L P (1 + (v_41 % 12)) g) (recG G g S B L P nx) (recF F nx ct) sf inp out (me_up M0 ra (.inl (tb 0, 1, .inl f_41))) S B L P (v_2 % S) hW2 (by omega)) (kv_L_116 hw rfl rfl ⟨Nat.le_of_ble_eq_true rfl, Nat.le_of_ble_eq_true rfl⟩) rfl rfl (bq_at h_b) rfl (Nat.le_of_ble_eq_true rfl) dL_act_771 ⟨Nat.le_of_ble_eq_true rfl, Nat.le_of_ble_eq_true rfl⟩ (fun H locs hM => ?_)
                  refine lv_iload hx hb dL_act_774 (lv_at hl 1 rfl) ?_
                  refine lv_iload hx hb dL_act_776 (lv_at hl 2 rfl) ?_
                  refine lv_iadd hx hb dL_act_778 ?_
                  refine lv_icmp_ne (tgt := 809) hx hb dL_act_779 (by decide) (fun c_83 => ?_) (fun c_83 => ?_)
                  · exact absurd (by rw [show 1 + (v_41 % 12) = 1 by omega]; exact a11 _ (by omega)) c_83
                  · refine lv_aload_n hx hb dL_act_782 rfl (lv_at hl 13 rfl) ?_
                    refine lv_iload hx hb dL_act_783 (lv_at hl 10 rfl) ?_
                    refine me_callVd (As := [.int (nI (v_2 % S))]) (rest := []) hC hl.1 hM (c_X7_meanNoise l D tb X z0 n_42 bo (paG S B L P (1 + (v_41 % 12)) g) (recG G g S B L P nx) (recF F nx ct) sf inp out (me_up M0 ra (.inl (tb 0, 1, .inl f_41))) S B L P (T + (1 + (v_41 % 12))) (v_2 % S) hW2 hT2 hT3 (by omega)) (kv_L_225 hw rfl rfl ⟨Nat.le_of_ble_eq_true rfl, Nat.le_of_ble_eq_true rfl⟩) rfl rfl (bq_at h_b) rfl (Nat.le_of_ble_eq_true rfl) dL_act_785 ⟨Nat.le_of_ble_eq_true rfl, Nat.le_of_ble_eq_true rfl⟩ (fun H locs hM => ?_)
                    refine me_stk (st2 := [.double (FP.ddiv (FP.i2d ((paG S B L P (1 + (v_41 % 12)) g) (9 + 10 * (v_2 % S) + 2))) (FP.i2d (nI (T + (1 + (v_41 % 12))))))]) (by rw [if_neg (show ¬ (T + (1 + (v_41 % 12)) = 0) by omega)]) ?_
                    refine lv_aload_n hx hb dL_act_788 rfl (lv_at hl 13 rfl) ?_
                    refine lv_iload hx hb dL_act_789 (lv_at hl 10 rfl) ?_
                    refine me_callVi (As := [.int (nI (v_2 % S))]) (rest := [.double (FP.ddiv (FP.i2d ((paG S B L P (1 + (v_41 % 12)) g) (9 + 10 * (v_2 % S) + 2))) (FP.i2d (nI (T + (1 + (v_41 % 12))))))]) hC hl.1 hM (c_X7_noiseTotal l D tb X z0 n_42 bo (paG S B L P (1 + (v_41 % 12)) g) (recG G g S B L P nx) (recF F nx ct) sf inp out (me_up M0 ra (.inl (tb 0, 1, .inl f_41))) S B L P (v_2 % S) hW2 (by omega)) (kv_L_116 hw rfl rfl ⟨Nat.le_of_ble_eq_true rfl, Nat.le_of_ble_eq_true rfl⟩) rfl rfl (bq_at h_b) rfl (Nat.le_of_ble_eq_true rfl) dL_act_791 ⟨Nat.le_of_ble_eq_true rfl, Nat.le_of_ble_eq_true rfl⟩ (fun H locs hM => ?_)
                    refine lv_i2d hx hb dL_act_794 ?_
                    refine lv_aload_n hx hb dL_act_795 rfl (lv_at hl 13 rfl) ?_
                    refine me_callVi (As := []) (rest := [.double (FP.i2d ((paG S B L P (1 + (v_41 % 12)) g) (9 + 10 * (v_2 % S) + 2))), .double (FP.ddiv (FP.i2d ((paG S B L P (1 + (v_41 % 12)) g) (9 + 10 * (v_2 % S) + 2))) (FP.i2d (nI (T + (1 + (v_41 % 12))))))]) hC hl.1 hM (c_X7_clock l D tb X z0 n_42 bo (paG S B L P (1 + (v_41 % 12)) g) (recG G g S B L P nx) (recF F nx ct) sf inp out (me_up M0 ra (.inl (tb 0, 1, .inl f_41))) S B L P  ) (kv_L_104 hw rfl rfl ⟨Nat.le_of_ble_eq_true rfl, Nat.le_of_ble_eq_true rfl⟩) rfl rfl (bq_at h_b) rfl (Nat.le_of_ble_eq_true rfl) dL_act_796 ⟨Nat.le_of_ble_eq_true rfl, Nat.le_of_ble_eq_true rfl⟩ (fun H locs hM => ?_)
                    refine me_evi (y := nI (T + (1 + (v_41 % 12)))) hT2 ?_
                    refine lv_i2d hx hb dL_act_799 ?_
                    refine lv_ddiv hx hb dL_act_800 (fp_mean (by omega) (by omega)) ?_
                    refine lv_dcmp hx hb dL_act_801 ?_
                    refine me_evi (y := 0) (dcm_ok (fp_mok (by omega) (by omega))) ?_
                    refine lv_if_ne (tgt := 809) hx hb dL_act_802 (by decide) (fun c_84 => ?_) (fun c_84 => ?_)
                    · exact absurd c_84 (by decide)
                    · refine lv_iconst (v := 1) hx hb dL_act_805 (by decide) ?_
                      refine lv_goto (tgt := 810) hx hb dL_act_806 (by decide) ?_
                      refine W.widen (k := 8) (n := 60) (by omega) (by omega) ?_
                      exact me_pret hC hr hlk hM (⟨_, _, _, _, _, rfl, Or.inr (Or.inr (Or.inr (Or.inr (Or.inr (Or.inr (⟨_, by omega, by omega, rfl, rfl, rfl, rfl⟩)))))), rfl⟩) (rfl) dL_act_810
      · refine me_evi (y := 8) c_3 ?_
        refine lv_tableOut (tgt := 656) hx hb dL_act_79 (by decide) (by decide) ?_
        refine lv_iconst (v := 1) hx hb dL_act_656 (by decide) ?_
        refine lv_aload_n hx hb dL_act_657 rfl (lv_at hl 7 rfl) ?_
        refine me_callSp (As := [.ref ra]) (rest := [.int 1]) hC hl.1 hM (c_L_next l D tb X z0 n_5 ra f_5 (sp tb (bo + 722) g (bq tb bo G F sf inp out (me_up M0 ra (.inl (tb 0, 1, .inl f_5))))) (bq_some hra (me_up_s _ _ _))) (ks_L_79 hw rfl rfl ⟨Nat.le_of_ble_eq_true rfl, Nat.le_of_ble_eq_true rfl⟩) rfl rfl (Nat.le_of_ble_eq_true rfl) dL_act_658 ⟨Nat.le_of_ble_eq_true rfl, Nat.le_of_ble_eq_true rfl⟩ (fun r_43 M_43 hP_43 H locs n_43 hM => ?_)
        obtain ⟨v_43, f_43, rfl, hv_43, rfl⟩ := hP_43
        have hM := hM.eq (bq_upo hra)
        refine lv_bipush (v := 12) hx hb dL_act_661 (by decide) ?_
        refine lv_irem hx hb dL_act_663 (by decide) ?_
        refine me_evi (y := nI (v_43 % 12)) (nx_rem 12 rfl (by omega) (by omega) (by omega)) ?_
        refine lv_iadd hx hb dL_act_664 ?_
        refine me_evi (y := nI (1 + (v_43 % 12))) (nx_add (show (1 : Int32) = nI 1 from rfl) rfl) ?_
        refine lv_istore (lv' := [(22, .int (nI (1 + (v_43 % 12)))), (7, .int (nI (T + (v_4 % 20)))), (6, .int (nI sv)), (5, .int (nI (v_3 % L))), (4, .int (nI (v_2 % S))), (3, .int (nI (v_1 % B))), (2, .int (nI L)), (0, .ref bo), (1, .ref ra)]) hx hb dL_act_665 hl (by decide) rfl (fun ls hl => ?_)
        refine lv_aload_n hx hb dL_act_667 rfl (lv_at hl 7 rfl) ?_
        refine lv_iload_n hx hb dL_act_668 rfl (lv_at hl 5 rfl) ?_
        refine lv_iload hx hb dL_act_669 (lv_at hl 0 rfl) ?_
        have hfr_ := bq_fresh hM
        have hM0_ := hM
        refine me_callVi (As := [.int (nI (v_1 % B)), .int (nI (1 + (v_43 % 12)))]) (rest := []) hC hl.1 hM (c_X7_illnessAfter l D tb X z0 n_43 bo g G F sf inp out (me_up M0 ra (.inl (tb 0, 1, .inl f_43))) S B L P hN (v_1 % B) (1 + (v_43 % 12)) hW (by omega) (by omega) (bq_lt hM)) (kv_L_137 hw rfl rfl ⟨Nat.le_of_ble_eq_true rfl, Nat.le_of_ble_eq_true rfl⟩) rfl rfl (bq_at h_b) rfl (Nat.le_of_ble_eq_true rfl) dL_act_671 ⟨Nat.le_of_ble_eq_true rfl, Nat.le_of_ble_eq_true rfl⟩ (fun H locs hM => ?_)
        have hM := bq_drop hfr_ (bq_lt hM0_) hM
        refine lv_istore (lv' := [(23, .int (fcF g L P (v_1 % B) (1 + (v_43 % 12)))), (22, .int (nI (1 + (v_43 % 12)))), (7, .int (nI (T + (v_4 % 20)))), (6, .int (nI sv)), (5, .int (nI (v_3 % L))), (4, .int (nI (v_2 % S))), (3, .int (nI (v_1 % B))), (2, .int (nI L)), (0, .ref bo), (1, .ref ra)]) hx hb dL_act_674 hl (by decide) rfl (fun ls hl => ?_)
        refine lv_aload_n hx hb dL_act_676 rfl (lv_at hl 8 rfl) ?_
        refine me_callVi (As := []) (rest := []) hC hl.1 hM (c_X7_clock l D tb X z0 (n_43 + 1) bo g G F sf inp out (me_up M0 ra (.inl (tb 0, 1, .inl f_43))) S B L P  ) (kv_L_104 hw rfl rfl ⟨Nat.le_of_ble_eq_true rfl, Nat.le_of_ble_eq_true rfl⟩) rfl rfl (bq_at h_b) rfl (Nat.le_of_ble_eq_true rfl) dL_act_677 ⟨Nat.le_of_ble_eq_true rfl, Nat.le_of_ble_eq_true rfl⟩ (fun H locs hM => ?_)
        refine me_evi (y := nI T) hT ?_
        refine lv_istore (lv' := [(24, .int (nI T)), (23, .int (fcF g L P (v_1 % B) (1 + (v_43 % 12)))), (22, .int (nI (1 + (v_43 % 12)))), (7, .int (nI (T + (v_4 % 20)))), (6, .int (nI sv)), (5, .int (nI (v_3 % L))), (4, .int (nI (v_2 % S))), (3, .int (nI (v_1 % B))), (2, .int (nI L)), (0, .ref bo), (1, .ref ra)]) hx hb dL_act_680 hl (by decide) rfl (fun ls hl => ?_)
        refine lv_aload_n hx hb dL_act_682 rfl (lv_at hl 9 rfl) ?_
        refine lv_iconst (v := 4) hx hb dL_act_683 (by decide) ?_
        refine me_callVi (As := [.int 4]) (rest := []) hC hl.1 hM (c_X7_loansWith l D tb X z0 (n_43 + 1) bo g G F sf inp out (me_up M0 ra (.inl (tb 0, 1, .inl f_43))) S B L P 4 hW (by omega)) (kv_L_219 hw rfl rfl ⟨Nat.le_of_ble_eq_true rfl, Nat.le_of_ble_eq_true rfl⟩) rfl rfl (bq_at h_b) rfl (Nat.le_of_ble_eq_true rfl) dL_act_684 ⟨Nat.le_of_ble_eq_true rfl, Nat.le_of_ble_eq_true rfl⟩ (fun H locs hM => ?_)
        refine lv_istore (lv' := [(25, .int (nI (co (fun k => g (261 + 5 * k + 4) = nI 4) L 0))), (24, .int (nI T)), (23, .int (fcF g L P (v_1 % B) (1 + (v_43 % 12)))), (22, .int (nI (1 + (v_43 % 12)))), (7, .int (nI (T + (v_4 % 20)))), (6, .int (nI sv)), (5, .int (nI (v_3 % L))), (4, .int (nI (v_2 % S))), (3, .int (nI (v_1 % B))), (2, .int (nI L)), (0, .ref bo), (1, .ref ra)]) hx hb dL_act_687 hl (by decide) rfl (fun ls hl => ?_)
        refine lv_aload_n hx hb dL_act_689 rfl (lv_at hl 10 rfl) ?_
        refine lv_iload hx hb dL_act_690 (lv_at hl 7 rfl) ?_
        refine me_callVi (As := [.int (nI (v_2 % S))]) (rest := []) hC hl.1 hM (c_X7_noiseNow l D tb X z0 (n_43 + 1) bo g G F sf inp out (me_up M0 ra (.inl (tb 0, 1, .inl f_43))) S B L P hN (v_2 % S) hW (by omega)) (kv_L_122 hw rfl rfl ⟨Nat.le_of_ble_eq_true rfl, Nat.le_of_ble_eq_true rfl⟩) rfl rfl (bq_at h_b) rfl (Nat.le_of_ble_eq_true rfl) dL_act_692 ⟨Nat.le_of_ble_eq_true rfl, Nat.le_of_ble_eq_true rfl⟩ (fun H locs hM => ?_)
        refine lv_istore (lv' := [(26, .int (noF g L P (v_2 % S) (g 2))), (25, .int (nI (co (fun k => g (261 + 5 * k + 4) = nI 4) L 0))), (24, .int (nI T)), (23, .int (fcF g L P (v_1 % B) (1 + (v_43 % 12)))), (22, .int (nI (1 + (v_43 % 12)))), (7, .int (nI (T + (v_4 % 20)))), (6, .int (nI sv)), (5, .int (nI (v_3 % L))), (4, .int (nI (v_2 % S))), (3, .int (nI (v_1 % B))), (2, .int (nI L)), (0, .ref bo), (1, .ref ra)]) hx hb dL_act_695 hl (by decide) rfl (fun ls hl => ?_)
        refine lv_aload_n hx hb dL_act_697 rfl (lv_at hl 11 rfl) ?_
        refine lv_iload hx hb dL_act_698 (lv_at hl 8 rfl) ?_
        refine me_callVi (As := [.int (nI (v_2 % S))]) (rest := []) hC hl.1 hM (c_X7_noiseTotal l D tb X z0 (n_43 + 1) bo g G F sf inp out (me_up M0 ra (.inl (tb 0, 1, .inl f_43))) S B L P (v_2 % S) hW (by omega)) (kv_L_116 hw rfl rfl ⟨Nat.le_of_ble_eq_true rfl, Nat.le_of_ble_eq_true rfl⟩) rfl rfl (bq_at h_b) rfl (Nat.le_of_ble_eq_true rfl) dL_act_700 ⟨Nat.le_of_ble_eq_true rfl, Nat.le_of_ble_eq_true rfl⟩ (fun H locs hM => ?_)
        refine lv_istore (lv' := [(27, .int (g (9 + 10 * (v_2 % S) + 2))), (26, .int (noF g L P (v_2 % S) (g 2))), (25, .int (nI (co (fun k => g (261 + 5 * k + 4) = nI 4) L 0))), (24, .int (nI T)), (23, .int (fcF g L P (v_1 % B) (1 + (v_43 % 12)))), (22, .int (nI (1 + (v_43 % 12)))), (7, .int (nI (T + (v_4 % 20)))), (6, .int (nI sv)), (5, .int (nI (v_3 % L))), (4, .int (nI (v_2 % S))), (3, .int (nI (v_1 % B))), (2, .int (nI L)), (0, .ref bo), (1, .ref ra)]) hx hb dL_act_703 hl (by decide) rfl (fun ls hl => ?_)
        refine lv_aload_n hx hb dL_act_705 rfl (lv_at hl 12 rfl) ?_
        refine lv_iload hx hb dL_act_706 (lv_at hl 5 rfl) ?_
        refine me_callSnp (nA := 2) (As := [.ref bo, .int (nI (1 + (v_43 % 12)))]) (rest := []) hC hl.1 hM (c_L_advanced (mc := 0) (ms := 0) l D tb X z0 (n_43 + 1) bo (nI (1 + (v_43 % 12))) rfl rfl ⟨Nat.le_of_ble_eq_true rfl, Nat.le_of_ble_eq_true rfl⟩ (bq_at h_b) (c_X7_advance l D tb X z0 (n_43 + 1) bo g G F sf inp out (me_up M0 ra (.inl (tb 0, 1, .inl f_43))) S B L P T nx ct hN (1 + (v_43 % 12)) hW hT hT0 hnx hnx0 hct hct0 (by omega) (by omega) (by omega))) w_842 w_843 w_0 w_844 (by decide +kernel) rfl rfl ⟨Nat.le_of_ble_eq_true rfl, Nat.le_of_ble_eq_true rfl⟩ rfl rfl (Nat.le_of_ble_eq_true rfl) dL_act_708 ⟨Nat.le_of_ble_eq_true rfl, Nat.le_of_ble_eq_true rfl⟩ (fun r_44 M_44 hP_44 H locs n_44 hM => ?_)
        obtain ⟨rfl, rfl⟩ := hP_44
        have hW2 := wf_pa (1 + (v_43 % 12)) g hW
        have hT2 := a7 (1 + (v_43 % 12)) (by omega) (by omega)
        have hT3 : T + (1 + (v_43 % 12)) ≤ 10000 := by omega
        have hpn := Nat.le_trans (chN_paN S B L P (1 + (v_43 % 12)) g) (Nat.mul_le_mul (show (1 + (v_43 % 12)) ≤ 12 by omega) hL0)
        have hc1 := co_le (fun k => g (261 + 5 * k + 4) = nI 4) L 0
        have hc2 := co_le (fun k => (paG S B L P (1 + (v_43 % 12)) g) (261 + 5 * k + 4) = nI 4) L 0
        refine lv_istore (lv' := [(28, .int (nI (paN S B L P (1 + (v_43 % 12)) g))), (27, .int (g (9 + 10 * (v_2 % S) + 2))), (26, .int (noF g L P (v_2 % S) (g 2))), (25, .int (nI (co (fun k => g (261 + 5 * k + 4) = nI 4) L 0))), (24, .int (nI T)), (23, .int (fcF g L P (v_1 % B) (1 + (v_43 % 12)))), (22, .int (nI (1 + (v_43 % 12)))), (7, .int (nI (T + (v_4 % 20)))), (6, .int (nI sv)), (5, .int (nI (v_3 % L))), (4, .int (nI (v_2 % S))), (3, .int (nI (v_1 % B))), (2, .int (nI L)), (0, .ref bo), (1, .ref ra)]) hx hb dL_act_711 hl (by decide) rfl (fun ls hl => ?_)
        refine lv_aload_n hx hb dL_act_713 rfl (lv_at hl 13 rfl) ?_
        refine me_callVi (As := []) (rest := []) hC hl.1 hM (c_X7_clock l D tb X z0 n_44 bo (paG S B L P (1 + (v_43 % 12)) g) (recG G g S B L P nx) (recF F nx ct) sf inp out (me_up M0 ra (.inl (tb 0, 1, .inl f_43))) S B L P  ) (kv_L_104 hw rfl rfl ⟨Nat.le_of_ble_eq_true rfl, Nat.le_of_ble_eq_true rfl⟩) rfl rfl (bq_at h_b) rfl (Nat.le_of_ble_eq_true rfl) dL_act_714 ⟨Nat.le_of_ble_eq_true rfl, Nat.le_of_ble_eq_true rfl⟩ (fun H locs hM => ?_)
        refine me_evi (y := nI (T + (1 + (v_43 % 12)))) hT2 ?_
        refine lv_iload hx hb dL_act_717 (lv_at hl 4 rfl) ?_
        refine lv_iload hx hb dL_act_719 (lv_at hl 6 rfl) ?_
        refine lv_iadd hx hb dL_act_721 ?_
        refine lv_icmp_ne (tgt := 809) hx hb dL_act_722 (by decide) (fun c_85 => ?_) (fun c_85 => ?_)
        · have c_85 := (not_congr (br_eq rfl (nx_add rfl rfl) (by omega) (by omega))).mp c_85
          exfalso; omega
        · have c_85 := (br_eq rfl (nx_add rfl rfl) (by omega) (by omega)).mp c_85
          refine lv_aload_n hx hb dL_act_725 rfl (lv_at hl 13 rfl) ?_
          refine lv_iload_n hx hb dL_act_726 rfl (lv_at hl 11 rfl) ?_
          refine me_callVi (As := [.int (nI (v_1 % B))]) (rest := []) hC hl.1 hM (c_X7_illnessOf l D tb X z0 n_44 bo (paG S B L P (1 + (v_43 % 12)) g) (recG G g S B L P nx) (recF F nx ct) sf inp out (me_up M0 ra (.inl (tb 0, 1, .inl f_43))) S B L P (v_1 % B) hW2 (by omega)) (kv_L_131 hw rfl rfl ⟨Nat.le_of_ble_eq_true rfl, Nat.le_of_ble_eq_true rfl⟩) rfl rfl (bq_at h_b) rfl (Nat.le_of_ble_eq_true rfl) dL_act_727 ⟨Nat.le_of_ble_eq_true rfl, Nat.le_of_ble_eq_true rfl⟩ (fun H locs hM => ?_)
          refine lv_iload hx hb dL_act_730 (lv_at hl 5 rfl) ?_
          refine lv_icmp_ne (tgt := 809) hx hb dL_act_732 (by decide) (fun c_86 => ?_) (fun c_86 => ?_)
          · exact absurd (a8 _ _ (by omega) (by omega) (by omega)) c_86
          · refine lv_aload_n hx hb dL_act_735 rfl (lv_at hl 13 rfl) ?_
            refine lv_iconst (v := 4) hx hb dL_act_736 (by decide) ?_
            refine me_callVi (As := [.int 4]) (rest := []) hC hl.1 hM (c_X7_loansWith l D tb X z0 n_44 bo (paG S B L P (1 + (v_43 % 12)) g) (recG G g S B L P nx) (recF F nx ct) sf inp out (me_up M0 ra (.inl (tb 0, 1, .inl f_43))) S B L P 4 hW2 (by omega)) (kv_L_219 hw rfl rfl ⟨Nat.le_of_ble_eq_true rfl, Nat.le_of_ble_eq_true rfl⟩) rfl rfl (bq_at h_b) rfl (Nat.le_of_ble_eq_true rfl) dL_act_737 ⟨Nat.le_of_ble_eq_true rfl, Nat.le_of_ble_eq_true rfl⟩ (fun H locs hM => ?_)
            refine lv_iload hx hb dL_act_740 (lv_at hl 3 rfl) ?_
            refine lv_iload hx hb dL_act_742 (lv_at hl 0 rfl) ?_
            refine lv_iadd hx hb dL_act_744 ?_
            refine lv_icmp_ne (tgt := 809) hx hb dL_act_745 (by decide) (fun c_87 => ?_) (fun c_87 => ?_)
            · have c_87 := (not_congr (br_eq rfl (nx_add rfl rfl) (by omega) (by omega))).mp c_87
              exact absurd (a9 _ (by omega) (by omega)) c_87
            · have c_87 := (br_eq rfl (nx_add rfl rfl) (by omega) (by omega)).mp c_87
              refine lv_aload_n hx hb dL_act_748 rfl (lv_at hl 13 rfl) ?_
              refine lv_iload hx hb dL_act_749 (lv_at hl 10 rfl) ?_
              refine me_callVi (As := [.int (nI (v_2 % S))]) (rest := []) hC hl.1 hM (c_X7_noiseTotal l D tb X z0 n_44 bo (paG S B L P (1 + (v_43 % 12)) g) (recG G g S B L P nx) (recF F nx ct) sf inp out (me_up M0 ra (.inl (tb 0, 1, .inl f_43))) S B L P (v_2 % S) hW2 (by omega)) (kv_L_116 hw rfl rfl ⟨Nat.le_of_ble_eq_true rfl, Nat.le_of_ble_eq_true rfl⟩) rfl rfl (bq_at h_b) rfl (Nat.le_of_ble_eq_true rfl) dL_act_751 ⟨Nat.le_of_ble_eq_true rfl, Nat.le_of_ble_eq_true rfl⟩ (fun H locs hM => ?_)
              refine lv_iload hx hb dL_act_754 (lv_at hl 1 rfl) ?_
              refine lv_iload hx hb dL_act_756 (lv_at hl 2 rfl) ?_
              refine lv_iadd hx hb dL_act_758 ?_
              refine lv_icmp_lt (tgt := 809) hx hb dL_act_759 (by decide) (fun c_88 => ?_) (fun c_88 => ?_)
              · have c_88q := Int32.not_le.mpr c_88
                exact absurd c_88 (a10 _ _ (by omega) (by omega) (by omega))
              · have c_88q := Int32.not_lt.mp c_88
                refine lv_iload hx hb dL_act_762 (lv_at hl 6 rfl) ?_
                refine lv_iconst (v := 1) hx hb dL_act_764 (by decide) ?_
                refine lv_icmp_gt (tgt := 782) hx hb dL_act_765 (by decide) (fun c_89 => ?_) (fun c_89 => ?_)
                · have c_89 := (br_lt (show (1 : Int32) = nI 1 from rfl) rfl (by omega) (by omega)).mp c_89
                  refine lv_aload_n hx hb dL_act_782 rfl (lv_at hl 13 rfl) ?_
                  refine lv_iload hx hb dL_act_783 (lv_at hl 10 rfl) ?_
                  refine me_callVd (As := [.int (nI (v_2 % S))]) (rest := []) hC hl.1 hM (c_X7_meanNoise l D tb X z0 n_44 bo (paG S B L P (1 + (v_43 % 12)) g) (recG G g S B L P nx) (recF F nx ct) sf inp out (me_up M0 ra (.inl (tb 0, 1, .inl f_43))) S B L P (T + (1 + (v_43 % 12))) (v_2 % S) hW2 hT2 hT3 (by omega)) (kv_L_225 hw rfl rfl ⟨Nat.le_of_ble_eq_true rfl, Nat.le_of_ble_eq_true rfl⟩) rfl rfl (bq_at h_b) rfl (Nat.le_of_ble_eq_true rfl) dL_act_785 ⟨Nat.le_of_ble_eq_true rfl, Nat.le_of_ble_eq_true rfl⟩ (fun H locs hM => ?_)
                  refine me_stk (st2 := [.double (FP.ddiv (FP.i2d ((paG S B L P (1 + (v_43 % 12)) g) (9 + 10 * (v_2 % S) + 2))) (FP.i2d (nI (T + (1 + (v_43 % 12))))))]) (by rw [if_neg (show ¬ (T + (1 + (v_43 % 12)) = 0) by omega)]) ?_
                  refine lv_aload_n hx hb dL_act_788 rfl (lv_at hl 13 rfl) ?_
                  refine lv_iload hx hb dL_act_789 (lv_at hl 10 rfl) ?_
                  refine me_callVi (As := [.int (nI (v_2 % S))]) (rest := [.double (FP.ddiv (FP.i2d ((paG S B L P (1 + (v_43 % 12)) g) (9 + 10 * (v_2 % S) + 2))) (FP.i2d (nI (T + (1 + (v_43 % 12))))))]) hC hl.1 hM (c_X7_noiseTotal l D tb X z0 n_44 bo (paG S B L P (1 + (v_43 % 12)) g) (recG G g S B L P nx) (recF F nx ct) sf inp out (me_up M0 ra (.inl (tb 0, 1, .inl f_43))) S B L P (v_2 % S) hW2 (by omega)) (kv_L_116 hw rfl rfl ⟨Nat.le_of_ble_eq_true rfl, Nat.le_of_ble_eq_true rfl⟩) rfl rfl (bq_at h_b) rfl (Nat.le_of_ble_eq_true rfl) dL_act_791 ⟨Nat.le_of_ble_eq_true rfl, Nat.le_of_ble_eq_true rfl⟩ (fun H locs hM => ?_)
                  refine lv_i2d hx hb dL_act_794 ?_
                  refine lv_aload_n hx hb dL_act_795 rfl (lv_at hl 13 rfl) ?_
                  refine me_callVi (As := []) (rest := [.double (FP.i2d ((paG S B L P (1 + (v_43 % 12)) g) (9 + 10 * (v_2 % S) + 2))), .double (FP.ddiv (FP.i2d ((paG S B L P (1 + (v_43 % 12)) g) (9 + 10 * (v_2 % S) + 2))) (FP.i2d (nI (T + (1 + (v_43 % 12))))))]) hC hl.1 hM (c_X7_clock l D tb X z0 n_44 bo (paG S B L P (1 + (v_43 % 12)) g) (recG G g S B L P nx) (recF F nx ct) sf inp out (me_up M0 ra (.inl (tb 0, 1, .inl f_43))) S B L P  ) (kv_L_104 hw rfl rfl ⟨Nat.le_of_ble_eq_true rfl, Nat.le_of_ble_eq_true rfl⟩) rfl rfl (bq_at h_b) rfl (Nat.le_of_ble_eq_true rfl) dL_act_796 ⟨Nat.le_of_ble_eq_true rfl, Nat.le_of_ble_eq_true rfl⟩ (fun H locs hM => ?_)
                  refine me_evi (y := nI (T + (1 + (v_43 % 12)))) hT2 ?_
                  refine lv_i2d hx hb dL_act_799 ?_
                  refine lv_ddiv hx hb dL_act_800 (fp_mean (by omega) (by omega)) ?_
                  refine lv_dcmp hx hb dL_act_801 ?_
                  refine me_evi (y := 0) (dcm_ok (fp_mok (by omega) (by omega))) ?_
                  refine lv_if_ne (tgt := 809) hx hb dL_act_802 (by decide) (fun c_90 => ?_) (fun c_90 => ?_)
                  · exact absurd c_90 (by decide)
                  · refine lv_iconst (v := 1) hx hb dL_act_805 (by decide) ?_
                    refine lv_goto (tgt := 810) hx hb dL_act_806 (by decide) ?_
                    refine W.widen (k := 8) (n := 60) (by omega) (by omega) ?_
                    exact me_pret hC hr hlk hM (⟨_, _, _, _, _, rfl, Or.inr (Or.inr (Or.inr (Or.inr (Or.inr (Or.inr (⟨_, by omega, by omega, rfl, rfl, rfl, rfl⟩)))))), rfl⟩) (rfl) dL_act_810
                · have c_89 := (not_congr (br_lt (show (1 : Int32) = nI 1 from rfl) rfl (by omega) (by omega))).mp c_89
                  refine lv_aload_n hx hb dL_act_768 rfl (lv_at hl 13 rfl) ?_
                  refine lv_iload hx hb dL_act_769 (lv_at hl 10 rfl) ?_
                  refine me_callVi (As := [.int (nI (v_2 % S))]) (rest := []) hC hl.1 hM (c_X7_noiseTotal l D tb X z0 n_44 bo (paG S B L P (1 + (v_43 % 12)) g) (recG G g S B L P nx) (recF F nx ct) sf inp out (me_up M0 ra (.inl (tb 0, 1, .inl f_43))) S B L P (v_2 % S) hW2 (by omega)) (kv_L_116 hw rfl rfl ⟨Nat.le_of_ble_eq_true rfl, Nat.le_of_ble_eq_true rfl⟩) rfl rfl (bq_at h_b) rfl (Nat.le_of_ble_eq_true rfl) dL_act_771 ⟨Nat.le_of_ble_eq_true rfl, Nat.le_of_ble_eq_true rfl⟩ (fun H locs hM => ?_)
                  refine lv_iload hx hb dL_act_774 (lv_at hl 1 rfl) ?_
                  refine lv_iload hx hb dL_act_776 (lv_at hl 2 rfl) ?_
                  refine lv_iadd hx hb dL_act_778 ?_
                  refine lv_icmp_ne (tgt := 809) hx hb dL_act_779 (by decide) (fun c_91 => ?_) (fun c_91 => ?_)
                  · exact absurd (by rw [show 1 + (v_43 % 12) = 1 by omega]; exact a11 _ (by omega)) c_91
                  · refine lv_aload_n hx hb dL_act_782 rfl (lv_at hl 13 rfl) ?_
                    refine lv_iload hx hb dL_act_783 (lv_at hl 10 rfl) ?_
                    refine me_callVd (As := [.int (nI (v_2 % S))]) (rest := []) hC hl.1 hM (c_X7_meanNoise l D tb X z0 n_44 bo (paG S B L P (1 + (v_43 % 12)) g) (recG G g S B L P nx) (recF F nx ct) sf inp out (me_up M0 ra (.inl (tb 0, 1, .inl f_43))) S B L P (T + (1 + (v_43 % 12))) (v_2 % S) hW2 hT2 hT3 (by omega)) (kv_L_225 hw rfl rfl ⟨Nat.le_of_ble_eq_true rfl, Nat.le_of_ble_eq_true rfl⟩) rfl rfl (bq_at h_b) rfl (Nat.le_of_ble_eq_true rfl) dL_act_785 ⟨Nat.le_of_ble_eq_true rfl, Nat.le_of_ble_eq_true rfl⟩ (fun H locs hM => ?_)
                    refine me_stk (st2 := [.double (FP.ddiv (FP.i2d ((paG S B L P (1 + (v_43 % 12)) g) (9 + 10 * (v_2 % S) + 2))) (FP.i2d (nI (T + (1 + (v_43 % 12))))))]) (by rw [if_neg (show ¬ (T + (1 + (v_43 % 12)) = 0) by omega)]) ?_
                    refine lv_aload_n hx hb dL_act_788 rfl (lv_at hl 13 rfl) ?_
                    refine lv_iload hx hb dL_act_789 (lv_at hl 10 rfl) ?_
                    refine me_callVi (As := [.int (nI (v_2 % S))]) (rest := [.double (FP.ddiv (FP.i2d ((paG S B L P (1 + (v_43 % 12)) g) (9 + 10 * (v_2 % S) + 2))) (FP.i2d (nI (T + (1 + (v_43 % 12))))))]) hC hl.1 hM (c_X7_noiseTotal l D tb X z0 n_44 bo (paG S B L P (1 + (v_43 % 12)) g) (recG G g S B L P nx) (recF F nx ct) sf inp out (me_up M0 ra (.inl (tb 0, 1, .inl f_43))) S B L P (v_2 % S) hW2 (by omega)) (kv_L_116 hw rfl rfl ⟨Nat.le_of_ble_eq_true rfl, Nat.le_of_ble_eq_true rfl⟩) rfl rfl (bq_at h_b) rfl (Nat.le_of_ble_eq_true rfl) dL_act_791 ⟨Nat.le_of_ble_eq_true rfl, Nat.le_of_ble_eq_true rfl⟩ (fun H locs hM => ?_)
                    refine lv_i2d hx hb dL_act_794 ?_
                    refine lv_aload_n hx hb dL_act_795 rfl (lv_at hl 13 rfl) ?_
                    refine me_callVi (As := []) (rest := [.double (FP.i2d ((paG S B L P (1 + (v_43 % 12)) g) (9 + 10 * (v_2 % S) + 2))), .double (FP.ddiv (FP.i2d ((paG S B L P (1 + (v_43 % 12)) g) (9 + 10 * (v_2 % S) + 2))) (FP.i2d (nI (T + (1 + (v_43 % 12))))))]) hC hl.1 hM (c_X7_clock l D tb X z0 n_44 bo (paG S B L P (1 + (v_43 % 12)) g) (recG G g S B L P nx) (recF F nx ct) sf inp out (me_up M0 ra (.inl (tb 0, 1, .inl f_43))) S B L P  ) (kv_L_104 hw rfl rfl ⟨Nat.le_of_ble_eq_true rfl, Nat.le_of_ble_eq_true rfl⟩) rfl rfl (bq_at h_b) rfl (Nat.le_of_ble_eq_true rfl) dL_act_796 ⟨Nat.le_of_ble_eq_true rfl, Nat.le_of_ble_eq_true rfl⟩ (fun H locs hM => ?_)
                    refine me_evi (y := nI (T + (1 + (v_43 % 12)))) hT2 ?_
                    refine lv_i2d hx hb dL_act_799 ?_
                    refine lv_ddiv hx hb dL_act_800 (fp_mean (by omega) (by omega)) ?_
                    refine lv_dcmp hx hb dL_act_801 ?_
                    refine me_evi (y := 0) (dcm_ok (fp_mok (by omega) (by omega))) ?_
                    refine lv_if_ne (tgt := 809) hx hb dL_act_802 (by decide) (fun c_92 => ?_) (fun c_92 => ?_)
                    · exact absurd c_92 (by decide)
                    · refine lv_iconst (v := 1) hx hb dL_act_805 (by decide) ?_
                      refine lv_goto (tgt := 810) hx hb dL_act_806 (by decide) ?_
                      refine W.widen (k := 8) (n := 60) (by omega) (by omega) ?_
                      exact me_pret hC hr hlk hM (⟨_, _, _, _, _, rfl, Or.inr (Or.inr (Or.inr (Or.inr (Or.inr (Or.inr (⟨_, by omega, by omega, rfl, rfl, rfl, rfl⟩)))))), rfl⟩) (rfl) dL_act_810
    · have c_2 := (br_eq rfl (show (0 : Int32) = nI 0 from rfl) (by omega) (by omega)).mp c_2
      exfalso; omega
  · have c_1 := (br_eq rfl (show (0 : Int32) = nI 0 from rfl) (by omega) (by omega)).mp c_1
    refine lv_iconst (v := 0) hx hb dL_act_30 (by decide) ?_
    refine lv_goto (tgt := 40) hx hb dL_act_31 (by decide) ?_
    refine lv_istore (lv' := [(5, .int 0), (4, .int (nI (v_2 % S))), (3, .int (nI (v_1 % B))), (2, .int (nI L)), (0, .ref bo), (1, .ref ra)]) hx hb dL_act_40 hl (by decide) rfl (fun ls hl => ?_)
    refine lv_iload_n hx hb dL_act_42 rfl (lv_at hl 3 rfl) ?_
    refine lv_if_ne (tgt := 50) hx hb dL_act_43 (by decide) (fun c_93 => ?_) (fun c_93 => ?_)
    · have c_93 := (not_congr (br_eq rfl (show (0 : Int32) = nI 0 from rfl) (by omega) (by omega))).mp c_93
      exfalso; omega
    · have c_93 := (br_eq rfl (show (0 : Int32) = nI 0 from rfl) (by omega) (by omega)).mp c_93
      refine lv_iconst (v := (-1)) hx hb dL_act_46 (by decide) ?_
      refine lv_goto (tgt := 56) hx hb dL_act_47 (by decide) ?_
      refine lv_istore (lv' := [(6, .int (-1)), (5, .int 0), (4, .int (nI (v_2 % S))), (3, .int (nI (v_1 % B))), (2, .int (nI L)), (0, .ref bo), (1, .ref ra)]) hx hb dL_act_56 hl (by decide) rfl (fun ls hl => ?_)
      refine lv_aload_n hx hb dL_act_58 rfl (lv_at hl 5 rfl) ?_
      refine me_callVi (As := []) (rest := []) hC hl.1 hM (c_X7_clock l D tb X z0 n_2 bo g G F sf inp out (me_up M0 ra (.inl (tb 0, 1, .inl f_2))) S B L P  ) (kv_L_104 hw rfl rfl ⟨Nat.le_of_ble_eq_true rfl, Nat.le_of_ble_eq_true rfl⟩) rfl rfl (bq_at h_b) rfl (Nat.le_of_ble_eq_true rfl) dL_act_59 ⟨Nat.le_of_ble_eq_true rfl, Nat.le_of_ble_eq_true rfl⟩ (fun H locs hM => ?_)
      refine me_evi (y := nI T) hT ?_
      refine lv_aload_n hx hb dL_act_62 rfl (lv_at hl 6 rfl) ?_
      refine me_callSp (As := [.ref ra]) (rest := [.int (nI T)]) hC hl.1 hM (c_L_next l D tb X z0 n_2 ra f_2 (sp tb (bo + 722) g (bq tb bo G F sf inp out (me_up M0 ra (.inl (tb 0, 1, .inl f_2))))) (bq_some hra (me_up_s _ _ _))) (ks_L_79 hw rfl rfl ⟨Nat.le_of_ble_eq_true rfl, Nat.le_of_ble_eq_true rfl⟩) rfl rfl (Nat.le_of_ble_eq_true rfl) dL_act_63 ⟨Nat.le_of_ble_eq_true rfl, Nat.le_of_ble_eq_true rfl⟩ (fun r_45 M_45 hP_45 H locs n_45 hM => ?_)
      obtain ⟨v_45, f_45, rfl, hv_45, rfl⟩ := hP_45
      have hM := hM.eq (bq_upo hra)
      refine lv_bipush (v := 20) hx hb dL_act_66 (by decide) ?_
      refine lv_irem hx hb dL_act_68 (by decide) ?_
      refine me_evi (y := nI (v_45 % 20)) (nx_rem 20 rfl (by omega) (by omega) (by omega)) ?_
      refine lv_iadd hx hb dL_act_69 ?_
      refine me_evi (y := nI (T + (v_45 % 20))) (nx_add rfl rfl) ?_
      refine lv_istore (lv' := [(7, .int (nI (T + (v_45 % 20)))), (6, .int (-1)), (5, .int 0), (4, .int (nI (v_2 % S))), (3, .int (nI (v_1 % B))), (2, .int (nI L)), (0, .ref bo), (1, .ref ra)]) hx hb dL_act_70 hl (by decide) rfl (fun ls hl => ?_)
      refine lv_aload_n hx hb dL_act_72 rfl (lv_at hl 7 rfl) ?_
      refine me_callSp (As := [.ref ra]) (rest := []) hC hl.1 hM (c_L_next l D tb X z0 n_45 ra f_45 (sp tb (bo + 722) g (bq tb bo G F sf inp out (me_up M0 ra (.inl (tb 0, 1, .inl f_45))))) (bq_some hra (me_up_s _ _ _))) (ks_L_79 hw rfl rfl ⟨Nat.le_of_ble_eq_true rfl, Nat.le_of_ble_eq_true rfl⟩) rfl rfl (Nat.le_of_ble_eq_true rfl) dL_act_73 ⟨Nat.le_of_ble_eq_true rfl, Nat.le_of_ble_eq_true rfl⟩ (fun r_46 M_46 hP_46 H locs n_46 hM => ?_)
      obtain ⟨v_46, f_46, rfl, hv_46, rfl⟩ := hP_46
      have hM := hM.eq (bq_upo hra)
      refine lv_bipush (v := 9) hx hb dL_act_76 (by decide) ?_
      refine lv_irem hx hb dL_act_78 (by decide) ?_
      refine me_evi (y := nI (v_46 % 9)) (nx_rem 9 rfl (by omega) (by omega) (by omega)) ?_
      rcases sw9 (v_46 % 9) (by omega) with c_94 | c_94 | c_94 | c_94 | c_94 | c_94 | c_94 | c_94 | c_94
      · refine me_evi (y := 0) c_94 ?_
        refine lv_tableIn (tgt := 120) hx hb dL_act_79 (by decide) (by decide) (off := 41) (by decide) (by decide) ?_
        refine lv_iconst (v := 1) hx hb dL_act_120 (by decide) ?_
        refine lv_aload_n hx hb dL_act_121 rfl (lv_at hl 7 rfl) ?_
        refine me_callSp (As := [.ref ra]) (rest := [.int 1]) hC hl.1 hM (c_L_next l D tb X z0 n_46 ra f_46 (sp tb (bo + 722) g (bq tb bo G F sf inp out (me_up M0 ra (.inl (tb 0, 1, .inl f_46))))) (bq_some hra (me_up_s _ _ _))) (ks_L_79 hw rfl rfl ⟨Nat.le_of_ble_eq_true rfl, Nat.le_of_ble_eq_true rfl⟩) rfl rfl (Nat.le_of_ble_eq_true rfl) dL_act_122 ⟨Nat.le_of_ble_eq_true rfl, Nat.le_of_ble_eq_true rfl⟩ (fun r_47 M_47 hP_47 H locs n_47 hM => ?_)
        obtain ⟨v_47, f_47, rfl, hv_47, rfl⟩ := hP_47
        have hM := hM.eq (bq_upo hra)
        refine lv_bipush (v := 6) hx hb dL_act_125 (by decide) ?_
        refine lv_irem hx hb dL_act_127 (by decide) ?_
        refine me_evi (y := nI (v_47 % 6)) (nx_rem 6 rfl (by omega) (by omega) (by omega)) ?_
        refine lv_iadd hx hb dL_act_128 ?_
        refine me_evi (y := nI (1 + (v_47 % 6))) (nx_add (show (1 : Int32) = nI 1 from rfl) rfl) ?_
        refine lv_istore (lv' := [(8, .int (nI (1 + (v_47 % 6)))), (7, .int (nI (T + (v_45 % 20)))), (6, .int (-1)), (5, .int 0), (4, .int (nI (v_2 % S))), (3, .int (nI (v_1 % B))), (2, .int (nI L)), (0, .ref bo), (1, .ref ra)]) hx hb dL_act_129 hl (by decide) rfl (fun ls hl => ?_)
        refine lv_aload_n hx hb dL_act_131 rfl (lv_at hl 7 rfl) ?_
        refine lv_iload_n hx hb dL_act_132 rfl (lv_at hl 5 rfl) ?_
        refine lv_iload hx hb dL_act_133 (lv_at hl 1 rfl) ?_
        refine lv_iload hx hb dL_act_135 (lv_at hl 0 rfl) ?_
        refine me_callSnp (nA := 4) (As := [.ref bo, .int (nI (v_1 % B)), .int (nI (T + (v_45 % 20))), .int (nI (1 + (v_47 % 6)))]) (rest := []) hC hl.1 hM (c_L_refused (mc := 0) (ms := 0) l D tb X z0 n_47 bo (nI (v_1 % B)) (nI (T + (v_45 % 20))) (nI (1 + (v_47 % 6))) rfl rfl ⟨Nat.le_of_ble_eq_true rfl, Nat.le_of_ble_eq_true rfl⟩ (bq_at h_b) (c_X7_refusal l D tb X z0 n_47 bo g G F sf inp out (me_up M0 ra (.inl (tb 0, 1, .inl f_47))) S B L P T (v_1 % B) (T + (v_45 % 20)) (1 + (v_47 % 6)) hW hT hT0 (by omega) (by omega) (by omega) (by omega) (by omega))) w_1239 w_1240 w_0 w_1241 (by decide +kernel) rfl rfl ⟨Nat.le_of_ble_eq_true rfl, Nat.le_of_ble_eq_true rfl⟩ rfl rfl (Nat.le_of_ble_eq_true rfl) dL_act_137 ⟨Nat.le_of_ble_eq_true rfl, Nat.le_of_ble_eq_true rfl⟩ (fun r_48 M_48 hP_48 H locs n_48 hM => ?_)
        obtain ⟨rfl, rfl⟩ := hP_48
        refine lv_istore (lv' := [(9, .int (reF g L P (v_1 % B) (T + (v_45 % 20)) (1 + (v_47 % 6)))), (8, .int (nI (1 + (v_47 % 6)))), (7, .int (nI (T + (v_45 % 20)))), (6, .int (-1)), (5, .int 0), (4, .int (nI (v_2 % S))), (3, .int (nI (v_1 % B))), (2, .int (nI L)), (0, .ref bo), (1, .ref ra)]) hx hb dL_act_140 hl (by decide) rfl (fun ls hl => ?_)
        refine lv_aload_n hx hb dL_act_142 rfl (lv_at hl 8 rfl) ?_
        refine lv_iload_n hx hb dL_act_143 rfl (lv_at hl 6 rfl) ?_
        refine lv_iload hx hb dL_act_144 (lv_at hl 1 rfl) ?_
        refine me_callVi (As := [.int (nI (v_1 % B)), .int (nI (1 + (v_47 % 6)))]) (rest := []) hC hl.1 hM (c_X7_quote l D tb X z0 n_48 bo g G F sf inp out (me_up M0 ra (.inl (tb 0, 1, .inl f_47))) S B L P (v_1 % B) (1 + (v_47 % 6)) hW (by omega) (by omega) (by omega)) (kv_L_179 hw rfl rfl ⟨Nat.le_of_ble_eq_true rfl, Nat.le_of_ble_eq_true rfl⟩) rfl rfl (bq_at h_b) rfl (Nat.le_of_ble_eq_true rfl) dL_act_146 ⟨Nat.le_of_ble_eq_true rfl, Nat.le_of_ble_eq_true rfl⟩ (fun H locs hM => ?_)
        refine lv_istore (lv' := [(10, .int (prF g (v_1 % B) (nI (1 + (v_47 % 6))))), (9, .int (reF g L P (v_1 % B) (T + (v_45 % 20)) (1 + (v_47 % 6)))), (8, .int (nI (1 + (v_47 % 6)))), (7, .int (nI (T + (v_45 % 20)))), (6, .int (-1)), (5, .int 0), (4, .int (nI (v_2 % S))), (3, .int (nI (v_1 % B))), (2, .int (nI L)), (0, .ref bo), (1, .ref ra)]) hx hb dL_act_149 hl (by decide) rfl (fun ls hl => ?_)
        refine lv_aload_n hx hb dL_act_151 rfl (lv_at hl 9 rfl) ?_
        refine lv_iload_n hx hb dL_act_152 rfl (lv_at hl 7 rfl) ?_
        refine me_callVi (As := [.int (nI (v_1 % B))]) (rest := []) hC hl.1 hM (c_X7_creditOf l D tb X z0 n_48 bo g G F sf inp out (me_up M0 ra (.inl (tb 0, 1, .inl f_47))) S B L P (v_1 % B) hW (by omega)) (kv_L_134 hw rfl rfl ⟨Nat.le_of_ble_eq_true rfl, Nat.le_of_ble_eq_true rfl⟩) rfl rfl (bq_at h_b) rfl (Nat.le_of_ble_eq_true rfl) dL_act_153 ⟨Nat.le_of_ble_eq_true rfl, Nat.le_of_ble_eq_true rfl⟩ (fun H locs hM => ?_)
        refine lv_istore (lv' := [(11, .int (g (89 + 11 * (v_1 % B) + 2))), (10, .int (prF g (v_1 % B) (nI (1 + (v_47 % 6))))), (9, .int (reF g L P (v_1 % B) (T + (v_45 % 20)) (1 + (v_47 % 6)))), (8, .int (nI (1 + (v_47 % 6)))), (7, .int (nI (T + (v_45 % 20)))), (6, .int (-1)), (5, .int 0), (4, .int (nI (v_2 % S))), (3, .int (nI (v_1 % B))), (2, .int (nI L)), (0, .ref bo), (1, .ref ra)]) hx hb dL_act_156 hl (by decide) rfl (fun ls hl => ?_)
        have hem := Classical.em (reF g L P (v_1 % B) (T + (v_45 % 20)) (1 + (v_47 % 6)) = 0)
        have a1_ := a1 (v_1 % B) (T + (v_45 % 20)) (1 + (v_47 % 6)) (by omega) (by omega) (by omega) (by omega) (by omega)
        rcases hem with hre | hre
        · skip
          refine lv_aload_n hx hb dL_act_158 rfl (lv_at hl 10 rfl) ?_
          refine lv_iload_n hx hb dL_act_159 rfl (lv_at hl 8 rfl) ?_
          refine lv_iload hx hb dL_act_160 (lv_at hl 4 rfl) ?_
          refine lv_iload hx hb dL_act_162 (lv_at hl 3 rfl) ?_
          refine me_callSnp (nA := 4) (As := [.ref bo, .int (nI (v_1 % B)), .int (nI (T + (v_45 % 20))), .int (nI (1 + (v_47 % 6)))]) (rest := []) hC hl.1 hM (c_L_lent (mc := 0) (ms := 0) l D tb X z0 n_48 bo (nI (v_1 % B)) (nI (T + (v_45 % 20))) (nI (1 + (v_47 % 6))) rfl rfl ⟨Nat.le_of_ble_eq_true rfl, Nat.le_of_ble_eq_true rfl⟩ (bq_at h_b) (c_X7_lend l D tb X z0 n_48 bo g G F sf inp out (me_up M0 ra (.inl (tb 0, 1, .inl f_47))) S B L P T nx ct (v_1 % B) (T + (v_45 % 20)) (1 + (v_47 % 6)) hW hT hT0 hnx hnx0 hct hct0 (by omega) (by omega) (by omega) (by omega) (by omega) hre)) w_756 w_757 w_0 w_758 (by decide +kernel) rfl rfl ⟨Nat.le_of_ble_eq_true rfl, Nat.le_of_ble_eq_true rfl⟩ rfl rfl (Nat.le_of_ble_eq_true rfl) dL_act_164 ⟨Nat.le_of_ble_eq_true rfl, Nat.le_of_ble_eq_true rfl⟩ (fun r_49 M_49 hP_49 H locs n_49 hM => ?_)
          obtain ⟨rfl, rfl⟩ := hP_49
          have hL30 := reF_L hW hre
          have hW2 := wf_ad (s := (T + (v_45 % 20))) (n := (1 + (v_47 % 6))) hW (show v_1 % B < B by omega) hL30
          have hT2 := (a0 (v_1 % B) (T + (v_45 % 20)) (1 + (v_47 % 6)) (by omega) (by omega)).trans hT
          refine lv_istore (lv' := [(12, .int (nI L)), (11, .int (g (89 + 11 * (v_1 % B) + 2))), (10, .int (prF g (v_1 % B) (nI (1 + (v_47 % 6))))), (9, .int (reF g L P (v_1 % B) (T + (v_45 % 20)) (1 + (v_47 % 6)))), (8, .int (nI (1 + (v_47 % 6)))), (7, .int (nI (T + (v_45 % 20)))), (6, .int (-1)), (5, .int 0), (4, .int (nI (v_2 % S))), (3, .int (nI (v_1 % B))), (2, .int (nI L)), (0, .ref bo), (1, .ref ra)]) hx hb dL_act_167 hl (by decide) rfl (fun ls hl => ?_)
          refine lv_iload hx hb dL_act_169 (lv_at hl 3 rfl) ?_
          refine me_evi (y := 0) hre ?_
          refine lv_if_eq (tgt := 202) hx hb dL_act_171 (by decide) (fun c_95 => ?_) (fun c_95 => ?_)
          · refine lv_iload hx hb dL_act_202 (lv_at hl 0 rfl) ?_
            refine lv_iload_n hx hb dL_act_204 rfl (lv_at hl 10 rfl) ?_
            refine lv_icmp_ne (tgt := 252) hx hb dL_act_205 (by decide) (fun c_96 => ?_) (fun c_96 => ?_)
            · exact absurd rfl c_96
            · refine lv_aload_n hx hb dL_act_208 rfl (lv_at hl 11 rfl) ?_
              refine lv_iload_n hx hb dL_act_209 rfl (lv_at hl 9 rfl) ?_
              refine me_callVi (As := [.int (nI (v_1 % B))]) (rest := []) hC hl.1 hM (c_X7_creditOf l D tb X z0 n_49 bo (adF g L (v_1 % B) (T + (v_45 % 20)) (1 + (v_47 % 6))) (recG G g S B L P nx) (recF F nx ct) sf inp out (me_up M0 ra (.inl (tb 0, 1, .inl f_47))) S B (L + 1) P (v_1 % B) hW2 (by omega)) (kv_L_134 hw rfl rfl ⟨Nat.le_of_ble_eq_true rfl, Nat.le_of_ble_eq_true rfl⟩) rfl rfl (bq_at h_b) rfl (Nat.le_of_ble_eq_true rfl) dL_act_210 ⟨Nat.le_of_ble_eq_true rfl, Nat.le_of_ble_eq_true rfl⟩ (fun H locs hM => ?_)
              refine me_evi (y := g (89 + 11 * (v_1 % B) + 2) - prF g (v_1 % B) (nI (1 + (v_47 % 6)))) (a1_ hre).1 ?_
              refine lv_iload hx hb dL_act_213 (lv_at hl 1 rfl) ?_
              refine lv_iload hx hb dL_act_215 (lv_at hl 2 rfl) ?_
              refine lv_isub hx hb dL_act_217 ?_
              refine me_evi (y := g (89 + 11 * (v_1 % B) + 2) - prF g (v_1 % B) (nI (1 + (v_47 % 6)))) rfl ?_
              refine lv_icmp_ne (tgt := 252) hx hb dL_act_218 (by decide) (fun c_97 => ?_) (fun c_97 => ?_)
              · exact absurd rfl c_97
              · refine lv_aload_n hx hb dL_act_221 rfl (lv_at hl 11 rfl) ?_
                refine lv_iload hx hb dL_act_222 (lv_at hl 5 rfl) ?_
                refine me_callVi (As := [.int (nI (T + (v_45 % 20)))]) (rest := []) hC hl.1 hM (c_X7_holderOf l D tb X z0 n_49 bo (adF g L (v_1 % B) (T + (v_45 % 20)) (1 + (v_47 % 6))) (recG G g S B L P nx) (recF F nx ct) sf inp out (me_up M0 ra (.inl (tb 0, 1, .inl f_47))) S B (L + 1) P T (T + (v_45 % 20)) hW2 hT2 hT0 (by omega) (by omega)) (kv_L_165 hw rfl rfl ⟨Nat.le_of_ble_eq_true rfl, Nat.le_of_ble_eq_true rfl⟩) rfl rfl (bq_at h_b) rfl (Nat.le_of_ble_eq_true rfl) dL_act_224 ⟨Nat.le_of_ble_eq_true rfl, Nat.le_of_ble_eq_true rfl⟩ (fun H locs hM => ?_)
                refine me_evi (y := nI L) ((a1_ hre).2 _ (by omega) (by omega)) ?_
                refine lv_iload hx hb dL_act_227 (lv_at hl 0 rfl) ?_
                refine lv_icmp_ne (tgt := 252) hx hb dL_act_229 (by decide) (fun c_98 => ?_) (fun c_98 => ?_)
                · exact absurd rfl c_98
                · refine lv_aload_n hx hb dL_act_232 rfl (lv_at hl 11 rfl) ?_
                  refine lv_iload hx hb dL_act_233 (lv_at hl 5 rfl) ?_
                  refine lv_iload hx hb dL_act_235 (lv_at hl 4 rfl) ?_
                  refine lv_iadd hx hb dL_act_237 ?_
                  refine lv_iconst (v := 1) hx hb dL_act_238 (by decide) ?_
                  refine lv_isub hx hb dL_act_239 ?_
                  refine me_evi (y := nI (T + (v_45 % 20) + (1 + (v_47 % 6)) - 1)) (nx_sub (nx_add rfl rfl) (show (1 : Int32) = nI 1 from rfl) (by omega)) ?_
                  refine me_callVi (As := [.int (nI (T + (v_45 % 20) + (1 + (v_47 % 6)) - 1))]) (rest := []) hC hl.1 hM (c_X7_holderOf l D tb X z0 n_49 bo (adF g L (v_1 % B) (T + (v_45 % 20)) (1 + (v_47 % 6))) (recG G g S B L P nx) (recF F nx ct) sf inp out (me_up M0 ra (.inl (tb 0, 1, .inl f_47))) S B (L + 1) P T (T + (v_45 % 20) + (1 + (v_47 % 6)) - 1) hW2 hT2 hT0 (by omega) (by omega)) (kv_L_165 hw rfl rfl ⟨Nat.le_of_ble_eq_true rfl, Nat.le_of_ble_eq_true rfl⟩) rfl rfl (bq_at h_b) rfl (Nat.le_of_ble_eq_true rfl) dL_act_240 ⟨Nat.le_of_ble_eq_true rfl, Nat.le_of_ble_eq_true rfl⟩ (fun H locs hM => ?_)
                  refine me_evi (y := nI L) ((a1_ hre).2 _ (by omega) (by omega)) ?_
                  refine lv_iload hx hb dL_act_243 (lv_at hl 0 rfl) ?_
                  refine lv_icmp_ne (tgt := 252) hx hb dL_act_245 (by decide) (fun c_99 => ?_) (fun c_99 => ?_)
                  · exact absurd rfl c_99
                  · refine lv_iconst (v := 1) hx hb dL_act_248 (by decide) ?_
                    refine lv_goto (tgt := 253) hx hb dL_act_249 (by decide) ?_
                    refine W.widen (k := 8) (n := 60) (by omega) (by omega) ?_
                    exact me_pret hC hr hlk hM (⟨_, _, _, _, _, rfl, Or.inl (⟨_, _, _, by omega, by omega, by omega, by omega, by omega, hre, rfl, rfl, rfl, rfl⟩), rfl⟩) (rfl) dL_act_253
          · exact absurd c_95 (by decide)
        · skip
          refine lv_aload_n hx hb dL_act_158 rfl (lv_at hl 10 rfl) ?_
          refine lv_iload_n hx hb dL_act_159 rfl (lv_at hl 8 rfl) ?_
          refine lv_iload hx hb dL_act_160 (lv_at hl 4 rfl) ?_
          refine lv_iload hx hb dL_act_162 (lv_at hl 3 rfl) ?_
          refine me_callSnp (nA := 4) (As := [.ref bo, .int (nI (v_1 % B)), .int (nI (T + (v_45 % 20))), .int (nI (1 + (v_47 % 6)))]) (rest := []) hC hl.1 hM (c_L_lent_x3 (mc := 1) (ms := 6) l D tb X z0 n_48 bo (nI (v_1 % B)) (nI (T + (v_45 % 20))) (nI (1 + (v_47 % 6))) hCE rfl rfl ⟨Nat.le_of_ble_eq_true rfl, Nat.le_of_ble_eq_true rfl⟩ (bq_at h_b) (c_X7_lend_x4 l D tb X z0 n_48 bo g G F sf inp out (me_up M0 ra (.inl (tb 0, 1, .inl f_47))) S B L P T (v_1 % B) (T + (v_45 % 20)) (1 + (v_47 % 6)) hfl hXs hW hT hT0 (by omega) (by omega) (by omega) (by omega) (by omega) hre)) w_756 w_757 w_0 w_758 (by decide +kernel) rfl rfl ⟨Nat.le_of_ble_eq_true rfl, Nat.le_of_ble_eq_true rfl⟩ rfl rfl (Nat.le_of_ble_eq_true rfl) dL_act_164 ⟨Nat.le_of_ble_eq_true rfl, Nat.le_of_ble_eq_true rfl⟩ (fun r_50 M_50 hP_50 H locs n_50 hM => ?_)
          obtain ⟨rfl, rfl⟩ := hP_50
          refine lv_istore (lv' := [(12, .int (-3)), (11, .int (g (89 + 11 * (v_1 % B) + 2))), (10, .int (prF g (v_1 % B) (nI (1 + (v_47 % 6))))), (9, .int (reF g L P (v_1 % B) (T + (v_45 % 20)) (1 + (v_47 % 6)))), (8, .int (nI (1 + (v_47 % 6)))), (7, .int (nI (T + (v_45 % 20)))), (6, .int (-1)), (5, .int 0), (4, .int (nI (v_2 % S))), (3, .int (nI (v_1 % B))), (2, .int (nI L)), (0, .ref bo), (1, .ref ra)]) hx hb dL_act_167 hl (by decide) rfl (fun ls hl => ?_)
          refine lv_iload hx hb dL_act_169 (lv_at hl 3 rfl) ?_
          refine lv_if_eq (tgt := 202) hx hb dL_act_171 (by decide) (fun c_100 => ?_) (fun c_100 => ?_)
          · exact absurd c_100 hre
          · refine lv_iload hx hb dL_act_174 (lv_at hl 0 rfl) ?_
            refine lv_bipush (v := (-3)) hx hb dL_act_176 (by decide) ?_
            refine lv_icmp_ne (tgt := 198) hx hb dL_act_178 (by decide) (fun c_101 => ?_) (fun c_101 => ?_)
            · exact absurd c_101 (by decide)
            · refine lv_aload_n hx hb dL_act_181 rfl (lv_at hl 11 rfl) ?_
              refine lv_iload_n hx hb dL_act_182 rfl (lv_at hl 9 rfl) ?_
              refine lv_iconst (v := 3) hx hb dL_act_183 (by decide) ?_
              refine me_callSnp (nA := 3) (As := [.ref bo, .int (nI (v_1 % B)), .int 3]) (rest := []) hC hl.1 hM (c_L_paid (mc := 0) (ms := 0) l D tb X z0 n_50 bo (nI (v_1 % B)) 3 rfl rfl ⟨Nat.le_of_ble_eq_true rfl, Nat.le_of_ble_eq_true rfl⟩ (bq_at h_b) (c_X7_pay l D tb X z0 n_50 bo g G F sf inp out (me_up M0 ra (.inl (tb 0, 1, .inl f_47))) S B L P nx ct (v_1 % B) 3 hW hnx hnx0 hct hct0 (by omega) (by decide) (by decide))) w_833 w_834 w_0 w_835 (by decide +kernel) rfl rfl ⟨Nat.le_of_ble_eq_true rfl, Nat.le_of_ble_eq_true rfl⟩ rfl rfl (Nat.le_of_ble_eq_true rfl) dL_act_184 ⟨Nat.le_of_ble_eq_true rfl, Nat.le_of_ble_eq_true rfl⟩ (fun r_51 M_51 hP_51 H locs n_51 hM => ?_)
              obtain ⟨rfl, rfl⟩ := hP_51
              refine lv_iload hx hb dL_act_187 (lv_at hl 1 rfl) ?_
              refine lv_iconst (v := 3) hx hb dL_act_189 (by decide) ?_
              refine lv_iadd hx hb dL_act_190 ?_
              refine me_evi (y := g (89 + 11 * (v_1 % B) + 2) + nI 3) rfl ?_
              refine lv_icmp_ne (tgt := 198) hx hb dL_act_191 (by decide) (fun c_102 => ?_) (fun c_102 => ?_)
              · exact absurd rfl c_102
              · refine lv_iconst (v := 1) hx hb dL_act_194 (by decide) ?_
                refine lv_goto (tgt := 253) hx hb dL_act_195 (by decide) ?_
                refine W.widen (k := 8) (n := 60) (by omega) (by omega) ?_
                exact me_pret hC hr hlk hM (⟨_, _, _, _, _, rfl, Or.inr (Or.inr (Or.inr (Or.inr (Or.inr (Or.inl (⟨v_1 % B, 3, by omega, by decide, by decide, rfl, rfl, rfl, rfl⟩)))))), rfl⟩) (rfl) dL_act_253
      · refine me_evi (y := 1) c_94 ?_
        refine lv_tableIn (tgt := 120) hx hb dL_act_79 (by decide) (by decide) (off := 41) (by decide) (by decide) ?_
        refine lv_iconst (v := 1) hx hb dL_act_120 (by decide) ?_
        refine lv_aload_n hx hb dL_act_121 rfl (lv_at hl 7 rfl) ?_
        refine me_callSp (As := [.ref ra]) (rest := [.int 1]) hC hl.1 hM (c_L_next l D tb X z0 n_46 ra f_46 (sp tb (bo + 722) g (bq tb bo G F sf inp out (me_up M0 ra (.inl (tb 0, 1, .inl f_46))))) (bq_some hra (me_up_s _ _ _))) (ks_L_79 hw rfl rfl ⟨Nat.le_of_ble_eq_true rfl, Nat.le_of_ble_eq_true rfl⟩) rfl rfl (Nat.le_of_ble_eq_true rfl) dL_act_122 ⟨Nat.le_of_ble_eq_true rfl, Nat.le_of_ble_eq_true rfl⟩ (fun r_52 M_52 hP_52 H locs n_52 hM => ?_)
        obtain ⟨v_52, f_52, rfl, hv_52, rfl⟩ := hP_52
        have hM := hM.eq (bq_upo hra)
        refine lv_bipush (v := 6) hx hb dL_act_125 (by decide) ?_
        refine lv_irem hx hb dL_act_127 (by decide) ?_
        refine me_evi (y := nI (v_52 % 6)) (nx_rem 6 rfl (by omega) (by omega) (by omega)) ?_
        refine lv_iadd hx hb dL_act_128 ?_
        refine me_evi (y := nI (1 + (v_52 % 6))) (nx_add (show (1 : Int32) = nI 1 from rfl) rfl) ?_
        refine lv_istore (lv' := [(8, .int (nI (1 + (v_52 % 6)))), (7, .int (nI (T + (v_45 % 20)))), (6, .int (-1)), (5, .int 0), (4, .int (nI (v_2 % S))), (3, .int (nI (v_1 % B))), (2, .int (nI L)), (0, .ref bo), (1, .ref ra)]) hx hb dL_act_129 hl (by decide) rfl (fun ls hl => ?_)
        refine lv_aload_n hx hb dL_act_131 rfl (lv_at hl 7 rfl) ?_
        refine lv_iload_n hx hb dL_act_132 rfl (lv_at hl 5 rfl) ?_
        refine lv_iload hx hb dL_act_133 (lv_at hl 1 rfl) ?_
        refine lv_iload hx hb dL_act_135 (lv_at hl 0 rfl) ?_
        refine me_callSnp (nA := 4) (As := [.ref bo, .int (nI (v_1 % B)), .int (nI (T + (v_45 % 20))), .int (nI (1 + (v_52 % 6)))]) (rest := []) hC hl.1 hM (c_L_refused (mc := 0) (ms := 0) l D tb X z0 n_52 bo (nI (v_1 % B)) (nI (T + (v_45 % 20))) (nI (1 + (v_52 % 6))) rfl rfl ⟨Nat.le_of_ble_eq_true rfl, Nat.le_of_ble_eq_true rfl⟩ (bq_at h_b) (c_X7_refusal l D tb X z0 n_52 bo g G F sf inp out (me_up M0 ra (.inl (tb 0, 1, .inl f_52))) S B L P T (v_1 % B) (T + (v_45 % 20)) (1 + (v_52 % 6)) hW hT hT0 (by omega) (by omega) (by omega) (by omega) (by omega))) w_1239 w_1240 w_0 w_1241 (by decide +kernel) rfl rfl ⟨Nat.le_of_ble_eq_true rfl, Nat.le_of_ble_eq_true rfl⟩ rfl rfl (Nat.le_of_ble_eq_true rfl) dL_act_137 ⟨Nat.le_of_ble_eq_true rfl, Nat.le_of_ble_eq_true rfl⟩ (fun r_53 M_53 hP_53 H locs n_53 hM => ?_)
        obtain ⟨rfl, rfl⟩ := hP_53
        refine lv_istore (lv' := [(9, .int (reF g L P (v_1 % B) (T + (v_45 % 20)) (1 + (v_52 % 6)))), (8, .int (nI (1 + (v_52 % 6)))), (7, .int (nI (T + (v_45 % 20)))), (6, .int (-1)), (5, .int 0), (4, .int (nI (v_2 % S))), (3, .int (nI (v_1 % B))), (2, .int (nI L)), (0, .ref bo), (1, .ref ra)]) hx hb dL_act_140 hl (by decide) rfl (fun ls hl => ?_)
        refine lv_aload_n hx hb dL_act_142 rfl (lv_at hl 8 rfl) ?_
        refine lv_iload_n hx hb dL_act_143 rfl (lv_at hl 6 rfl) ?_
        refine lv_iload hx hb dL_act_144 (lv_at hl 1 rfl) ?_
        refine me_callVi (As := [.int (nI (v_1 % B)), .int (nI (1 + (v_52 % 6)))]) (rest := []) hC hl.1 hM (c_X7_quote l D tb X z0 n_53 bo g G F sf inp out (me_up M0 ra (.inl (tb 0, 1, .inl f_52))) S B L P (v_1 % B) (1 + (v_52 % 6)) hW (by omega) (by omega) (by omega)) (kv_L_179 hw rfl rfl ⟨Nat.le_of_ble_eq_true rfl, Nat.le_of_ble_eq_true rfl⟩) rfl rfl (bq_at h_b) rfl (Nat.le_of_ble_eq_true rfl) dL_act_146 ⟨Nat.le_of_ble_eq_true rfl, Nat.le_of_ble_eq_true rfl⟩ (fun H locs hM => ?_)
        refine lv_istore (lv' := [(10, .int (prF g (v_1 % B) (nI (1 + (v_52 % 6))))), (9, .int (reF g L P (v_1 % B) (T + (v_45 % 20)) (1 + (v_52 % 6)))), (8, .int (nI (1 + (v_52 % 6)))), (7, .int (nI (T + (v_45 % 20)))), (6, .int (-1)), (5, .int 0), (4, .int (nI (v_2 % S))), (3, .int (nI (v_1 % B))), (2, .int (nI L)), (0, .ref bo), (1, .ref ra)]) hx hb dL_act_149 hl (by decide) rfl (fun ls hl => ?_)
        refine lv_aload_n hx hb dL_act_151 rfl (lv_at hl 9 rfl) ?_
        refine lv_iload_n hx hb dL_act_152 rfl (lv_at hl 7 rfl) ?_
        refine me_callVi (As := [.int (nI (v_1 % B))]) (rest := []) hC hl.1 hM (c_X7_creditOf l D tb X z0 n_53 bo g G F sf inp out (me_up M0 ra (.inl (tb 0, 1, .inl f_52))) S B L P (v_1 % B) hW (by omega)) (kv_L_134 hw rfl rfl ⟨Nat.le_of_ble_eq_true rfl, Nat.le_of_ble_eq_true rfl⟩) rfl rfl (bq_at h_b) rfl (Nat.le_of_ble_eq_true rfl) dL_act_153 ⟨Nat.le_of_ble_eq_true rfl, Nat.le_of_ble_eq_true rfl⟩ (fun H locs hM => ?_)
        refine lv_istore (lv' := [(11, .int (g (89 + 11 * (v_1 % B) + 2))), (10, .int (prF g (v_1 % B) (nI (1 + (v_52 % 6))))), (9, .int (reF g L P (v_1 % B) (T + (v_45 % 20)) (1 + (v_52 % 6)))), (8, .int (nI (1 + (v_52 % 6)))), (7, .int (nI (T + (v_45 % 20)))), (6, .int (-1)), (5, .int 0), (4, .int (nI (v_2 % S))), (3, .int (nI (v_1 % B))), (2, .int (nI L)), (0, .ref bo), (1, .ref ra)]) hx hb dL_act_156 hl (by decide) rfl (fun ls hl => ?_)
        have hem := Classical.em (reF g L P (v_1 % B) (T + (v_45 % 20)) (1 + (v_52 % 6)) = 0)
        have a1_ := a1 (v_1 % B) (T + (v_45 % 20)) (1 + (v_52 % 6)) (by omega) (by omega) (by omega) (by omega) (by omega)
        rcases hem with hre | hre
        · skip
          refine lv_aload_n hx hb dL_act_158 rfl (lv_at hl 10 rfl) ?_
          refine lv_iload_n hx hb dL_act_159 rfl (lv_at hl 8 rfl) ?_
          refine lv_iload hx hb dL_act_160 (lv_at hl 4 rfl) ?_
          refine lv_iload hx hb dL_act_162 (lv_at hl 3 rfl) ?_
          refine me_callSnp (nA := 4) (As := [.ref bo, .int (nI (v_1 % B)), .int (nI (T + (v_45 % 20))), .int (nI (1 + (v_52 % 6)))]) (rest := []) hC hl.1 hM (c_L_lent (mc := 0) (ms := 0) l D tb X z0 n_53 bo (nI (v_1 % B)) (nI (T + (v_45 % 20))) (nI (1 + (v_52 % 6))) rfl rfl ⟨Nat.le_of_ble_eq_true rfl, Nat.le_of_ble_eq_true rfl⟩ (bq_at h_b) (c_X7_lend l D tb X z0 n_53 bo g G F sf inp out (me_up M0 ra (.inl (tb 0, 1, .inl f_52))) S B L P T nx ct (v_1 % B) (T + (v_45 % 20)) (1 + (v_52 % 6)) hW hT hT0 hnx hnx0 hct hct0 (by omega) (by omega) (by omega) (by omega) (by omega) hre)) w_756 w_757 w_0 w_758 (by decide +kernel) rfl rfl ⟨Nat.le_of_ble_eq_true rfl, Nat.le_of_ble_eq_true rfl⟩ rfl rfl (Nat.le_of_ble_eq_true rfl) dL_act_164 ⟨Nat.le_of_ble_eq_true rfl, Nat.le_of_ble_eq_true rfl⟩ (fun r_54 M_54 hP_54 H locs n_54 hM => ?_)
          obtain ⟨rfl, rfl⟩ := hP_54
          have hL30 := reF_L hW hre
          have hW2 := wf_ad (s := (T + (v_45 % 20))) (n := (1 + (v_52 % 6))) hW (show v_1 % B < B by omega) hL30
          have hT2 := (a0 (v_1 % B) (T + (v_45 % 20)) (1 + (v_52 % 6)) (by omega) (by omega)).trans hT
          refine lv_istore (lv' := [(12, .int (nI L)), (11, .int (g (89 + 11 * (v_1 % B) + 2))), (10, .int (prF g (v_1 % B) (nI (1 + (v_52 % 6))))), (9, .int (reF g L P (v_1 % B) (T + (v_45 % 20)) (1 + (v_52 % 6)))), (8, .int (nI (1 + (v_52 % 6)))), (7, .int (nI (T + (v_45 % 20)))), (6, .int (-1)), (5, .int 0), (4, .int (nI (v_2 % S))), (3, .int (nI (v_1 % B))), (2, .int (nI L)), (0, .ref bo), (1, .ref ra)]) hx hb dL_act_167 hl (by decide) rfl (fun ls hl => ?_)
          refine lv_iload hx hb dL_act_169 (lv_at hl 3 rfl) ?_
          refine me_evi (y := 0) hre ?_
          refine lv_if_eq (tgt := 202) hx hb dL_act_171 (by decide) (fun c_103 => ?_) (fun c_103 => ?_)
          · refine lv_iload hx hb dL_act_202 (lv_at hl 0 rfl) ?_
            refine lv_iload_n hx hb dL_act_204 rfl (lv_at hl 10 rfl) ?_
            refine lv_icmp_ne (tgt := 252) hx hb dL_act_205 (by decide) (fun c_104 => ?_) (fun c_104 => ?_)
            · exact absurd rfl c_104
            · refine lv_aload_n hx hb dL_act_208 rfl (lv_at hl 11 rfl) ?_
              refine lv_iload_n hx hb dL_act_209 rfl (lv_at hl 9 rfl) ?_
              refine me_callVi (As := [.int (nI (v_1 % B))]) (rest := []) hC hl.1 hM (c_X7_creditOf l D tb X z0 n_54 bo (adF g L (v_1 % B) (T + (v_45 % 20)) (1 + (v_52 % 6))) (recG G g S B L P nx) (recF F nx ct) sf inp out (me_up M0 ra (.inl (tb 0, 1, .inl f_52))) S B (L + 1) P (v_1 % B) hW2 (by omega)) (kv_L_134 hw rfl rfl ⟨Nat.le_of_ble_eq_true rfl, Nat.le_of_ble_eq_true rfl⟩) rfl rfl (bq_at h_b) rfl (Nat.le_of_ble_eq_true rfl) dL_act_210 ⟨Nat.le_of_ble_eq_true rfl, Nat.le_of_ble_eq_true rfl⟩ (fun H locs hM => ?_)
              refine me_evi (y := g (89 + 11 * (v_1 % B) + 2) - prF g (v_1 % B) (nI (1 + (v_52 % 6)))) (a1_ hre).1 ?_
              refine lv_iload hx hb dL_act_213 (lv_at hl 1 rfl) ?_
              refine lv_iload hx hb dL_act_215 (lv_at hl 2 rfl) ?_
              refine lv_isub hx hb dL_act_217 ?_
              refine me_evi (y := g (89 + 11 * (v_1 % B) + 2) - prF g (v_1 % B) (nI (1 + (v_52 % 6)))) rfl ?_
              refine lv_icmp_ne (tgt := 252) hx hb dL_act_218 (by decide) (fun c_105 => ?_) (fun c_105 => ?_)
              · exact absurd rfl c_105
              · refine lv_aload_n hx hb dL_act_221 rfl (lv_at hl 11 rfl) ?_
                refine lv_iload hx hb dL_act_222 (lv_at hl 5 rfl) ?_
                refine me_callVi (As := [.int (nI (T + (v_45 % 20)))]) (rest := []) hC hl.1 hM (c_X7_holderOf l D tb X z0 n_54 bo (adF g L (v_1 % B) (T + (v_45 % 20)) (1 + (v_52 % 6))) (recG G g S B L P nx) (recF F nx ct) sf inp out (me_up M0 ra (.inl (tb 0, 1, .inl f_52))) S B (L + 1) P T (T + (v_45 % 20)) hW2 hT2 hT0 (by omega) (by omega)) (kv_L_165 hw rfl rfl ⟨Nat.le_of_ble_eq_true rfl, Nat.le_of_ble_eq_true rfl⟩) rfl rfl (bq_at h_b) rfl (Nat.le_of_ble_eq_true rfl) dL_act_224 ⟨Nat.le_of_ble_eq_true rfl, Nat.le_of_ble_eq_true rfl⟩ (fun H locs hM => ?_)
                refine me_evi (y := nI L) ((a1_ hre).2 _ (by omega) (by omega)) ?_
                refine lv_iload hx hb dL_act_227 (lv_at hl 0 rfl) ?_
                refine lv_icmp_ne (tgt := 252) hx hb dL_act_229 (by decide) (fun c_106 => ?_) (fun c_106 => ?_)
                · exact absurd rfl c_106
                · refine lv_aload_n hx hb dL_act_232 rfl (lv_at hl 11 rfl) ?_
                  refine lv_iload hx hb dL_act_233 (lv_at hl 5 rfl) ?_
                  refine lv_iload hx hb dL_act_235 (lv_at hl 4 rfl) ?_
                  refine lv_iadd hx hb dL_act_237 ?_
                  refine lv_iconst (v := 1) hx hb dL_act_238 (by decide) ?_
                  refine lv_isub hx hb dL_act_239 ?_
                  refine me_evi (y := nI (T + (v_45 % 20) + (1 + (v_52 % 6)) - 1)) (nx_sub (nx_add rfl rfl) (show (1 : Int32) = nI 1 from rfl) (by omega)) ?_
                  refine me_callVi (As := [.int (nI (T + (v_45 % 20) + (1 + (v_52 % 6)) - 1))]) (rest := []) hC hl.1 hM (c_X7_holderOf l D tb X z0 n_54 bo (adF g L (v_1 % B) (T + (v_45 % 20)) (1 + (v_52 % 6))) (recG G g S B L P nx) (recF F nx ct) sf inp out (me_up M0 ra (.inl (tb 0, 1, .inl f_52))) S B (L + 1) P T (T + (v_45 % 20) + (1 + (v_52 % 6)) - 1) hW2 hT2 hT0 (by omega) (by omega)) (kv_L_165 hw rfl rfl ⟨Nat.le_of_ble_eq_true rfl, Nat.le_of_ble_eq_true rfl⟩) rfl rfl (bq_at h_b) rfl (Nat.le_of_ble_eq_true rfl) dL_act_240 ⟨Nat.le_of_ble_eq_true rfl, Nat.le_of_ble_eq_true rfl⟩ (fun H locs hM => ?_)
                  refine me_evi (y := nI L) ((a1_ hre).2 _ (by omega) (by omega)) ?_
                  refine lv_iload hx hb dL_act_243 (lv_at hl 0 rfl) ?_
                  refine lv_icmp_ne (tgt := 252) hx hb dL_act_245 (by decide) (fun c_107 => ?_) (fun c_107 => ?_)
                  · exact absurd rfl c_107
                  · refine lv_iconst (v := 1) hx hb dL_act_248 (by decide) ?_
                    refine lv_goto (tgt := 253) hx hb dL_act_249 (by decide) ?_
                    refine W.widen (k := 8) (n := 60) (by omega) (by omega) ?_
                    exact me_pret hC hr hlk hM (⟨_, _, _, _, _, rfl, Or.inl (⟨_, _, _, by omega, by omega, by omega, by omega, by omega, hre, rfl, rfl, rfl, rfl⟩), rfl⟩) (rfl) dL_act_253
          · exact absurd c_103 (by decide)
        · skip
          refine lv_aload_n hx hb dL_act_158 rfl (lv_at hl 10 rfl) ?_
          refine lv_iload_n hx hb dL_act_159 rfl (lv_at hl 8 rfl) ?_
          refine lv_iload hx hb dL_act_160 (lv_at hl 4 rfl) ?_
          refine lv_iload hx hb dL_act_162 (lv_at hl 3 rfl) ?_
          refine me_callSnp (nA := 4) (As := [.ref bo, .int (nI (v_1 % B)), .int (nI (T + (v_45 % 20))), .int (nI (1 + (v_52 % 6)))]) (rest := []) hC hl.1 hM (c_L_lent_x3 (mc := 1) (ms := 6) l D tb X z0 n_53 bo (nI (v_1 % B)) (nI (T + (v_45 % 20))) (nI (1 + (v_52 % 6))) hCE rfl rfl ⟨Nat.le_of_ble_eq_true rfl, Nat.le_of_ble_eq_true rfl⟩ (bq_at h_b) (c_X7_lend_x4 l D tb X z0 n_53 bo g G F sf inp out (me_up M0 ra (.inl (tb 0, 1, .inl f_52))) S B L P T (v_1 % B) (T + (v_45 % 20)) (1 + (v_52 % 6)) hfl hXs hW hT hT0 (by omega) (by omega) (by omega) (by omega) (by omega) hre)) w_756 w_757 w_0 w_758 (by decide +kernel) rfl rfl ⟨Nat.le_of_ble_eq_true rfl, Nat.le_of_ble_eq_true rfl⟩ rfl rfl (Nat.le_of_ble_eq_true rfl) dL_act_164 ⟨Nat.le_of_ble_eq_true rfl, Nat.le_of_ble_eq_true rfl⟩ (fun r_55 M_55 hP_55 H locs n_55 hM => ?_)
          obtain ⟨rfl, rfl⟩ := hP_55
          refine lv_istore (lv' := [(12, .int (-3)), (11, .int (g (89 + 11 * (v_1 % B) + 2))), (10, .int (prF g (v_1 % B) (nI (1 + (v_52 % 6))))), (9, .int (reF g L P (v_1 % B) (T + (v_45 % 20)) (1 + (v_52 % 6)))), (8, .int (nI (1 + (v_52 % 6)))), (7, .int (nI (T + (v_45 % 20)))), (6, .int (-1)), (5, .int 0), (4, .int (nI (v_2 % S))), (3, .int (nI (v_1 % B))), (2, .int (nI L)), (0, .ref bo), (1, .ref ra)]) hx hb dL_act_167 hl (by decide) rfl (fun ls hl => ?_)
          refine lv_iload hx hb dL_act_169 (lv_at hl 3 rfl) ?_
          refine lv_if_eq (tgt := 202) hx hb dL_act_171 (by decide) (fun c_108 => ?_) (fun c_108 => ?_)
          · exact absurd c_108 hre
          · refine lv_iload hx hb dL_act_174 (lv_at hl 0 rfl) ?_
            refine lv_bipush (v := (-3)) hx hb dL_act_176 (by decide) ?_
            refine lv_icmp_ne (tgt := 198) hx hb dL_act_178 (by decide) (fun c_109 => ?_) (fun c_109 => ?_)
            · exact absurd c_109 (by decide)
            · refine lv_aload_n hx hb dL_act_181 rfl (lv_at hl 11 rfl) ?_
              refine lv_iload_n hx hb dL_act_182 rfl (lv_at hl 9 rfl) ?_
              refine lv_iconst (v := 3) hx hb dL_act_183 (by decide) ?_
              refine me_callSnp (nA := 3) (As := [.ref bo, .int (nI (v_1 % B)), .int 3]) (rest := []) hC hl.1 hM (c_L_paid (mc := 0) (ms := 0) l D tb X z0 n_55 bo (nI (v_1 % B)) 3 rfl rfl ⟨Nat.le_of_ble_eq_true rfl, Nat.le_of_ble_eq_true rfl⟩ (bq_at h_b) (c_X7_pay l D tb X z0 n_55 bo g G F sf inp out (me_up M0 ra (.inl (tb 0, 1, .inl f_52))) S B L P nx ct (v_1 % B) 3 hW hnx hnx0 hct hct0 (by omega) (by decide) (by decide))) w_833 w_834 w_0 w_835 (by decide +kernel) rfl rfl ⟨Nat.le_of_ble_eq_true rfl, Nat.le_of_ble_eq_true rfl⟩ rfl rfl (Nat.le_of_ble_eq_true rfl) dL_act_184 ⟨Nat.le_of_ble_eq_true rfl, Nat.le_of_ble_eq_true rfl⟩ (fun r_56 M_56 hP_56 H locs n_56 hM => ?_)
              obtain ⟨rfl, rfl⟩ := hP_56
              refine lv_iload hx hb dL_act_187 (lv_at hl 1 rfl) ?_
              refine lv_iconst (v := 3) hx hb dL_act_189 (by decide) ?_
              refine lv_iadd hx hb dL_act_190 ?_
              refine me_evi (y := g (89 + 11 * (v_1 % B) + 2) + nI 3) rfl ?_
              refine lv_icmp_ne (tgt := 198) hx hb dL_act_191 (by decide) (fun c_110 => ?_) (fun c_110 => ?_)
              · exact absurd rfl c_110
              · refine lv_iconst (v := 1) hx hb dL_act_194 (by decide) ?_
                refine lv_goto (tgt := 253) hx hb dL_act_195 (by decide) ?_
                refine W.widen (k := 8) (n := 60) (by omega) (by omega) ?_
                exact me_pret hC hr hlk hM (⟨_, _, _, _, _, rfl, Or.inr (Or.inr (Or.inr (Or.inr (Or.inr (Or.inl (⟨v_1 % B, 3, by omega, by decide, by decide, rfl, rfl, rfl, rfl⟩)))))), rfl⟩) (rfl) dL_act_253
      · refine me_evi (y := 2) c_94 ?_
        refine lv_tableIn (tgt := 120) hx hb dL_act_79 (by decide) (by decide) (off := 41) (by decide) (by decide) ?_
        refine lv_iconst (v := 1) hx hb dL_act_120 (by decide) ?_
        refine lv_aload_n hx hb dL_act_121 rfl (lv_at hl 7 rfl) ?_
        refine me_callSp (As := [.ref ra]) (rest := [.int 1]) hC hl.1 hM (c_L_next l D tb X z0 n_46 ra f_46 (sp tb (bo + 722) g (bq tb bo G F sf inp out (me_up M0 ra (.inl (tb 0, 1, .inl f_46))))) (bq_some hra (me_up_s _ _ _))) (ks_L_79 hw rfl rfl ⟨Nat.le_of_ble_eq_true rfl, Nat.le_of_ble_eq_true rfl⟩) rfl rfl (Nat.le_of_ble_eq_true rfl) dL_act_122 ⟨Nat.le_of_ble_eq_true rfl, Nat.le_of_ble_eq_true rfl⟩ (fun r_57 M_57 hP_57 H locs n_57 hM => ?_)
        obtain ⟨v_57, f_57, rfl, hv_57, rfl⟩ := hP_57
        have hM := hM.eq (bq_upo hra)
        refine lv_bipush (v := 6) hx hb dL_act_125 (by decide) ?_
        refine lv_irem hx hb dL_act_127 (by decide) ?_
        refine me_evi (y := nI (v_57 % 6)) (nx_rem 6 rfl (by omega) (by omega) (by omega)) ?_
        refine lv_iadd hx hb dL_act_128 ?_
        refine me_evi (y := nI (1 + (v_57 % 6))) (nx_add (show (1 : Int32) = nI 1 from rfl) rfl) ?_
        refine lv_istore (lv' := [(8, .int (nI (1 + (v_57 % 6)))), (7, .int (nI (T + (v_45 % 20)))), (6, .int (-1)), (5, .int 0), (4, .int (nI (v_2 % S))), (3, .int (nI (v_1 % B))), (2, .int (nI L)), (0, .ref bo), (1, .ref ra)]) hx hb dL_act_129 hl (by decide) rfl (fun ls hl => ?_)
        refine lv_aload_n hx hb dL_act_131 rfl (lv_at hl 7 rfl) ?_
        refine lv_iload_n hx hb dL_act_132 rfl (lv_at hl 5 rfl) ?_
        refine lv_iload hx hb dL_act_133 (lv_at hl 1 rfl) ?_
        refine lv_iload hx hb dL_act_135 (lv_at hl 0 rfl) ?_
        refine me_callSnp (nA := 4) (As := [.ref bo, .int (nI (v_1 % B)), .int (nI (T + (v_45 % 20))), .int (nI (1 + (v_57 % 6)))]) (rest := []) hC hl.1 hM (c_L_refused (mc := 0) (ms := 0) l D tb X z0 n_57 bo (nI (v_1 % B)) (nI (T + (v_45 % 20))) (nI (1 + (v_57 % 6))) rfl rfl ⟨Nat.le_of_ble_eq_true rfl, Nat.le_of_ble_eq_true rfl⟩ (bq_at h_b) (c_X7_refusal l D tb X z0 n_57 bo g G F sf inp out (me_up M0 ra (.inl (tb 0, 1, .inl f_57))) S B L P T (v_1 % B) (T + (v_45 % 20)) (1 + (v_57 % 6)) hW hT hT0 (by omega) (by omega) (by omega) (by omega) (by omega))) w_1239 w_1240 w_0 w_1241 (by decide +kernel) rfl rfl ⟨Nat.le_of_ble_eq_true rfl, Nat.le_of_ble_eq_true rfl⟩ rfl rfl (Nat.le_of_ble_eq_true rfl) dL_act_137 ⟨Nat.le_of_ble_eq_true rfl, Nat.le_of_ble_eq_true rfl⟩ (fun r_58 M_58 hP_58 H locs n_58 hM => ?_)
        obtain ⟨rfl, rfl⟩ := hP_58
        refine lv_istore (lv' := [(9, .int (reF g L P (v_1 % B) (T + (v_45 % 20)) (1 + (v_57 % 6)))), (8, .int (nI (1 + (v_57 % 6)))), (7, .int (nI (T + (v_45 % 20)))), (6, .int (-1)), (5, .int 0), (4, .int (nI (v_2 % S))), (3, .int (nI (v_1 % B))), (2, .int (nI L)), (0, .ref bo), (1, .ref ra)]) hx hb dL_act_140 hl (by decide) rfl (fun ls hl => ?_)
        refine lv_aload_n hx hb dL_act_142 rfl (lv_at hl 8 rfl) ?_
        refine lv_iload_n hx hb dL_act_143 rfl (lv_at hl 6 rfl) ?_
        refine lv_iload hx hb dL_act_144 (lv_at hl 1 rfl) ?_
        refine me_callVi (As := [.int (nI (v_1 % B)), .int (nI (1 + (v_57 % 6)))]) (rest := []) hC hl.1 hM (c_X7_quote l D tb X z0 n_58 bo g G F sf inp out (me_up M0 ra (.inl (tb 0, 1, .inl f_57))) S B L P (v_1 % B) (1 + (v_57 % 6)) hW (by omega) (by omega) (by omega)) (kv_L_179 hw rfl rfl ⟨Nat.le_of_ble_eq_true rfl, Nat.le_of_ble_eq_true rfl⟩) rfl rfl (bq_at h_b) rfl (Nat.le_of_ble_eq_true rfl) dL_act_146 ⟨Nat.le_of_ble_eq_true rfl, Nat.le_of_ble_eq_true rfl⟩ (fun H locs hM => ?_)
        refine lv_istore (lv' := [(10, .int (prF g (v_1 % B) (nI (1 + (v_57 % 6))))), (9, .int (reF g L P (v_1 % B) (T + (v_45 % 20)) (1 + (v_57 % 6)))), (8, .int (nI (1 + (v_57 % 6)))), (7, .int (nI (T + (v_45 % 20)))), (6, .int (-1)), (5, .int 0), (4, .int (nI (v_2 % S))), (3, .int (nI (v_1 % B))), (2, .int (nI L)), (0, .ref bo), (1, .ref ra)]) hx hb dL_act_149 hl (by decide) rfl (fun ls hl => ?_)
        refine lv_aload_n hx hb dL_act_151 rfl (lv_at hl 9 rfl) ?_
        refine lv_iload_n hx hb dL_act_152 rfl (lv_at hl 7 rfl) ?_
        refine me_callVi (As := [.int (nI (v_1 % B))]) (rest := []) hC hl.1 hM (c_X7_creditOf l D tb X z0 n_58 bo g G F sf inp out (me_up M0 ra (.inl (tb 0, 1, .inl f_57))) S B L P (v_1 % B) hW (by omega)) (kv_L_134 hw rfl rfl ⟨Nat.le_of_ble_eq_true rfl, Nat.le_of_ble_eq_true rfl⟩) rfl rfl (bq_at h_b) rfl (Nat.le_of_ble_eq_true rfl) dL_act_153 ⟨Nat.le_of_ble_eq_true rfl, Nat.le_of_ble_eq_true rfl⟩ (fun H locs hM => ?_)
        refine lv_istore (lv' := [(11, .int (g (89 + 11 * (v_1 % B) + 2))), (10, .int (prF g (v_1 % B) (nI (1 + (v_57 % 6))))), (9, .int (reF g L P (v_1 % B) (T + (v_45 % 20)) (1 + (v_57 % 6)))), (8, .int (nI (1 + (v_57 % 6)))), (7, .int (nI (T + (v_45 % 20)))), (6, .int (-1)), (5, .int 0), (4, .int (nI (v_2 % S))), (3, .int (nI (v_1 % B))), (2, .int (nI L)), (0, .ref bo), (1, .ref ra)]) hx hb dL_act_156 hl (by decide) rfl (fun ls hl => ?_)
        have hem := Classical.em (reF g L P (v_1 % B) (T + (v_45 % 20)) (1 + (v_57 % 6)) = 0)
        have a1_ := a1 (v_1 % B) (T + (v_45 % 20)) (1 + (v_57 % 6)) (by omega) (by omega) (by omega) (by omega) (by omega)
        rcases hem with hre | hre
        · skip
          refine lv_aload_n hx hb dL_act_158 rfl (lv_at hl 10 rfl) ?_
          refine lv_iload_n hx hb dL_act_159 rfl (lv_at hl 8 rfl) ?_
          refine lv_iload hx hb dL_act_160 (lv_at hl 4 rfl) ?_
          refine lv_iload hx hb dL_act_162 (lv_at hl 3 rfl) ?_
          refine me_callSnp (nA := 4) (As := [.ref bo, .int (nI (v_1 % B)), .int (nI (T + (v_45 % 20))), .int (nI (1 + (v_57 % 6)))]) (rest := []) hC hl.1 hM (c_L_lent (mc := 0) (ms := 0) l D tb X z0 n_58 bo (nI (v_1 % B)) (nI (T + (v_45 % 20))) (nI (1 + (v_57 % 6))) rfl rfl ⟨Nat.le_of_ble_eq_true rfl, Nat.le_of_ble_eq_true rfl⟩ (bq_at h_b) (c_X7_lend l D tb X z0 n_58 bo g G F sf inp out (me_up M0 ra (.inl (tb 0, 1, .inl f_57))) S B L P T nx ct (v_1 % B) (T + (v_45 % 20)) (1 + (v_57 % 6)) hW hT hT0 hnx hnx0 hct hct0 (by omega) (by omega) (by omega) (by omega) (by omega) hre)) w_756 w_757 w_0 w_758 (by decide +kernel) rfl rfl ⟨Nat.le_of_ble_eq_true rfl, Nat.le_of_ble_eq_true rfl⟩ rfl rfl (Nat.le_of_ble_eq_true rfl) dL_act_164 ⟨Nat.le_of_ble_eq_true rfl, Nat.le_of_ble_eq_true rfl⟩ (fun r_59 M_59 hP_59 H locs n_59 hM => ?_)
          obtain ⟨rfl, rfl⟩ := hP_59
          have hL30 := reF_L hW hre
          have hW2 := wf_ad (s := (T + (v_45 % 20))) (n := (1 + (v_57 % 6))) hW (show v_1 % B < B by omega) hL30
          have hT2 := (a0 (v_1 % B) (T + (v_45 % 20)) (1 + (v_57 % 6)) (by omega) (by omega)).trans hT
          refine lv_istore (lv' := [(12, .int (nI L)), (11, .int (g (89 + 11 * (v_1 % B) + 2))), (10, .int (prF g (v_1 % B) (nI (1 + (v_57 % 6))))), (9, .int (reF g L P (v_1 % B) (T + (v_45 % 20)) (1 + (v_57 % 6)))), (8, .int (nI (1 + (v_57 % 6)))), (7, .int (nI (T + (v_45 % 20)))), (6, .int (-1)), (5, .int 0), (4, .int (nI (v_2 % S))), (3, .int (nI (v_1 % B))), (2, .int (nI L)), (0, .ref bo), (1, .ref ra)]) hx hb dL_act_167 hl (by decide) rfl (fun ls hl => ?_)
          refine lv_iload hx hb dL_act_169 (lv_at hl 3 rfl) ?_
          refine me_evi (y := 0) hre ?_
          refine lv_if_eq (tgt := 202) hx hb dL_act_171 (by decide) (fun c_111 => ?_) (fun c_111 => ?_)
          · refine lv_iload hx hb dL_act_202 (lv_at hl 0 rfl) ?_
            refine lv_iload_n hx hb dL_act_204 rfl (lv_at hl 10 rfl) ?_
            refine lv_icmp_ne (tgt := 252) hx hb dL_act_205 (by decide) (fun c_112 => ?_) (fun c_112 => ?_)
            · exact absurd rfl c_112
            · refine lv_aload_n hx hb dL_act_208 rfl (lv_at hl 11 rfl) ?_
              refine lv_iload_n hx hb dL_act_209 rfl (lv_at hl 9 rfl) ?_
              refine me_callVi (As := [.int (nI (v_1 % B))]) (rest := []) hC hl.1 hM (c_X7_creditOf l D tb X z0 n_59 bo (adF g L (v_1 % B) (T + (v_45 % 20)) (1 + (v_57 % 6))) (recG G g S B L P nx) (recF F nx ct) sf inp out (me_up M0 ra (.inl (tb 0, 1, .inl f_57))) S B (L + 1) P (v_1 % B) hW2 (by omega)) (kv_L_134 hw rfl rfl ⟨Nat.le_of_ble_eq_true rfl, Nat.le_of_ble_eq_true rfl⟩) rfl rfl (bq_at h_b) rfl (Nat.le_of_ble_eq_true rfl) dL_act_210 ⟨Nat.le_of_ble_eq_true rfl, Nat.le_of_ble_eq_true rfl⟩ (fun H locs hM => ?_)
              refine me_evi (y := g (89 + 11 * (v_1 % B) + 2) - prF g (v_1 % B) (nI (1 + (v_57 % 6)))) (a1_ hre).1 ?_
              refine lv_iload hx hb dL_act_213 (lv_at hl 1 rfl) ?_
              refine lv_iload hx hb dL_act_215 (lv_at hl 2 rfl) ?_
              refine lv_isub hx hb dL_act_217 ?_
              refine me_evi (y := g (89 + 11 * (v_1 % B) + 2) - prF g (v_1 % B) (nI (1 + (v_57 % 6)))) rfl ?_
              refine lv_icmp_ne (tgt := 252) hx hb dL_act_218 (by decide) (fun c_113 => ?_) (fun c_113 => ?_)
              · exact absurd rfl c_113
              · refine lv_aload_n hx hb dL_act_221 rfl (lv_at hl 11 rfl) ?_
                refine lv_iload hx hb dL_act_222 (lv_at hl 5 rfl) ?_
                refine me_callVi (As := [.int (nI (T + (v_45 % 20)))]) (rest := []) hC hl.1 hM (c_X7_holderOf l D tb X z0 n_59 bo (adF g L (v_1 % B) (T + (v_45 % 20)) (1 + (v_57 % 6))) (recG G g S B L P nx) (recF F nx ct) sf inp out (me_up M0 ra (.inl (tb 0, 1, .inl f_57))) S B (L + 1) P T (T + (v_45 % 20)) hW2 hT2 hT0 (by omega) (by omega)) (kv_L_165 hw rfl rfl ⟨Nat.le_of_ble_eq_true rfl, Nat.le_of_ble_eq_true rfl⟩) rfl rfl (bq_at h_b) rfl (Nat.le_of_ble_eq_true rfl) dL_act_224 ⟨Nat.le_of_ble_eq_true rfl, Nat.le_of_ble_eq_true rfl⟩ (fun H locs hM => ?_)
                refine me_evi (y := nI L) ((a1_ hre).2 _ (by omega) (by omega)) ?_
                refine lv_iload hx hb dL_act_227 (lv_at hl 0 rfl) ?_
                refine lv_icmp_ne (tgt := 252) hx hb dL_act_229 (by decide) (fun c_114 => ?_) (fun c_114 => ?_)
                · exact absurd rfl c_114
                · refine lv_aload_n hx hb dL_act_232 rfl (lv_at hl 11 rfl) ?_
                  refine lv_iload hx hb dL_act_233 (lv_at hl 5 rfl) ?_
                  refine lv_iload hx hb dL_act_235 (lv_at hl 4 rfl) ?_
                  refine lv_iadd hx hb dL_act_237 ?_
                  refine lv_iconst (v := 1) hx hb dL_act_238 (by decide) ?_
                  refine lv_isub hx hb dL_act_239 ?_
                  refine me_evi (y := nI (T + (v_45 % 20) + (1 + (v_57 % 6)) - 1)) (nx_sub (nx_add rfl rfl) (show (1 : Int32) = nI 1 from rfl) (by omega)) ?_
                  refine me_callVi (As := [.int (nI (T + (v_45 % 20) + (1 + (v_57 % 6)) - 1))]) (rest := []) hC hl.1 hM (c_X7_holderOf l D tb X z0 n_59 bo (adF g L (v_1 % B) (T + (v_45 % 20)) (1 + (v_57 % 6))) (recG G g S B L P nx) (recF F nx ct) sf inp out (me_up M0 ra (.inl (tb 0, 1, .inl f_57))) S B (L + 1) P T (T + (v_45 % 20) + (1 + (v_57 % 6)) - 1) hW2 hT2 hT0 (by omega) (by omega)) (kv_L_165 hw rfl rfl ⟨Nat.le_of_ble_eq_true rfl, Nat.le_of_ble_eq_true rfl⟩) rfl rfl (bq_at h_b) rfl (Nat.le_of_ble_eq_true rfl) dL_act_240 ⟨Nat.le_of_ble_eq_true rfl, Nat.le_of_ble_eq_true rfl⟩ (fun H locs hM => ?_)
                  refine me_evi (y := nI L) ((a1_ hre).2 _ (by omega) (by omega)) ?_
                  refine lv_iload hx hb dL_act_243 (lv_at hl 0 rfl) ?_
                  refine lv_icmp_ne (tgt := 252) hx hb dL_act_245 (by decide) (fun c_115 => ?_) (fun c_115 => ?_)
                  · exact absurd rfl c_115
                  · refine lv_iconst (v := 1) hx hb dL_act_248 (by decide) ?_
                    refine lv_goto (tgt := 253) hx hb dL_act_249 (by decide) ?_
                    refine W.widen (k := 8) (n := 60) (by omega) (by omega) ?_
                    exact me_pret hC hr hlk hM (⟨_, _, _, _, _, rfl, Or.inl (⟨_, _, _, by omega, by omega, by omega, by omega, by omega, hre, rfl, rfl, rfl, rfl⟩), rfl⟩) (rfl) dL_act_253
          · exact absurd c_111 (by decide)
        · skip
          refine lv_aload_n hx hb dL_act_158 rfl (lv_at hl 10 rfl) ?_
          refine lv_iload_n hx hb dL_act_159 rfl (lv_at hl 8 rfl) ?_
          refine lv_iload hx hb dL_act_160 (lv_at hl 4 rfl) ?_
          refine lv_iload hx hb dL_act_162 (lv_at hl 3 rfl) ?_
          refine me_callSnp (nA := 4) (As := [.ref bo, .int (nI (v_1 % B)), .int (nI (T + (v_45 % 20))), .int (nI (1 + (v_57 % 6)))]) (rest := []) hC hl.1 hM (c_L_lent_x3 (mc := 1) (ms := 6) l D tb X z0 n_58 bo (nI (v_1 % B)) (nI (T + (v_45 % 20))) (nI (1 + (v_57 % 6))) hCE rfl rfl ⟨Nat.le_of_ble_eq_true rfl, Nat.le_of_ble_eq_true rfl⟩ (bq_at h_b) (c_X7_lend_x4 l D tb X z0 n_58 bo g G F sf inp out (me_up M0 ra (.inl (tb 0, 1, .inl f_57))) S B L P T (v_1 % B) (T + (v_45 % 20)) (1 + (v_57 % 6)) hfl hXs hW hT hT0 (by omega) (by omega) (by omega) (by omega) (by omega) hre)) w_756 w_757 w_0 w_758 (by decide +kernel) rfl rfl ⟨Nat.le_of_ble_eq_true rfl, Nat.le_of_ble_eq_true rfl⟩ rfl rfl (Nat.le_of_ble_eq_true rfl) dL_act_164 ⟨Nat.le_of_ble_eq_true rfl, Nat.le_of_ble_eq_true rfl⟩ (fun r_60 M_60 hP_60 H locs n_60 hM => ?_)
          obtain ⟨rfl, rfl⟩ := hP_60
          refine lv_istore (lv' := [(12, .int (-3)), (11, .int (g (89 + 11 * (v_1 % B) + 2))), (10, .int (prF g (v_1 % B) (nI (1 + (v_57 % 6))))), (9, .int (reF g L P (v_1 % B) (T + (v_45 % 20)) (1 + (v_57 % 6)))), (8, .int (nI (1 + (v_57 % 6)))), (7, .int (nI (T + (v_45 % 20)))), (6, .int (-1)), (5, .int 0), (4, .int (nI (v_2 % S))), (3, .int (nI (v_1 % B))), (2, .int (nI L)), (0, .ref bo), (1, .ref ra)]) hx hb dL_act_167 hl (by decide) rfl (fun ls hl => ?_)
          refine lv_iload hx hb dL_act_169 (lv_at hl 3 rfl) ?_
          refine lv_if_eq (tgt := 202) hx hb dL_act_171 (by decide) (fun c_116 => ?_) (fun c_116 => ?_)
          · exact absurd c_116 hre
          · refine lv_iload hx hb dL_act_174 (lv_at hl 0 rfl) ?_
            refine lv_bipush (v := (-3)) hx hb dL_act_176 (by decide) ?_
            refine lv_icmp_ne (tgt := 198) hx hb dL_act_178 (by decide) (fun c_117 => ?_) (fun c_117 => ?_)
            · exact absurd c_117 (by decide)
            · refine lv_aload_n hx hb dL_act_181 rfl (lv_at hl 11 rfl) ?_
              refine lv_iload_n hx hb dL_act_182 rfl (lv_at hl 9 rfl) ?_
              refine lv_iconst (v := 3) hx hb dL_act_183 (by decide) ?_
              refine me_callSnp (nA := 3) (As := [.ref bo, .int (nI (v_1 % B)), .int 3]) (rest := []) hC hl.1 hM (c_L_paid (mc := 0) (ms := 0) l D tb X z0 n_60 bo (nI (v_1 % B)) 3 rfl rfl ⟨Nat.le_of_ble_eq_true rfl, Nat.le_of_ble_eq_true rfl⟩ (bq_at h_b) (c_X7_pay l D tb X z0 n_60 bo g G F sf inp out (me_up M0 ra (.inl (tb 0, 1, .inl f_57))) S B L P nx ct (v_1 % B) 3 hW hnx hnx0 hct hct0 (by omega) (by decide) (by decide))) w_833 w_834 w_0 w_835 (by decide +kernel) rfl rfl ⟨Nat.le_of_ble_eq_true rfl, Nat.le_of_ble_eq_true rfl⟩ rfl rfl (Nat.le_of_ble_eq_true rfl) dL_act_184 ⟨Nat.le_of_ble_eq_true rfl, Nat.le_of_ble_eq_true rfl⟩ (fun r_61 M_61 hP_61 H locs n_61 hM => ?_)
              obtain ⟨rfl, rfl⟩ := hP_61
              refine lv_iload hx hb dL_act_187 (lv_at hl 1 rfl) ?_
              refine lv_iconst (v := 3) hx hb dL_act_189 (by decide) ?_
              refine lv_iadd hx hb dL_act_190 ?_
              refine me_evi (y := g (89 + 11 * (v_1 % B) + 2) + nI 3) rfl ?_
              refine lv_icmp_ne (tgt := 198) hx hb dL_act_191 (by decide) (fun c_118 => ?_) (fun c_118 => ?_)
              · exact absurd rfl c_118
              · refine lv_iconst (v := 1) hx hb dL_act_194 (by decide) ?_
                refine lv_goto (tgt := 253) hx hb dL_act_195 (by decide) ?_
                refine W.widen (k := 8) (n := 60) (by omega) (by omega) ?_
                exact me_pret hC hr hlk hM (⟨_, _, _, _, _, rfl, Or.inr (Or.inr (Or.inr (Or.inr (Or.inr (Or.inl (⟨v_1 % B, 3, by omega, by decide, by decide, rfl, rfl, rfl, rfl⟩)))))), rfl⟩) (rfl) dL_act_253
      · refine me_evi (y := 3) c_94 ?_
        refine lv_tableIn (tgt := 254) hx hb dL_act_79 (by decide) (by decide) (off := 175) (by decide) (by decide) ?_
        refine lv_iload hx hb dL_act_254 (lv_at hl 1 rfl) ?_
        refine lv_if_ne (tgt := 279) hx hb dL_act_256 (by decide) (fun c_119 => ?_) (fun c_119 => ?_)
        · refine lv_iconst (v := 0) hx hb dL_act_279 (by decide) ?_
          refine lv_istore (lv' := [(13, .int 0), (7, .int (nI (T + (v_45 % 20)))), (6, .int (-1)), (5, .int 0), (4, .int (nI (v_2 % S))), (3, .int (nI (v_1 % B))), (2, .int (nI L)), (0, .ref bo), (1, .ref ra)]) hx hb dL_act_280 hl (by decide) rfl (fun ls hl => ?_)
          have hL00 : L = 0 := c_1
          refine lv_aload_n hx hb dL_act_282 rfl (lv_at hl 7 rfl) ?_
          refine lv_iload hx hb dL_act_283 (lv_at hl 3 rfl) ?_
          refine me_callSnp (nA := 2) (As := [.ref bo, .int 0]) (rest := []) hC hl.1 hM (c_L_cancelled_x1 (mc := 1) (ms := 6) l D tb X z0 n_46 bo 0 hCE rfl rfl ⟨Nat.le_of_ble_eq_true rfl, Nat.le_of_ble_eq_true rfl⟩ (bq_at h_b) (c_X7_cancel_x1 l D tb X z0 n_46 bo g G F sf inp out (me_up M0 ra (.inl (tb 0, 1, .inl f_46))) S B L P 0 hfl hXs (Or.inr (by rw [hW.2.2.2.2.1, hL00]; decide)))) w_779 w_780 w_0 w_781 (by decide +kernel) rfl rfl ⟨Nat.le_of_ble_eq_true rfl, Nat.le_of_ble_eq_true rfl⟩ rfl rfl (Nat.le_of_ble_eq_true rfl) dL_act_285 ⟨Nat.le_of_ble_eq_true rfl, Nat.le_of_ble_eq_true rfl⟩ (fun r_62 M_62 hP_62 H locs n_62 hM => ?_)
          obtain ⟨rfl, rfl⟩ := hP_62
          refine lv_istore (lv' := [(14, .int (-99995)), (13, .int 0), (7, .int (nI (T + (v_45 % 20)))), (6, .int (-1)), (5, .int 0), (4, .int (nI (v_2 % S))), (3, .int (nI (v_1 % B))), (2, .int (nI L)), (0, .ref bo), (1, .ref ra)]) hx hb dL_act_288 hl (by decide) rfl (fun ls hl => ?_)
          refine lv_iload hx hb dL_act_290 (lv_at hl 3 rfl) ?_
          refine lv_if_ne (tgt := 320) hx hb dL_act_292 (by decide) (fun c_120 => ?_) (fun c_120 => ?_)
          · refine lv_iload hx hb dL_act_320 (lv_at hl 0 rfl) ?_
            refine lv_ldc (v := (-99990)) hx hb hC.2.2.2.1 (hw _ w_1274) dL_act_322 ?_
            refine lv_icmp_ge (tgt := 343) hx hb dL_act_324 (by decide) (fun c_121 => ?_) (fun c_121 => ?_)
            · exact absurd c_121 (by decide)
            · have c_121q := c_121
              have c_121 := Int32.not_le.mp c_121
              refine lv_aload_n hx hb dL_act_327 rfl (lv_at hl 8 rfl) ?_
              refine lv_iload_n hx hb dL_act_328 rfl (lv_at hl 6 rfl) ?_
              refine lv_iconst (v := 1) hx hb dL_act_329 (by decide) ?_
              refine me_callSnp (nA := 3) (As := [.ref bo, .int (nI (v_1 % B)), .int 1]) (rest := []) hC hl.1 hM (c_L_paid (mc := 0) (ms := 0) l D tb X z0 n_62 bo (nI (v_1 % B)) 1 rfl rfl ⟨Nat.le_of_ble_eq_true rfl, Nat.le_of_ble_eq_true rfl⟩ (bq_at h_b) (c_X7_pay l D tb X z0 n_62 bo g G F sf inp out (me_up M0 ra (.inl (tb 0, 1, .inl f_46))) S B L P nx ct (v_1 % B) 1 hW hnx hnx0 hct hct0 (by omega) (by decide) (by decide))) w_833 w_834 w_0 w_835 (by decide +kernel) rfl rfl ⟨Nat.le_of_ble_eq_true rfl, Nat.le_of_ble_eq_true rfl⟩ rfl rfl (Nat.le_of_ble_eq_true rfl) dL_act_330 ⟨Nat.le_of_ble_eq_true rfl, Nat.le_of_ble_eq_true rfl⟩ (fun r_63 M_63 hP_63 H locs n_63 hM => ?_)
              obtain ⟨rfl, rfl⟩ := hP_63
              refine lv_sipush (v := (-9999)) hx hb dL_act_333 (by decide) ?_
              refine lv_icmp_le (tgt := 343) hx hb dL_act_336 (by decide) (fun c_122 => ?_) (fun c_122 => ?_)
              · have c_122q := c_122
                have c_122 := Int32.not_lt.mpr c_122
                exact absurd c_122q (a3 _ _ (by omega) (by decide))
              · have c_122q := c_122
                have c_122 := Int32.not_le.mp c_122
                refine lv_iconst (v := 1) hx hb dL_act_339 (by decide) ?_
                refine lv_goto (tgt := 344) hx hb dL_act_340 (by decide) ?_
                refine W.widen (k := 8) (n := 60) (by omega) (by omega) ?_
                exact me_pret hC hr hlk hM (⟨_, _, _, _, _, rfl, Or.inr (Or.inr (Or.inr (Or.inr (Or.inr (Or.inl (⟨v_1 % B, 1, by omega, by decide, by decide, rfl, rfl, rfl, rfl⟩)))))), rfl⟩) (rfl) dL_act_344
          · exact absurd c_120 (by decide)
        · exact absurd c_119 (by decide)
      · refine me_evi (y := 4) c_94 ?_
        refine lv_tableIn (tgt := 345) hx hb dL_act_79 (by decide) (by decide) (off := 266) (by decide) (by decide) ?_
        refine lv_iload hx hb dL_act_345 (lv_at hl 1 rfl) ?_
        refine lv_if_ge (tgt := 354) hx hb dL_act_347 (by decide) (fun c_123 => ?_) (fun c_123 => ?_)
        · exact absurd c_123 (by decide)
        · have c_123q := c_123
          have c_123 := Int32.not_le.mp c_123
          refine lv_iconst (v := 0) hx hb dL_act_350 (by decide) ?_
          refine lv_goto (tgt := 372) hx hb dL_act_351 (by decide) ?_
          refine lv_istore (lv' := [(15, .int 0), (7, .int (nI (T + (v_45 % 20)))), (6, .int (-1)), (5, .int 0), (4, .int (nI (v_2 % S))), (3, .int (nI (v_1 % B))), (2, .int (nI L)), (0, .ref bo), (1, .ref ra)]) hx hb dL_act_372 hl (by decide) rfl (fun ls hl => ?_)
          have hL00 : L = 0 := c_1
          refine lv_aload_n hx hb dL_act_374 rfl (lv_at hl 7 rfl) ?_
          refine lv_iload hx hb dL_act_375 (lv_at hl 3 rfl) ?_
          refine me_callSnp (nA := 2) (As := [.ref bo, .int 0]) (rest := []) hC hl.1 hM (c_L_whistled_x1 (mc := 1) (ms := 6) l D tb X z0 n_46 bo 0 hCE rfl rfl ⟨Nat.le_of_ble_eq_true rfl, Nat.le_of_ble_eq_true rfl⟩ (bq_at h_b) (c_X7_whistle_x1 l D tb X z0 n_46 bo g G F sf inp out (me_up M0 ra (.inl (tb 0, 1, .inl f_46))) S B L P 0 hfl hXs (Or.inr (by rw [hW.2.2.2.2.1, hL00]; decide)))) w_795 w_796 w_0 w_797 (by decide +kernel) rfl rfl ⟨Nat.le_of_ble_eq_true rfl, Nat.le_of_ble_eq_true rfl⟩ rfl rfl (Nat.le_of_ble_eq_true rfl) dL_act_377 ⟨Nat.le_of_ble_eq_true rfl, Nat.le_of_ble_eq_true rfl⟩ (fun r_64 M_64 hP_64 H locs n_64 hM => ?_)
          obtain ⟨rfl, rfl⟩ := hP_64
          refine lv_istore (lv' := [(16, .int (-5)), (15, .int 0), (7, .int (nI (T + (v_45 % 20)))), (6, .int (-1)), (5, .int 0), (4, .int (nI (v_2 % S))), (3, .int (nI (v_1 % B))), (2, .int (nI L)), (0, .ref bo), (1, .ref ra)]) hx hb dL_act_380 hl (by decide) rfl (fun ls hl => ?_)
          refine lv_iload hx hb dL_act_382 (lv_at hl 3 rfl) ?_
          refine lv_iconst (v := 2) hx hb dL_act_384 (by decide) ?_
          refine lv_icmp_eq (tgt := 394) hx hb dL_act_385 (by decide) (fun c_124 => ?_) (fun c_124 => ?_)
          · exact absurd c_124 (by decide)
          · refine lv_iload hx hb dL_act_388 (lv_at hl 3 rfl) ?_
            refine lv_iconst (v := 4) hx hb dL_act_390 (by decide) ?_
            refine lv_icmp_ne (tgt := 419) hx hb dL_act_391 (by decide) (fun c_125 => ?_) (fun c_125 => ?_)
            · refine lv_iload hx hb dL_act_419 (lv_at hl 0 rfl) ?_
              refine lv_bipush (v := (-2)) hx hb dL_act_421 (by decide) ?_
              refine lv_icmp_ge (tgt := 442) hx hb dL_act_423 (by decide) (fun c_126 => ?_) (fun c_126 => ?_)
              · exact absurd c_126 (by decide)
              · have c_126q := c_126
                have c_126 := Int32.not_le.mp c_126
                refine lv_aload_n hx hb dL_act_426 rfl (lv_at hl 8 rfl) ?_
                refine lv_iload_n hx hb dL_act_427 rfl (lv_at hl 6 rfl) ?_
                refine lv_iconst (v := 2) hx hb dL_act_428 (by decide) ?_
                refine me_callSnp (nA := 3) (As := [.ref bo, .int (nI (v_1 % B)), .int 2]) (rest := []) hC hl.1 hM (c_L_paid (mc := 0) (ms := 0) l D tb X z0 n_64 bo (nI (v_1 % B)) 2 rfl rfl ⟨Nat.le_of_ble_eq_true rfl, Nat.le_of_ble_eq_true rfl⟩ (bq_at h_b) (c_X7_pay l D tb X z0 n_64 bo g G F sf inp out (me_up M0 ra (.inl (tb 0, 1, .inl f_46))) S B L P nx ct (v_1 % B) 2 hW hnx hnx0 hct hct0 (by omega) (by decide) (by decide))) w_833 w_834 w_0 w_835 (by decide +kernel) rfl rfl ⟨Nat.le_of_ble_eq_true rfl, Nat.le_of_ble_eq_true rfl⟩ rfl rfl (Nat.le_of_ble_eq_true rfl) dL_act_429 ⟨Nat.le_of_ble_eq_true rfl, Nat.le_of_ble_eq_true rfl⟩ (fun r_65 M_65 hP_65 H locs n_65 hM => ?_)
                obtain ⟨rfl, rfl⟩ := hP_65
                refine lv_sipush (v := (-9999)) hx hb dL_act_432 (by decide) ?_
                refine lv_icmp_le (tgt := 442) hx hb dL_act_435 (by decide) (fun c_127 => ?_) (fun c_127 => ?_)
                · have c_127q := c_127
                  have c_127 := Int32.not_lt.mpr c_127
                  exact absurd c_127q (a3 _ _ (by omega) (by decide))
                · have c_127q := c_127
                  have c_127 := Int32.not_le.mp c_127
                  refine lv_iconst (v := 1) hx hb dL_act_438 (by decide) ?_
                  refine lv_goto (tgt := 443) hx hb dL_act_439 (by decide) ?_
                  refine W.widen (k := 8) (n := 60) (by omega) (by omega) ?_
                  exact me_pret hC hr hlk hM (⟨_, _, _, _, _, rfl, Or.inr (Or.inr (Or.inr (Or.inr (Or.inr (Or.inl (⟨v_1 % B, 2, by omega, by decide, by decide, rfl, rfl, rfl, rfl⟩)))))), rfl⟩) (rfl) dL_act_443
            · exact absurd c_125 (by decide)
      · refine me_evi (y := 5) c_94 ?_
        refine lv_tableIn (tgt := 444) hx hb dL_act_79 (by decide) (by decide) (off := 365) (by decide) (by decide) ?_
        refine lv_aload_n hx hb dL_act_444 rfl (lv_at hl 6 rfl) ?_
        refine me_callVi (As := []) (rest := []) hC hl.1 hM (c_X7_permitCount l D tb X z0 n_46 bo g G F sf inp out (me_up M0 ra (.inl (tb 0, 1, .inl f_46))) S B L P  ) (kv_L_107 hw rfl rfl ⟨Nat.le_of_ble_eq_true rfl, Nat.le_of_ble_eq_true rfl⟩) rfl rfl (bq_at h_b) rfl (Nat.le_of_ble_eq_true rfl) dL_act_445 ⟨Nat.le_of_ble_eq_true rfl, Nat.le_of_ble_eq_true rfl⟩ (fun H locs hM => ?_)
        refine me_evi (y := nI P) hW.2.2.2.2.2.2.1 ?_
        refine lv_istore (lv' := [(17, .int (nI P)), (7, .int (nI (T + (v_45 % 20)))), (6, .int (-1)), (5, .int 0), (4, .int (nI (v_2 % S))), (3, .int (nI (v_1 % B))), (2, .int (nI L)), (0, .ref bo), (1, .ref ra)]) hx hb dL_act_448 hl (by decide) rfl (fun ls hl => ?_)
        refine lv_iload hx hb dL_act_450 (lv_at hl 0 rfl) ?_
        refine lv_bipush (v := 10) hx hb dL_act_452 (by decide) ?_
        refine lv_icmp_ne (tgt := 461) hx hb dL_act_454 (by decide) (fun c_128 => ?_) (fun c_128 => ?_)
        · have c_128 := (not_congr (br_eq rfl (nx_c 10) (by omega) (by omega))).mp c_128
          refine lv_iconst (v := 0) hx hb dL_act_461 (by decide) ?_
          refine lv_istore (lv' := [(18, .int 0), (17, .int (nI P)), (7, .int (nI (T + (v_45 % 20)))), (6, .int (-1)), (5, .int 0), (4, .int (nI (v_2 % S))), (3, .int (nI (v_1 % B))), (2, .int (nI L)), (0, .ref bo), (1, .ref ra)]) hx hb dL_act_462 hl (by decide) rfl (fun ls hl => ?_)
          refine lv_iconst (v := 1) hx hb dL_act_464 (by decide) ?_
          refine lv_aload_n hx hb dL_act_465 rfl (lv_at hl 9 rfl) ?_
          refine me_callSp (As := [.ref ra]) (rest := [.int 1]) hC hl.1 hM (c_L_next l D tb X z0 n_46 ra f_46 (sp tb (bo + 722) g (bq tb bo G F sf inp out (me_up M0 ra (.inl (tb 0, 1, .inl f_46))))) (bq_some hra (me_up_s _ _ _))) (ks_L_79 hw rfl rfl ⟨Nat.le_of_ble_eq_true rfl, Nat.le_of_ble_eq_true rfl⟩) rfl rfl (Nat.le_of_ble_eq_true rfl) dL_act_466 ⟨Nat.le_of_ble_eq_true rfl, Nat.le_of_ble_eq_true rfl⟩ (fun r_66 M_66 hP_66 H locs n_66 hM => ?_)
          obtain ⟨v_66, f_66, rfl, hv_66, rfl⟩ := hP_66
          have hM := hM.eq (bq_upo hra)
          refine lv_bipush (v := 12) hx hb dL_act_469 (by decide) ?_
          refine lv_irem hx hb dL_act_471 (by decide) ?_
          refine me_evi (y := nI (v_66 % 12)) (nx_rem 12 rfl (by omega) (by omega) (by omega)) ?_
          refine lv_iadd hx hb dL_act_472 ?_
          refine me_evi (y := nI (1 + (v_66 % 12))) (nx_add (show (1 : Int32) = nI 1 from rfl) rfl) ?_
          refine lv_istore (lv' := [(19, .int (nI (1 + (v_66 % 12)))), (18, .int 0), (17, .int (nI P)), (7, .int (nI (T + (v_45 % 20)))), (6, .int (-1)), (5, .int 0), (4, .int (nI (v_2 % S))), (3, .int (nI (v_1 % B))), (2, .int (nI L)), (0, .ref bo), (1, .ref ra)]) hx hb dL_act_473 hl (by decide) rfl (fun ls hl => ?_)
          refine lv_iload hx hb dL_act_475 (lv_at hl 3 rfl) ?_
          refine lv_istore (lv' := [(20, .int (nI (T + (v_45 % 20)))), (19, .int (nI (1 + (v_66 % 12)))), (18, .int 0), (17, .int (nI P)), (7, .int (nI (T + (v_45 % 20)))), (6, .int (-1)), (5, .int 0), (4, .int (nI (v_2 % S))), (3, .int (nI (v_1 % B))), (2, .int (nI L)), (0, .ref bo), (1, .ref ra)]) hx hb dL_act_477 hl (by decide) rfl (fun ls hl => ?_)
          have lp_479 : ∀ (rP : Nat) (i : Nat) (tk : Int32) (H : Heap) (locs : List Loc) (ls : Array Slot), (i + rP = 1 + (v_66 % 12)) → ((tk = 0 ∧ ¬ P = 10 ∧ ∀ j, j < i → ¬ hbS g L (v_2 % S) (T + (v_45 % 20)) j) ∨ (¬ tk = 0 ∧ (P = 10 ∨ ∃ j, j < i ∧ hbS g L (v_2 % S) (T + (v_45 % 20)) j))) → me_at D z0 (sp tb (bo + 722) g (bq tb bo G F sf inp out (me_up M0 ra (.inl (tb 0, 1, .inl f_66))))) n_66 s H locs → lv_has ls 29 [(0, .ref bo), (1, .ref ra), (3, .int (nI (v_1 % B))), (4, .int (nI (v_2 % S))), (7, .int (nI (T + (v_45 % 20)))), (17, .int (nI P)), (19, .int (nI (1 + (v_66 % 12)))), (18, .int tk), (20, .int (nI (T + (v_45 % 20) + i)))] → W p l e (({ frames := 14, cells := 8, slots := 60, locals := 504 } : Room)) s m args below meth c H locs 0 0 (MQ below (me_Qp D z0 (fun r1 M1 => ∃ (g2 : Nat → Int32) (L2 P2 T2 : Nat) (f2 : Nat → Int32), r1 = 1 ∧ stp S B L P T g g2 L2 P2 T2 ∧ M1 = sp tb (bo + 722) g2 (bq tb bo (recG G g S B L P nx) (recF F nx ct) sf inp out (me_up M0 ra (.inl (tb 0, 1, .inl f2)))))) args s 8 60 (me_A z0)) (F0 m 479 ls []) := by
            intro rP
            refine Nat.strongRecOn rP ?_
            intro rP ih_479 i tk H locs ls hkP hqP hM hl
            refine lv_iload hx hb dL_act_479 (lv_at hl 8 rfl) ?_
            refine lv_iload hx hb dL_act_481 (lv_at hl 4 rfl) ?_
            refine lv_iload hx hb dL_act_483 (lv_at hl 6 rfl) ?_
            refine lv_iadd hx hb dL_act_485 ?_
            refine lv_icmp_ge (tgt := 535) hx hb dL_act_486 (by decide) (fun c_129 => ?_) (fun c_129 => ?_)
            · have c_129 := (br_le (nx_add rfl rfl) rfl (by omega) (by omega)).mp c_129
              have hem := Classical.em (fi (fun k => cpP g L (nI (v_2 % S)) (nI (T + (v_45 % 20))) (nI (1 + (v_66 % 12))) k) L 0 = -1 ∧ P < 10)
              have a5_ := (a5 (v_2 % S) (T + (v_45 % 20)) (1 + (v_66 % 12)) (by omega) (by omega) (by omega) (by omega) (by omega))
              rcases hem with hcp | hcp
              · skip
                refine lv_aload_n hx hb dL_act_535 rfl (lv_at hl 0 rfl) ?_
                refine lv_iload hx hb dL_act_536 (lv_at hl 3 rfl) ?_
                refine lv_iload hx hb dL_act_538 (lv_at hl 4 rfl) ?_
                refine lv_iload hx hb dL_act_540 (lv_at hl 6 rfl) ?_
                refine me_callSnp (nA := 4) (As := [.ref bo, .int (nI (v_2 % S)), .int (nI (T + (v_45 % 20))), .int (nI (1 + (v_66 % 12)))]) (rest := []) hC hl.1 hM (c_L_permitted (mc := 0) (ms := 0) l D tb X z0 n_66 bo (nI (v_2 % S)) (nI (T + (v_45 % 20))) (nI (1 + (v_66 % 12))) rfl rfl ⟨Nat.le_of_ble_eq_true rfl, Nat.le_of_ble_eq_true rfl⟩ (bq_at h_b) (c_X7_grantPermit l D tb X z0 n_66 bo g G F sf inp out (me_up M0 ra (.inl (tb 0, 1, .inl f_66))) S B L P T nx ct (v_2 % S) (T + (v_45 % 20)) (1 + (v_66 % 12)) hW hT hT0 hnx hnx0 hct hct0 (by omega) (by omega) (by omega) (by omega) (by omega) hcp)) w_805 w_806 w_0 w_807 (by decide +kernel) rfl rfl ⟨Nat.le_of_ble_eq_true rfl, Nat.le_of_ble_eq_true rfl⟩ rfl rfl (Nat.le_of_ble_eq_true rfl) dL_act_542 ⟨Nat.le_of_ble_eq_true rfl, Nat.le_of_ble_eq_true rfl⟩ (fun r_67 M_67 hP_67 H locs n_67 hM => ?_)
                obtain ⟨rfl, rfl⟩ := hP_67
                have hW2 := wf_ap (st := nI (v_2 % S)) (s := nI (T + (v_45 % 20))) (n := nI (1 + (v_66 % 12))) hW hcp.2
                have hT2 : (apF g P (nI (v_2 % S)) (nI (T + (v_45 % 20))) (nI (1 + (v_66 % 12)))) 2 = nI T := by unfold apF; rw [upd_n (by omega), upd_n (by omega), upd_n (by omega), upd_n (by omega), upd_n (by omega)]; exact hT
                refine lv_istore (lv' := [(20, .int (nI P)), (0, .ref bo), (1, .ref ra), (3, .int (nI (v_1 % B))), (4, .int (nI (v_2 % S))), (7, .int (nI (T + (v_45 % 20)))), (17, .int (nI P)), (19, .int (nI (1 + (v_66 % 12)))), (18, .int tk)]) hx hb dL_act_545 hl (by decide) rfl (fun ls hl => ?_)
                refine lv_iload hx hb dL_act_547 (lv_at hl 8 rfl) ?_
                refine lv_if_eq (tgt := 579) hx hb dL_act_549 (by decide) (fun c_130 => ?_) (fun c_130 => ?_)
                · refine lv_iload hx hb dL_act_579 (lv_at hl 0 rfl) ?_
                  refine lv_iload hx hb dL_act_581 (lv_at hl 6 rfl) ?_
                  refine lv_icmp_ne (tgt := 601) hx hb dL_act_583 (by decide) (fun c_131 => ?_) (fun c_131 => ?_)
                  · exact absurd rfl c_131
                  · refine lv_aload_n hx hb dL_act_586 rfl (lv_at hl 1 rfl) ?_
                    refine lv_iload hx hb dL_act_587 (lv_at hl 4 rfl) ?_
                    refine lv_iload hx hb dL_act_589 (lv_at hl 5 rfl) ?_
                    refine me_callVi (As := [.int (nI (v_2 % S)), .int (nI (T + (v_45 % 20)))]) (rest := []) hC hl.1 hM (c_X7_permitFor l D tb X z0 n_67 bo (apF g P (nI (v_2 % S)) (nI (T + (v_45 % 20))) (nI (1 + (v_66 % 12)))) (recG G g S B L P nx) (recF F nx ct) sf inp out (me_up M0 ra (.inl (tb 0, 1, .inl f_66))) S B L (P + 1) T (v_2 % S) (T + (v_45 % 20)) hW2 hT2 hT0 (by omega) (by omega) (by omega)) (kv_L_155 hw rfl rfl ⟨Nat.le_of_ble_eq_true rfl, Nat.le_of_ble_eq_true rfl⟩) rfl rfl (bq_at h_b) rfl (Nat.le_of_ble_eq_true rfl) dL_act_591 ⟨Nat.le_of_ble_eq_true rfl, Nat.le_of_ble_eq_true rfl⟩ (fun H locs hM => ?_)
                    refine lv_if_lt (tgt := 601) hx hb dL_act_594 (by decide) (fun c_132 => ?_) (fun c_132 => ?_)
                    · have c_132q := Int32.not_le.mpr c_132
                      exact absurd c_132 (a6 _ _ _ (by omega) (by omega) (by omega) (by omega) (by omega) hcp.2)
                    · have c_132q := Int32.not_lt.mp c_132
                      refine lv_iconst (v := 1) hx hb dL_act_597 (by decide) ?_
                      refine lv_goto (tgt := 602) hx hb dL_act_598 (by decide) ?_
                      refine W.widen (k := 8) (n := 60) (by omega) (by omega) ?_
                      exact me_pret hC hr hlk hM (⟨_, _, _, _, _, rfl, Or.inr (Or.inr (Or.inr (Or.inl (⟨_, _, _, by omega, by omega, by omega, by omega, by omega, hcp, rfl, rfl, rfl, rfl⟩)))), rfl⟩) (rfl) dL_act_602
                · exact absurd hcp (fun z => (hqP.resolve_left (fun y => c_130 y.1)).2.elim (fun e2 => by have := z.2; omega) (fun ⟨j, hj, h⟩ => a5_.mp z.1 j (by omega) h))
              · skip
                refine lv_aload_n hx hb dL_act_535 rfl (lv_at hl 0 rfl) ?_
                refine lv_iload hx hb dL_act_536 (lv_at hl 3 rfl) ?_
                refine lv_iload hx hb dL_act_538 (lv_at hl 4 rfl) ?_
                refine lv_iload hx hb dL_act_540 (lv_at hl 6 rfl) ?_
                refine me_callSnp (nA := 4) (As := [.ref bo, .int (nI (v_2 % S)), .int (nI (T + (v_45 % 20))), .int (nI (1 + (v_66 % 12)))]) (rest := []) hC hl.1 hM (c_L_permitted_x3 (mc := 1) (ms := 6) l D tb X z0 n_66 bo (nI (v_2 % S)) (nI (T + (v_45 % 20))) (nI (1 + (v_66 % 12))) hCE rfl rfl ⟨Nat.le_of_ble_eq_true rfl, Nat.le_of_ble_eq_true rfl⟩ (bq_at h_b) (c_X7_grantPermit_x4 l D tb X z0 n_66 bo g G F sf inp out (me_up M0 ra (.inl (tb 0, 1, .inl f_66))) S B L P T (v_2 % S) (T + (v_45 % 20)) (1 + (v_66 % 12)) hfl hXs hW hT hT0 (by omega) (by omega) (by omega) (by omega) (by omega) hcp)) w_805 w_806 w_0 w_807 (by decide +kernel) rfl rfl ⟨Nat.le_of_ble_eq_true rfl, Nat.le_of_ble_eq_true rfl⟩ rfl rfl (Nat.le_of_ble_eq_true rfl) dL_act_542 ⟨Nat.le_of_ble_eq_true rfl, Nat.le_of_ble_eq_true rfl⟩ (fun r_68 M_68 hP_68 H locs n_68 hM => ?_)
                obtain ⟨rfl, rfl⟩ := hP_68
                refine lv_istore (lv' := [(20, .int (-3)), (0, .ref bo), (1, .ref ra), (3, .int (nI (v_1 % B))), (4, .int (nI (v_2 % S))), (7, .int (nI (T + (v_45 % 20)))), (17, .int (nI P)), (19, .int (nI (1 + (v_66 % 12)))), (18, .int tk)]) hx hb dL_act_545 hl (by decide) rfl (fun ls hl => ?_)
                refine lv_iload hx hb dL_act_547 (lv_at hl 8 rfl) ?_
                refine lv_if_eq (tgt := 579) hx hb dL_act_549 (by decide) (fun c_133 => ?_) (fun c_133 => ?_)
                · exact absurd ⟨a5_.mpr (fun j hj => (hqP.resolve_right (fun y => y.1 c_133)).2.2 j (by omega)), by have := (hqP.resolve_right (fun y => y.1 c_133)).2.1; omega⟩ hcp
                · refine lv_iload hx hb dL_act_552 (lv_at hl 0 rfl) ?_
                  refine lv_bipush (v := (-3)) hx hb dL_act_554 (by decide) ?_
                  refine lv_icmp_ne (tgt := 575) hx hb dL_act_556 (by decide) (fun c_134 => ?_) (fun c_134 => ?_)
                  · exact absurd c_134 (by decide)
                  · refine lv_aload_n hx hb dL_act_559 rfl (lv_at hl 1 rfl) ?_
                    refine lv_iload_n hx hb dL_act_560 rfl (lv_at hl 3 rfl) ?_
                    refine lv_iconst (v := 4) hx hb dL_act_561 (by decide) ?_
                    refine me_callSnp (nA := 3) (As := [.ref bo, .int (nI (v_1 % B)), .int 4]) (rest := []) hC hl.1 hM (c_L_paid (mc := 0) (ms := 0) l D tb X z0 n_68 bo (nI (v_1 % B)) 4 rfl rfl ⟨Nat.le_of_ble_eq_true rfl, Nat.le_of_ble_eq_true rfl⟩ (bq_at h_b) (c_X7_pay l D tb X z0 n_68 bo g G F sf inp out (me_up M0 ra (.inl (tb 0, 1, .inl f_66))) S B L P nx ct (v_1 % B) 4 hW hnx hnx0 hct hct0 (by omega) (by decide) (by decide))) w_833 w_834 w_0 w_835 (by decide +kernel) rfl rfl ⟨Nat.le_of_ble_eq_true rfl, Nat.le_of_ble_eq_true rfl⟩ rfl rfl (Nat.le_of_ble_eq_true rfl) dL_act_562 ⟨Nat.le_of_ble_eq_true rfl, Nat.le_of_ble_eq_true rfl⟩ (fun r_69 M_69 hP_69 H locs n_69 hM => ?_)
                    obtain ⟨rfl, rfl⟩ := hP_69
                    refine lv_sipush (v := (-9999)) hx hb dL_act_565 (by decide) ?_
                    refine lv_icmp_le (tgt := 575) hx hb dL_act_568 (by decide) (fun c_135 => ?_) (fun c_135 => ?_)
                    · have c_135q := c_135
                      have c_135 := Int32.not_lt.mpr c_135
                      exact absurd c_135q (a3 _ _ (by omega) (by decide))
                    · have c_135q := c_135
                      have c_135 := Int32.not_le.mp c_135
                      refine lv_iconst (v := 1) hx hb dL_act_571 (by decide) ?_
                      refine lv_goto (tgt := 602) hx hb dL_act_572 (by decide) ?_
                      refine W.widen (k := 8) (n := 60) (by omega) (by omega) ?_
                      exact me_pret hC hr hlk hM (⟨_, _, _, _, _, rfl, Or.inr (Or.inr (Or.inr (Or.inr (Or.inr (Or.inl (⟨v_1 % B, 4, by omega, by decide, by decide, rfl, rfl, rfl, rfl⟩)))))), rfl⟩) (rfl) dL_act_602
            · have c_129 := (not_congr (br_le (nx_add rfl rfl) rfl (by omega) (by omega))).mp c_129
              obtain ⟨qP, rfl⟩ : ∃ qP, rP = qP + 1 := ⟨rP - 1, by omega⟩
              refine lv_aload_n hx hb dL_act_489 rfl (lv_at hl 0 rfl) ?_
              refine lv_iload hx hb dL_act_490 (lv_at hl 8 rfl) ?_
              refine me_callVi (As := [.int (nI (T + (v_45 % 20) + i))]) (rest := []) hC hl.1 hM (c_X7_holderOf l D tb X z0 n_66 bo g G F sf inp out (me_up M0 ra (.inl (tb 0, 1, .inl f_66))) S B L P T (T + (v_45 % 20) + i) hW hT hT0 (by omega) (by omega)) (kv_L_165 hw rfl rfl ⟨Nat.le_of_ble_eq_true rfl, Nat.le_of_ble_eq_true rfl⟩) rfl rfl (bq_at h_b) rfl (Nat.le_of_ble_eq_true rfl) dL_act_492 ⟨Nat.le_of_ble_eq_true rfl, Nat.le_of_ble_eq_true rfl⟩ (fun H locs hM => ?_)
              obtain ⟨yh, hyh⟩ : ∃ yh, hoF g L (nI (T + (v_45 % 20) + i)) = yh := ⟨_, rfl⟩
              refine me_evi (y := yh) hyh ?_
              rcases hoC (by omega) hyh.symm with rfl | ⟨j, hj, rfl⟩
              · skip
                refine lv_istore (lv' := [(21, .int (-1)), (0, .ref bo), (1, .ref ra), (3, .int (nI (v_1 % B))), (4, .int (nI (v_2 % S))), (7, .int (nI (T + (v_45 % 20)))), (17, .int (nI P)), (19, .int (nI (1 + (v_66 % 12)))), (18, .int tk), (20, .int (nI (T + (v_45 % 20) + i)))]) hx hb dL_act_495 hl (by decide) rfl (fun ls hl => ?_)
                refine lv_iload hx hb dL_act_497 (lv_at hl 8 rfl) ?_
                refine lv_if_ne (tgt := 522) hx hb dL_act_499 (by decide) (fun c_136 => ?_) (fun c_136 => ?_)
                · refine lv_iconst (v := 1) hx hb dL_act_522 (by decide) ?_
                  refine lv_goto (tgt := 527) hx hb dL_act_523 (by decide) ?_
                  refine lv_istore (lv' := [(18, .int 1), (21, .int (-1)), (0, .ref bo), (1, .ref ra), (3, .int (nI (v_1 % B))), (4, .int (nI (v_2 % S))), (7, .int (nI (T + (v_45 % 20)))), (17, .int (nI P)), (19, .int (nI (1 + (v_66 % 12)))), (20, .int (nI (T + (v_45 % 20) + i)))]) hx hb dL_act_527 hl (by decide) rfl (fun ls hl => ?_)
                  refine lv_iinc (v := nI (T + (v_45 % 20) + i + 1)) (lv' := [(20, .int (nI (T + (v_45 % 20) + i + 1))), (18, .int 1), (21, .int (-1)), (0, .ref bo), (1, .ref ra), (3, .int (nI (v_1 % B))), (4, .int (nI (v_2 % S))), (7, .int (nI (T + (v_45 % 20)))), (17, .int (nI P)), (19, .int (nI (1 + (v_66 % 12))))]) hx hb dL_act_529 hl (k := 9) rfl (nx_add rfl rfl) (by decide) rfl (fun ls hl => ?_)
                  refine lv_goto (tgt := 479) hx hb dL_act_532 (by decide) ?_
                  exact ih_479 qP (by omega) (i + 1) 1 _ _ _ (by omega) (Or.inr ⟨by decide, (hqP.resolve_left (fun z => c_136 z.1)).2.imp id (fun ⟨j, hj, h⟩ => ⟨j, by omega, h⟩)⟩) hM (lv_sub hl [3, 4, 5, 6, 7, 8, 9, 1, 0] rfl)
                · refine lv_iload hx hb dL_act_502 (lv_at hl 0 rfl) ?_
                  refine lv_if_lt (tgt := 526) hx hb dL_act_504 (by decide) (fun c_137 => ?_) (fun c_137 => ?_)
                  · have c_137q := Int32.not_le.mpr c_137
                    refine lv_iconst (v := 0) hx hb dL_act_526 (by decide) ?_
                    refine lv_istore (lv' := [(18, .int 0), (21, .int (-1)), (0, .ref bo), (1, .ref ra), (3, .int (nI (v_1 % B))), (4, .int (nI (v_2 % S))), (7, .int (nI (T + (v_45 % 20)))), (17, .int (nI P)), (19, .int (nI (1 + (v_66 % 12)))), (20, .int (nI (T + (v_45 % 20) + i)))]) hx hb dL_act_527 hl (by decide) rfl (fun ls hl => ?_)
                    refine lv_iinc (v := nI (T + (v_45 % 20) + i + 1)) (lv' := [(20, .int (nI (T + (v_45 % 20) + i + 1))), (18, .int 0), (21, .int (-1)), (0, .ref bo), (1, .ref ra), (3, .int (nI (v_1 % B))), (4, .int (nI (v_2 % S))), (7, .int (nI (T + (v_45 % 20)))), (17, .int (nI P)), (19, .int (nI (1 + (v_66 % 12))))]) hx hb dL_act_529 hl (k := 9) rfl (nx_add rfl rfl) (by decide) rfl (fun ls hl => ?_)
                    refine lv_goto (tgt := 479) hx hb dL_act_532 (by decide) ?_
                    exact ih_479 qP (by omega) (i + 1) 0 _ _ _ (by omega) (Or.inl ⟨rfl, (hqP.resolve_right (fun z => z.1 c_136)).2.1, fun j2 h2 => (Nat.lt_succ_iff_lt_or_eq.mp h2).elim ((hqP.resolve_right (fun z => z.1 c_136)).2.2 j2) (fun e2 => by subst e2; exact fun ⟨l2, h5, h6, h7⟩ => nI_nm1 (k := l2) (by omega) (h6.symm.trans hyh))⟩) hM (lv_sub hl [3, 4, 5, 6, 7, 8, 9, 1, 0] rfl)
                  · exact absurd c_137 (by decide)
              · skip
                refine lv_istore (lv' := [(21, .int (nI j)), (0, .ref bo), (1, .ref ra), (3, .int (nI (v_1 % B))), (4, .int (nI (v_2 % S))), (7, .int (nI (T + (v_45 % 20)))), (17, .int (nI P)), (19, .int (nI (1 + (v_66 % 12)))), (18, .int tk), (20, .int (nI (T + (v_45 % 20) + i)))]) hx hb dL_act_495 hl (by decide) rfl (fun ls hl => ?_)
                refine lv_iload hx hb dL_act_497 (lv_at hl 8 rfl) ?_
                refine lv_if_ne (tgt := 522) hx hb dL_act_499 (by decide) (fun c_138 => ?_) (fun c_138 => ?_)
                · refine lv_iconst (v := 1) hx hb dL_act_522 (by decide) ?_
                  refine lv_goto (tgt := 527) hx hb dL_act_523 (by decide) ?_
                  refine lv_istore (lv' := [(18, .int 1), (21, .int (nI j)), (0, .ref bo), (1, .ref ra), (3, .int (nI (v_1 % B))), (4, .int (nI (v_2 % S))), (7, .int (nI (T + (v_45 % 20)))), (17, .int (nI P)), (19, .int (nI (1 + (v_66 % 12)))), (20, .int (nI (T + (v_45 % 20) + i)))]) hx hb dL_act_527 hl (by decide) rfl (fun ls hl => ?_)
                  refine lv_iinc (v := nI (T + (v_45 % 20) + i + 1)) (lv' := [(20, .int (nI (T + (v_45 % 20) + i + 1))), (18, .int 1), (21, .int (nI j)), (0, .ref bo), (1, .ref ra), (3, .int (nI (v_1 % B))), (4, .int (nI (v_2 % S))), (7, .int (nI (T + (v_45 % 20)))), (17, .int (nI P)), (19, .int (nI (1 + (v_66 % 12))))]) hx hb dL_act_529 hl (k := 9) rfl (nx_add rfl rfl) (by decide) rfl (fun ls hl => ?_)
                  refine lv_goto (tgt := 479) hx hb dL_act_532 (by decide) ?_
                  exact ih_479 qP (by omega) (i + 1) 1 _ _ _ (by omega) (Or.inr ⟨by decide, (hqP.resolve_left (fun z => c_138 z.1)).2.imp id (fun ⟨j, hj, h⟩ => ⟨j, by omega, h⟩)⟩) hM (lv_sub hl [3, 4, 5, 6, 7, 8, 9, 1, 0] rfl)
                · refine lv_iload hx hb dL_act_502 (lv_at hl 0 rfl) ?_
                  refine lv_if_lt (tgt := 526) hx hb dL_act_504 (by decide) (fun c_139 => ?_) (fun c_139 => ?_)
                  · exact absurd c_139 (nI_pos (by omega))
                  · have c_139q := Int32.not_lt.mp c_139
                    refine lv_aload_n hx hb dL_act_507 rfl (lv_at hl 1 rfl) ?_
                    refine lv_aload_n hx hb dL_act_508 rfl (lv_at hl 1 rfl) ?_
                    refine lv_iload hx hb dL_act_509 (lv_at hl 0 rfl) ?_
                    refine me_callVi (As := [.int (nI j)]) (rest := [.ref bo]) hC hl.1 hM (c_X7_borrowerOf l D tb X z0 n_66 bo g G F sf inp out (me_up M0 ra (.inl (tb 0, 1, .inl f_66))) S B L P j hW (by omega)) (kv_L_140 hw rfl rfl ⟨Nat.le_of_ble_eq_true rfl, Nat.le_of_ble_eq_true rfl⟩) rfl rfl (bq_at h_b) rfl (Nat.le_of_ble_eq_true rfl) dL_act_511 ⟨Nat.le_of_ble_eq_true rfl, Nat.le_of_ble_eq_true rfl⟩ (fun H locs hM => ?_)
                    have hb_ := (hW.2.2.2.2.2.2.2.2.2 j (by omega)).2
                    refine me_evi (y := nI (ow g j)) (hW.2.2.2.2.2.2.2.2.2 j (by omega)).1 ?_
                    refine me_callVi (As := [.int (nI (ow g j))]) (rest := []) hC hl.1 hM (c_X7_streetOf l D tb X z0 n_66 bo g G F sf inp out (me_up M0 ra (.inl (tb 0, 1, .inl f_66))) S B L P (ow g j) hW (by omega)) (kv_L_128 hw rfl rfl ⟨Nat.le_of_ble_eq_true rfl, Nat.le_of_ble_eq_true rfl⟩) rfl rfl (bq_at h_b) rfl (Nat.le_of_ble_eq_true rfl) dL_act_514 ⟨Nat.le_of_ble_eq_true rfl, Nat.le_of_ble_eq_true rfl⟩ (fun H locs hM => ?_)
                    have hb_ := (hW.2.2.2.2.2.2.2.2.1 (ow g j) (by omega)).2
                    refine me_evi (y := nI (hm g (ow g j))) (hW.2.2.2.2.2.2.2.2.1 (ow g j) (by omega)).1 ?_
                    refine lv_iload hx hb dL_act_517 (lv_at hl 4 rfl) ?_
                    refine lv_icmp_ne (tgt := 526) hx hb dL_act_519 (by decide) (fun c_140 => ?_) (fun c_140 => ?_)
                    · have c_140 := (not_congr (br_eq rfl rfl (by omega) (by omega))).mp c_140
                      refine lv_iconst (v := 0) hx hb dL_act_526 (by decide) ?_
                      refine lv_istore (lv' := [(18, .int 0), (21, .int (nI j)), (0, .ref bo), (1, .ref ra), (3, .int (nI (v_1 % B))), (4, .int (nI (v_2 % S))), (7, .int (nI (T + (v_45 % 20)))), (17, .int (nI P)), (19, .int (nI (1 + (v_66 % 12)))), (20, .int (nI (T + (v_45 % 20) + i)))]) hx hb dL_act_527 hl (by decide) rfl (fun ls hl => ?_)
                      refine lv_iinc (v := nI (T + (v_45 % 20) + i + 1)) (lv' := [(20, .int (nI (T + (v_45 % 20) + i + 1))), (18, .int 0), (21, .int (nI j)), (0, .ref bo), (1, .ref ra), (3, .int (nI (v_1 % B))), (4, .int (nI (v_2 % S))), (7, .int (nI (T + (v_45 % 20)))), (17, .int (nI P)), (19, .int (nI (1 + (v_66 % 12))))]) hx hb dL_act_529 hl (k := 9) rfl (nx_add rfl rfl) (by decide) rfl (fun ls hl => ?_)
                      refine lv_goto (tgt := 479) hx hb dL_act_532 (by decide) ?_
                      exact ih_479 qP (by omega) (i + 1) 0 _ _ _ (by omega) (Or.inl ⟨rfl, (hqP.resolve_right (fun z => z.1 c_138)).2.1, fun j2 h2 => (Nat.lt_succ_iff_lt_or_eq.mp h2).elim ((hqP.resolve_right (fun z => z.1 c_138)).2.2 j2) (fun e2 => by subst e2; exact fun ⟨l2, h5, h6, h7⟩ => c_140 ((show l2 = j from (nI_eq (by omega) (by omega)).mp (h6.symm.trans hyh)) ▸ h7))⟩) hM (lv_sub hl [3, 4, 5, 6, 7, 8, 9, 1, 0] rfl)
                    · have c_140 := (br_eq rfl rfl (by omega) (by omega)).mp c_140
                      refine lv_iconst (v := 1) hx hb dL_act_522 (by decide) ?_
                      refine lv_goto (tgt := 527) hx hb dL_act_523 (by decide) ?_
                      refine lv_istore (lv' := [(18, .int 1), (21, .int (nI j)), (0, .ref bo), (1, .ref ra), (3, .int (nI (v_1 % B))), (4, .int (nI (v_2 % S))), (7, .int (nI (T + (v_45 % 20)))), (17, .int (nI P)), (19, .int (nI (1 + (v_66 % 12)))), (20, .int (nI (T + (v_45 % 20) + i)))]) hx hb dL_act_527 hl (by decide) rfl (fun ls hl => ?_)
                      refine lv_iinc (v := nI (T + (v_45 % 20) + i + 1)) (lv' := [(20, .int (nI (T + (v_45 % 20) + i + 1))), (18, .int 1), (21, .int (nI j)), (0, .ref bo), (1, .ref ra), (3, .int (nI (v_1 % B))), (4, .int (nI (v_2 % S))), (7, .int (nI (T + (v_45 % 20)))), (17, .int (nI P)), (19, .int (nI (1 + (v_66 % 12))))]) hx hb dL_act_529 hl (k := 9) rfl (nx_add rfl rfl) (by decide) rfl (fun ls hl => ?_)
                      refine lv_goto (tgt := 479) hx hb dL_act_532 (by decide) ?_
                      exact ih_479 qP (by omega) (i + 1) 1 _ _ _ (by omega) (Or.inr ⟨by decide, Or.inr ⟨i, by omega, j, hj, hyh, c_140⟩⟩) hM (lv_sub hl [3, 4, 5, 6, 7, 8, 9, 1, 0] rfl)
          exact lp_479 (1 + (v_66 % 12)) 0 0 _ _ _ (by omega) (Or.inl ⟨rfl, c_128, fun j hj => absurd hj (Nat.not_lt_zero _)⟩) hM (lv_sub hl [10, 11, 8, 7, 4, 3, 1, 2, 0] rfl)
        · have c_128 := (br_eq rfl (nx_c 10) (by omega) (by omega)).mp c_128
          refine lv_iconst (v := 1) hx hb dL_act_457 (by decide) ?_
          refine lv_goto (tgt := 462) hx hb dL_act_458 (by decide) ?_
          refine lv_istore (lv' := [(18, .int 1), (17, .int (nI P)), (7, .int (nI (T + (v_45 % 20)))), (6, .int (-1)), (5, .int 0), (4, .int (nI (v_2 % S))), (3, .int (nI (v_1 % B))), (2, .int (nI L)), (0, .ref bo), (1, .ref ra)]) hx hb dL_act_462 hl (by decide) rfl (fun ls hl => ?_)
          refine lv_iconst (v := 1) hx hb dL_act_464 (by decide) ?_
          refine lv_aload_n hx hb dL_act_465 rfl (lv_at hl 9 rfl) ?_
          refine me_callSp (As := [.ref ra]) (rest := [.int 1]) hC hl.1 hM (c_L_next l D tb X z0 n_46 ra f_46 (sp tb (bo + 722) g (bq tb bo G F sf inp out (me_up M0 ra (.inl (tb 0, 1, .inl f_46))))) (bq_some hra (me_up_s _ _ _))) (ks_L_79 hw rfl rfl ⟨Nat.le_of_ble_eq_true rfl, Nat.le_of_ble_eq_true rfl⟩) rfl rfl (Nat.le_of_ble_eq_true rfl) dL_act_466 ⟨Nat.le_of_ble_eq_true rfl, Nat.le_of_ble_eq_true rfl⟩ (fun r_70 M_70 hP_70 H locs n_70 hM => ?_)
          obtain ⟨v_70, f_70, rfl, hv_70, rfl⟩ := hP_70
          have hM := hM.eq (bq_upo hra)
          refine lv_bipush (v := 12) hx hb dL_act_469 (by decide) ?_
          refine lv_irem hx hb dL_act_471 (by decide) ?_
          refine me_evi (y := nI (v_70 % 12)) (nx_rem 12 rfl (by omega) (by omega) (by omega)) ?_
          refine lv_iadd hx hb dL_act_472 ?_
          refine me_evi (y := nI (1 + (v_70 % 12))) (nx_add (show (1 : Int32) = nI 1 from rfl) rfl) ?_
          refine lv_istore (lv' := [(19, .int (nI (1 + (v_70 % 12)))), (18, .int 1), (17, .int (nI P)), (7, .int (nI (T + (v_45 % 20)))), (6, .int (-1)), (5, .int 0), (4, .int (nI (v_2 % S))), (3, .int (nI (v_1 % B))), (2, .int (nI L)), (0, .ref bo), (1, .ref ra)]) hx hb dL_act_473 hl (by decide) rfl (fun ls hl => ?_)
          refine lv_iload hx hb dL_act_475 (lv_at hl 3 rfl) ?_
          refine lv_istore (lv' := [(20, .int (nI (T + (v_45 % 20)))), (19, .int (nI (1 + (v_70 % 12)))), (18, .int 1), (17, .int (nI P)), (7, .int (nI (T + (v_45 % 20)))), (6, .int (-1)), (5, .int 0), (4, .int (nI (v_2 % S))), (3, .int (nI (v_1 % B))), (2, .int (nI L)), (0, .ref bo), (1, .ref ra)]) hx hb dL_act_477 hl (by decide) rfl (fun ls hl => ?_)
          have lp_479 : ∀ (rP : Nat) (i : Nat) (tk : Int32) (H : Heap) (locs : List Loc) (ls : Array Slot), (i + rP = 1 + (v_70 % 12)) → ((tk = 0 ∧ ¬ P = 10 ∧ ∀ j, j < i → ¬ hbS g L (v_2 % S) (T + (v_45 % 20)) j) ∨ (¬ tk = 0 ∧ (P = 10 ∨ ∃ j, j < i ∧ hbS g L (v_2 % S) (T + (v_45 % 20)) j))) → me_at D z0 (sp tb (bo + 722) g (bq tb bo G F sf inp out (me_up M0 ra (.inl (tb 0, 1, .inl f_70))))) n_70 s H locs → lv_has ls 29 [(0, .ref bo), (1, .ref ra), (3, .int (nI (v_1 % B))), (4, .int (nI (v_2 % S))), (7, .int (nI (T + (v_45 % 20)))), (17, .int (nI P)), (19, .int (nI (1 + (v_70 % 12)))), (18, .int tk), (20, .int (nI (T + (v_45 % 20) + i)))] → W p l e (({ frames := 14, cells := 8, slots := 60, locals := 504 } : Room)) s m args below meth c H locs 0 0 (MQ below (me_Qp D z0 (fun r1 M1 => ∃ (g2 : Nat → Int32) (L2 P2 T2 : Nat) (f2 : Nat → Int32), r1 = 1 ∧ stp S B L P T g g2 L2 P2 T2 ∧ M1 = sp tb (bo + 722) g2 (bq tb bo (recG G g S B L P nx) (recF F nx ct) sf inp out (me_up M0 ra (.inl (tb 0, 1, .inl f2)))))) args s 8 60 (me_A z0)) (F0 m 479 ls []) := by
            intro rP
            refine Nat.strongRecOn rP ?_
            intro rP ih_479 i tk H locs ls hkP hqP hM hl
            refine lv_iload hx hb dL_act_479 (lv_at hl 8 rfl) ?_
            refine lv_iload hx hb dL_act_481 (lv_at hl 4 rfl) ?_
            refine lv_iload hx hb dL_act_483 (lv_at hl 6 rfl) ?_
            refine lv_iadd hx hb dL_act_485 ?_
            refine lv_icmp_ge (tgt := 535) hx hb dL_act_486 (by decide) (fun c_141 => ?_) (fun c_141 => ?_)
            · have c_141 := (br_le (nx_add rfl rfl) rfl (by omega) (by omega)).mp c_141
              have hem := Classical.em (fi (fun k => cpP g L (nI (v_2 % S)) (nI (T + (v_45 % 20))) (nI (1 + (v_70 % 12))) k) L 0 = -1 ∧ P < 10)
              have a5_ := (a5 (v_2 % S) (T + (v_45 % 20)) (1 + (v_70 % 12)) (by omega) (by omega) (by omega) (by omega) (by omega))
              rcases hem with hcp | hcp
              · skip
                refine lv_aload_n hx hb dL_act_535 rfl (lv_at hl 0 rfl) ?_
                refine lv_iload hx hb dL_act_536 (lv_at hl 3 rfl) ?_
                refine lv_iload hx hb dL_act_538 (lv_at hl 4 rfl) ?_
                refine lv_iload hx hb dL_act_540 (lv_at hl 6 rfl) ?_
                refine me_callSnp (nA := 4) (As := [.ref bo, .int (nI (v_2 % S)), .int (nI (T + (v_45 % 20))), .int (nI (1 + (v_70 % 12)))]) (rest := []) hC hl.1 hM (c_L_permitted (mc := 0) (ms := 0) l D tb X z0 n_70 bo (nI (v_2 % S)) (nI (T + (v_45 % 20))) (nI (1 + (v_70 % 12))) rfl rfl ⟨Nat.le_of_ble_eq_true rfl, Nat.le_of_ble_eq_true rfl⟩ (bq_at h_b) (c_X7_grantPermit l D tb X z0 n_70 bo g G F sf inp out (me_up M0 ra (.inl (tb 0, 1, .inl f_70))) S B L P T nx ct (v_2 % S) (T + (v_45 % 20)) (1 + (v_70 % 12)) hW hT hT0 hnx hnx0 hct hct0 (by omega) (by omega) (by omega) (by omega) (by omega) hcp)) w_805 w_806 w_0 w_807 (by decide +kernel) rfl rfl ⟨Nat.le_of_ble_eq_true rfl, Nat.le_of_ble_eq_true rfl⟩ rfl rfl (Nat.le_of_ble_eq_true rfl) dL_act_542 ⟨Nat.le_of_ble_eq_true rfl, Nat.le_of_ble_eq_true rfl⟩ (fun r_71 M_71 hP_71 H locs n_71 hM => ?_)
                obtain ⟨rfl, rfl⟩ := hP_71
                have hW2 := wf_ap (st := nI (v_2 % S)) (s := nI (T + (v_45 % 20))) (n := nI (1 + (v_70 % 12))) hW hcp.2
                have hT2 : (apF g P (nI (v_2 % S)) (nI (T + (v_45 % 20))) (nI (1 + (v_70 % 12)))) 2 = nI T := by unfold apF; rw [upd_n (by omega), upd_n (by omega), upd_n (by omega), upd_n (by omega), upd_n (by omega)]; exact hT
                refine lv_istore (lv' := [(20, .int (nI P)), (0, .ref bo), (1, .ref ra), (3, .int (nI (v_1 % B))), (4, .int (nI (v_2 % S))), (7, .int (nI (T + (v_45 % 20)))), (17, .int (nI P)), (19, .int (nI (1 + (v_70 % 12)))), (18, .int tk)]) hx hb dL_act_545 hl (by decide) rfl (fun ls hl => ?_)
                refine lv_iload hx hb dL_act_547 (lv_at hl 8 rfl) ?_
                refine lv_if_eq (tgt := 579) hx hb dL_act_549 (by decide) (fun c_142 => ?_) (fun c_142 => ?_)
                · refine lv_iload hx hb dL_act_579 (lv_at hl 0 rfl) ?_
                  refine lv_iload hx hb dL_act_581 (lv_at hl 6 rfl) ?_
                  refine lv_icmp_ne (tgt := 601) hx hb dL_act_583 (by decide) (fun c_143 => ?_) (fun c_143 => ?_)
                  · exact absurd rfl c_143
                  · refine lv_aload_n hx hb dL_act_586 rfl (lv_at hl 1 rfl) ?_
                    refine lv_iload hx hb dL_act_587 (lv_at hl 4 rfl) ?_
                    refine lv_iload hx hb dL_act_589 (lv_at hl 5 rfl) ?_
                    refine me_callVi (As := [.int (nI (v_2 % S)), .int (nI (T + (v_45 % 20)))]) (rest := []) hC hl.1 hM (c_X7_permitFor l D tb X z0 n_71 bo (apF g P (nI (v_2 % S)) (nI (T + (v_45 % 20))) (nI (1 + (v_70 % 12)))) (recG G g S B L P nx) (recF F nx ct) sf inp out (me_up M0 ra (.inl (tb 0, 1, .inl f_70))) S B L (P + 1) T (v_2 % S) (T + (v_45 % 20)) hW2 hT2 hT0 (by omega) (by omega) (by omega)) (kv_L_155 hw rfl rfl ⟨Nat.le_of_ble_eq_true rfl, Nat.le_of_ble_eq_true rfl⟩) rfl rfl (bq_at h_b) rfl (Nat.le_of_ble_eq_true rfl) dL_act_591 ⟨Nat.le_of_ble_eq_true rfl, Nat.le_of_ble_eq_true rfl⟩ (fun H locs hM => ?_)
                    refine lv_if_lt (tgt := 601) hx hb dL_act_594 (by decide) (fun c_144 => ?_) (fun c_144 => ?_)
                    · have c_144q := Int32.not_le.mpr c_144
                      exact absurd c_144 (a6 _ _ _ (by omega) (by omega) (by omega) (by omega) (by omega) hcp.2)
                    · have c_144q := Int32.not_lt.mp c_144
                      refine lv_iconst (v := 1) hx hb dL_act_597 (by decide) ?_
                      refine lv_goto (tgt := 602) hx hb dL_act_598 (by decide) ?_
                      refine W.widen (k := 8) (n := 60) (by omega) (by omega) ?_
                      exact me_pret hC hr hlk hM (⟨_, _, _, _, _, rfl, Or.inr (Or.inr (Or.inr (Or.inl (⟨_, _, _, by omega, by omega, by omega, by omega, by omega, hcp, rfl, rfl, rfl, rfl⟩)))), rfl⟩) (rfl) dL_act_602
                · exact absurd hcp (fun z => (hqP.resolve_left (fun y => c_142 y.1)).2.elim (fun e2 => by have := z.2; omega) (fun ⟨j, hj, h⟩ => a5_.mp z.1 j (by omega) h))
              · skip
                refine lv_aload_n hx hb dL_act_535 rfl (lv_at hl 0 rfl) ?_
                refine lv_iload hx hb dL_act_536 (lv_at hl 3 rfl) ?_
                refine lv_iload hx hb dL_act_538 (lv_at hl 4 rfl) ?_
                refine lv_iload hx hb dL_act_540 (lv_at hl 6 rfl) ?_
                refine me_callSnp (nA := 4) (As := [.ref bo, .int (nI (v_2 % S)), .int (nI (T + (v_45 % 20))), .int (nI (1 + (v_70 % 12)))]) (rest := []) hC hl.1 hM (c_L_permitted_x3 (mc := 1) (ms := 6) l D tb X z0 n_70 bo (nI (v_2 % S)) (nI (T + (v_45 % 20))) (nI (1 + (v_70 % 12))) hCE rfl rfl ⟨Nat.le_of_ble_eq_true rfl, Nat.le_of_ble_eq_true rfl⟩ (bq_at h_b) (c_X7_grantPermit_x4 l D tb X z0 n_70 bo g G F sf inp out (me_up M0 ra (.inl (tb 0, 1, .inl f_70))) S B L P T (v_2 % S) (T + (v_45 % 20)) (1 + (v_70 % 12)) hfl hXs hW hT hT0 (by omega) (by omega) (by omega) (by omega) (by omega) hcp)) w_805 w_806 w_0 w_807 (by decide +kernel) rfl rfl ⟨Nat.le_of_ble_eq_true rfl, Nat.le_of_ble_eq_true rfl⟩ rfl rfl (Nat.le_of_ble_eq_true rfl) dL_act_542 ⟨Nat.le_of_ble_eq_true rfl, Nat.le_of_ble_eq_true rfl⟩ (fun r_72 M_72 hP_72 H locs n_72 hM => ?_)
                obtain ⟨rfl, rfl⟩ := hP_72
                refine lv_istore (lv' := [(20, .int (-3)), (0, .ref bo), (1, .ref ra), (3, .int (nI (v_1 % B))), (4, .int (nI (v_2 % S))), (7, .int (nI (T + (v_45 % 20)))), (17, .int (nI P)), (19, .int (nI (1 + (v_70 % 12)))), (18, .int tk)]) hx hb dL_act_545 hl (by decide) rfl (fun ls hl => ?_)
                refine lv_iload hx hb dL_act_547 (lv_at hl 8 rfl) ?_
                refine lv_if_eq (tgt := 579) hx hb dL_act_549 (by decide) (fun c_145 => ?_) (fun c_145 => ?_)
                · exact absurd ⟨a5_.mpr (fun j hj => (hqP.resolve_right (fun y => y.1 c_145)).2.2 j (by omega)), by have := (hqP.resolve_right (fun y => y.1 c_145)).2.1; omega⟩ hcp
                · refine lv_iload hx hb dL_act_552 (lv_at hl 0 rfl) ?_
                  refine lv_bipush (v := (-3)) hx hb dL_act_554 (by decide) ?_
                  refine lv_icmp_ne (tgt := 575) hx hb dL_act_556 (by decide) (fun c_146 => ?_) (fun c_146 => ?_)
                  · exact absurd c_146 (by decide)
                  · refine lv_aload_n hx hb dL_act_559 rfl (lv_at hl 1 rfl) ?_
                    refine lv_iload_n hx hb dL_act_560 rfl (lv_at hl 3 rfl) ?_
                    refine lv_iconst (v := 4) hx hb dL_act_561 (by decide) ?_
                    refine me_callSnp (nA := 3) (As := [.ref bo, .int (nI (v_1 % B)), .int 4]) (rest := []) hC hl.1 hM (c_L_paid (mc := 0) (ms := 0) l D tb X z0 n_72 bo (nI (v_1 % B)) 4 rfl rfl ⟨Nat.le_of_ble_eq_true rfl, Nat.le_of_ble_eq_true rfl⟩ (bq_at h_b) (c_X7_pay l D tb X z0 n_72 bo g G F sf inp out (me_up M0 ra (.inl (tb 0, 1, .inl f_70))) S B L P nx ct (v_1 % B) 4 hW hnx hnx0 hct hct0 (by omega) (by decide) (by decide))) w_833 w_834 w_0 w_835 (by decide +kernel) rfl rfl ⟨Nat.le_of_ble_eq_true rfl, Nat.le_of_ble_eq_true rfl⟩ rfl rfl (Nat.le_of_ble_eq_true rfl) dL_act_562 ⟨Nat.le_of_ble_eq_true rfl, Nat.le_of_ble_eq_true rfl⟩ (fun r_73 M_73 hP_73 H locs n_73 hM => ?_)
                    obtain ⟨rfl, rfl⟩ := hP_73
                    refine lv_sipush (v := (-9999)) hx hb dL_act_565 (by decide) ?_
                    refine lv_icmp_le (tgt := 575) hx hb dL_act_568 (by decide) (fun c_147 => ?_) (fun c_147 => ?_)
                    · have c_147q := c_147
                      have c_147 := Int32.not_lt.mpr c_147
                      exact absurd c_147q (a3 _ _ (by omega) (by decide))
                    · have c_147q := c_147
                      have c_147 := Int32.not_le.mp c_147
                      refine lv_iconst (v := 1) hx hb dL_act_571 (by decide) ?_
                      refine lv_goto (tgt := 602) hx hb dL_act_572 (by decide) ?_
                      refine W.widen (k := 8) (n := 60) (by omega) (by omega) ?_
                      exact me_pret hC hr hlk hM (⟨_, _, _, _, _, rfl, Or.inr (Or.inr (Or.inr (Or.inr (Or.inr (Or.inl (⟨v_1 % B, 4, by omega, by decide, by decide, rfl, rfl, rfl, rfl⟩)))))), rfl⟩) (rfl) dL_act_602
            · have c_141 := (not_congr (br_le (nx_add rfl rfl) rfl (by omega) (by omega))).mp c_141
              obtain ⟨qP, rfl⟩ : ∃ qP, rP = qP + 1 := ⟨rP - 1, by omega⟩
              refine lv_aload_n hx hb dL_act_489 rfl (lv_at hl 0 rfl) ?_
              refine lv_iload hx hb dL_act_490 (lv_at hl 8 rfl) ?_
              refine me_callVi (As := [.int (nI (T + (v_45 % 20) + i))]) (rest := []) hC hl.1 hM (c_X7_holderOf l D tb X z0 n_70 bo g G F sf inp out (me_up M0 ra (.inl (tb 0, 1, .inl f_70))) S B L P T (T + (v_45 % 20) + i) hW hT hT0 (by omega) (by omega)) (kv_L_165 hw rfl rfl ⟨Nat.le_of_ble_eq_true rfl, Nat.le_of_ble_eq_true rfl⟩) rfl rfl (bq_at h_b) rfl (Nat.le_of_ble_eq_true rfl) dL_act_492 ⟨Nat.le_of_ble_eq_true rfl, Nat.le_of_ble_eq_true rfl⟩ (fun H locs hM => ?_)
              obtain ⟨yh, hyh⟩ : ∃ yh, hoF g L (nI (T + (v_45 % 20) + i)) = yh := ⟨_, rfl⟩
              refine me_evi (y := yh) hyh ?_
              rcases hoC (by omega) hyh.symm with rfl | ⟨j, hj, rfl⟩
              · skip
                refine lv_istore (lv' := [(21, .int (-1)), (0, .ref bo), (1, .ref ra), (3, .int (nI (v_1 % B))), (4, .int (nI (v_2 % S))), (7, .int (nI (T + (v_45 % 20)))), (17, .int (nI P)), (19, .int (nI (1 + (v_70 % 12)))), (18, .int tk), (20, .int (nI (T + (v_45 % 20) + i)))]) hx hb dL_act_495 hl (by decide) rfl (fun ls hl => ?_)
                refine lv_iload hx hb dL_act_497 (lv_at hl 8 rfl) ?_
                refine lv_if_ne (tgt := 522) hx hb dL_act_499 (by decide) (fun c_148 => ?_) (fun c_148 => ?_)
                · refine lv_iconst (v := 1) hx hb dL_act_522 (by decide) ?_
                  refine lv_goto (tgt := 527) hx hb dL_act_523 (by decide) ?_
                  refine lv_istore (lv' := [(18, .int 1), (21, .int (-1)), (0, .ref bo), (1, .ref ra), (3, .int (nI (v_1 % B))), (4, .int (nI (v_2 % S))), (7, .int (nI (T + (v_45 % 20)))), (17, .int (nI P)), (19, .int (nI (1 + (v_70 % 12)))), (20, .int (nI (T + (v_45 % 20) + i)))]) hx hb dL_act_527 hl (by decide) rfl (fun ls hl => ?_)
                  refine lv_iinc (v := nI (T + (v_45 % 20) + i + 1)) (lv' := [(20, .int (nI (T + (v_45 % 20) + i + 1))), (18, .int 1), (21, .int (-1)), (0, .ref bo), (1, .ref ra), (3, .int (nI (v_1 % B))), (4, .int (nI (v_2 % S))), (7, .int (nI (T + (v_45 % 20)))), (17, .int (nI P)), (19, .int (nI (1 + (v_70 % 12))))]) hx hb dL_act_529 hl (k := 9) rfl (nx_add rfl rfl) (by decide) rfl (fun ls hl => ?_)
                  refine lv_goto (tgt := 479) hx hb dL_act_532 (by decide) ?_
                  exact ih_479 qP (by omega) (i + 1) 1 _ _ _ (by omega) (Or.inr ⟨by decide, (hqP.resolve_left (fun z => c_148 z.1)).2.imp id (fun ⟨j, hj, h⟩ => ⟨j, by omega, h⟩)⟩) hM (lv_sub hl [3, 4, 5, 6, 7, 8, 9, 1, 0] rfl)
                · refine lv_iload hx hb dL_act_502 (lv_at hl 0 rfl) ?_
                  refine lv_if_lt (tgt := 526) hx hb dL_act_504 (by decide) (fun c_149 => ?_) (fun c_149 => ?_)
                  · have c_149q := Int32.not_le.mpr c_149
                    refine lv_iconst (v := 0) hx hb dL_act_526 (by decide) ?_
                    refine lv_istore (lv' := [(18, .int 0), (21, .int (-1)), (0, .ref bo), (1, .ref ra), (3, .int (nI (v_1 % B))), (4, .int (nI (v_2 % S))), (7, .int (nI (T + (v_45 % 20)))), (17, .int (nI P)), (19, .int (nI (1 + (v_70 % 12)))), (20, .int (nI (T + (v_45 % 20) + i)))]) hx hb dL_act_527 hl (by decide) rfl (fun ls hl => ?_)
                    refine lv_iinc (v := nI (T + (v_45 % 20) + i + 1)) (lv' := [(20, .int (nI (T + (v_45 % 20) + i + 1))), (18, .int 0), (21, .int (-1)), (0, .ref bo), (1, .ref ra), (3, .int (nI (v_1 % B))), (4, .int (nI (v_2 % S))), (7, .int (nI (T + (v_45 % 20)))), (17, .int (nI P)), (19, .int (nI (1 + (v_70 % 12))))]) hx hb dL_act_529 hl (k := 9) rfl (nx_add rfl rfl) (by decide) rfl (fun ls hl => ?_)
                    refine lv_goto (tgt := 479) hx hb dL_act_532 (by decide) ?_
                    exact ih_479 qP (by omega) (i + 1) 0 _ _ _ (by omega) (Or.inl ⟨rfl, (hqP.resolve_right (fun z => z.1 c_148)).2.1, fun j2 h2 => (Nat.lt_succ_iff_lt_or_eq.mp h2).elim ((hqP.resolve_right (fun z => z.1 c_148)).2.2 j2) (fun e2 => by subst e2; exact fun ⟨l2, h5, h6, h7⟩ => nI_nm1 (k := l2) (by omega) (h6.symm.trans hyh))⟩) hM (lv_sub hl [3, 4, 5, 6, 7, 8, 9, 1, 0] rfl)
                  · exact absurd c_149 (by decide)
              · skip
                refine lv_istore (lv' := [(21, .int (nI j)), (0, .ref bo), (1, .ref ra), (3, .int (nI (v_1 % B))), (4, .int (nI (v_2 % S))), (7, .int (nI (T + (v_45 % 20)))), (17, .int (nI P)), (19, .int (nI (1 + (v_70 % 12)))), (18, .int tk), (20, .int (nI (T + (v_45 % 20) + i)))]) hx hb dL_act_495 hl (by decide) rfl (fun ls hl => ?_)
                refine lv_iload hx hb dL_act_497 (lv_at hl 8 rfl) ?_
                refine lv_if_ne (tgt := 522) hx hb dL_act_499 (by decide) (fun c_150 => ?_) (fun c_150 => ?_)
                · refine lv_iconst (v := 1) hx hb dL_act_522 (by decide) ?_
                  refine lv_goto (tgt := 527) hx hb dL_act_523 (by decide) ?_
                  refine lv_istore (lv' := [(18, .int 1), (21, .int (nI j)), (0, .ref bo), (1, .ref ra), (3, .int (nI (v_1 % B))), (4, .int (nI (v_2 % S))), (7, .int (nI (T + (v_45 % 20)))), (17, .int (nI P)), (19, .int (nI (1 + (v_70 % 12)))), (20, .int (nI (T + (v_45 % 20) + i)))]) hx hb dL_act_527 hl (by decide) rfl (fun ls hl => ?_)
                  refine lv_iinc (v := nI (T + (v_45 % 20) + i + 1)) (lv' := [(20, .int (nI (T + (v_45 % 20) + i + 1))), (18, .int 1), (21, .int (nI j)), (0, .ref bo), (1, .ref ra), (3, .int (nI (v_1 % B))), (4, .int (nI (v_2 % S))), (7, .int (nI (T + (v_45 % 20)))), (17, .int (nI P)), (19, .int (nI (1 + (v_70 % 12))))]) hx hb dL_act_529 hl (k := 9) rfl (nx_add rfl rfl) (by decide) rfl (fun ls hl => ?_)
                  refine lv_goto (tgt := 479) hx hb dL_act_532 (by decide) ?_
                  exact ih_479 qP (by omega) (i + 1) 1 _ _ _ (by omega) (Or.inr ⟨by decide, (hqP.resolve_left (fun z => c_150 z.1)).2.imp id (fun ⟨j, hj, h⟩ => ⟨j, by omega, h⟩)⟩) hM (lv_sub hl [3, 4, 5, 6, 7, 8, 9, 1, 0] rfl)
                · refine lv_iload hx hb dL_act_502 (lv_at hl 0 rfl) ?_
                  refine lv_if_lt (tgt := 526) hx hb dL_act_504 (by decide) (fun c_151 => ?_) (fun c_151 => ?_)
                  · exact absurd c_151 (nI_pos (by omega))
                  · have c_151q := Int32.not_lt.mp c_151
                    refine lv_aload_n hx hb dL_act_507 rfl (lv_at hl 1 rfl) ?_
                    refine lv_aload_n hx hb dL_act_508 rfl (lv_at hl 1 rfl) ?_
                    refine lv_iload hx hb dL_act_509 (lv_at hl 0 rfl) ?_
                    refine me_callVi (As := [.int (nI j)]) (rest := [.ref bo]) hC hl.1 hM (c_X7_borrowerOf l D tb X z0 n_70 bo g G F sf inp out (me_up M0 ra (.inl (tb 0, 1, .inl f_70))) S B L P j hW (by omega)) (kv_L_140 hw rfl rfl ⟨Nat.le_of_ble_eq_true rfl, Nat.le_of_ble_eq_true rfl⟩) rfl rfl (bq_at h_b) rfl (Nat.le_of_ble_eq_true rfl) dL_act_511 ⟨Nat.le_of_ble_eq_true rfl, Nat.le_of_ble_eq_true rfl⟩ (fun H locs hM => ?_)
                    have hb_ := (hW.2.2.2.2.2.2.2.2.2 j (by omega)).2
                    refine me_evi (y := nI (ow g j)) (hW.2.2.2.2.2.2.2.2.2 j (by omega)).1 ?_
                    refine me_callVi (As := [.int (nI (ow g j))]) (rest := []) hC hl.1 hM (c_X7_streetOf l D tb X z0 n_70 bo g G F sf inp out (me_up M0 ra (.inl (tb 0, 1, .inl f_70))) S B L P (ow g j) hW (by omega)) (kv_L_128 hw rfl rfl ⟨Nat.le_of_ble_eq_true rfl, Nat.le_of_ble_eq_true rfl⟩) rfl rfl (bq_at h_b) rfl (Nat.le_of_ble_eq_true rfl) dL_act_514 ⟨Nat.le_of_ble_eq_true rfl, Nat.le_of_ble_eq_true rfl⟩ (fun H locs hM => ?_)
                    have hb_ := (hW.2.2.2.2.2.2.2.2.1 (ow g j) (by omega)).2
                    refine me_evi (y := nI (hm g (ow g j))) (hW.2.2.2.2.2.2.2.2.1 (ow g j) (by omega)).1 ?_
                    refine lv_iload hx hb dL_act_517 (lv_at hl 4 rfl) ?_
                    refine lv_icmp_ne (tgt := 526) hx hb dL_act_519 (by decide) (fun c_152 => ?_) (fun c_152 => ?_)
                    · have c_152 := (not_congr (br_eq rfl rfl (by omega) (by omega))).mp c_152
                      refine lv_iconst (v := 0) hx hb dL_act_526 (by decide) ?_
                      refine lv_istore (lv' := [(18, .int 0), (21, .int (nI j)), (0, .ref bo), (1, .ref ra), (3, .int (nI (v_1 % B))), (4, .int (nI (v_2 % S))), (7, .int (nI (T + (v_45 % 20)))), (17, .int (nI P)), (19, .int (nI (1 + (v_70 % 12)))), (20, .int (nI (T + (v_45 % 20) + i)))]) hx hb dL_act_527 hl (by decide) rfl (fun ls hl => ?_)
                      refine lv_iinc (v := nI (T + (v_45 % 20) + i + 1)) (lv' := [(20, .int (nI (T + (v_45 % 20) + i + 1))), (18, .int 0), (21, .int (nI j)), (0, .ref bo), (1, .ref ra), (3, .int (nI (v_1 % B))), (4, .int (nI (v_2 % S))), (7, .int (nI (T + (v_45 % 20)))), (17, .int (nI P)), (19, .int (nI (1 + (v_70 % 12))))]) hx hb dL_act_529 hl (k := 9) rfl (nx_add rfl rfl) (by decide) rfl (fun ls hl => ?_)
                      refine lv_goto (tgt := 479) hx hb dL_act_532 (by decide) ?_
                      exact ih_479 qP (by omega) (i + 1) 0 _ _ _ (by omega) (Or.inl ⟨rfl, (hqP.resolve_right (fun z => z.1 c_150)).2.1, fun j2 h2 => (Nat.lt_succ_iff_lt_or_eq.mp h2).elim ((hqP.resolve_right (fun z => z.1 c_150)).2.2 j2) (fun e2 => by subst e2; exact fun ⟨l2, h5, h6, h7⟩ => c_152 ((show l2 = j from (nI_eq (by omega) (by omega)).mp (h6.symm.trans hyh)) ▸ h7))⟩) hM (lv_sub hl [3, 4, 5, 6, 7, 8, 9, 1, 0] rfl)
                    · have c_152 := (br_eq rfl rfl (by omega) (by omega)).mp c_152
                      refine lv_iconst (v := 1) hx hb dL_act_522 (by decide) ?_
                      refine lv_goto (tgt := 527) hx hb dL_act_523 (by decide) ?_
                      refine lv_istore (lv' := [(18, .int 1), (21, .int (nI j)), (0, .ref bo), (1, .ref ra), (3, .int (nI (v_1 % B))), (4, .int (nI (v_2 % S))), (7, .int (nI (T + (v_45 % 20)))), (17, .int (nI P)), (19, .int (nI (1 + (v_70 % 12)))), (20, .int (nI (T + (v_45 % 20) + i)))]) hx hb dL_act_527 hl (by decide) rfl (fun ls hl => ?_)
                      refine lv_iinc (v := nI (T + (v_45 % 20) + i + 1)) (lv' := [(20, .int (nI (T + (v_45 % 20) + i + 1))), (18, .int 1), (21, .int (nI j)), (0, .ref bo), (1, .ref ra), (3, .int (nI (v_1 % B))), (4, .int (nI (v_2 % S))), (7, .int (nI (T + (v_45 % 20)))), (17, .int (nI P)), (19, .int (nI (1 + (v_70 % 12))))]) hx hb dL_act_529 hl (k := 9) rfl (nx_add rfl rfl) (by decide) rfl (fun ls hl => ?_)
                      refine lv_goto (tgt := 479) hx hb dL_act_532 (by decide) ?_
                      exact ih_479 qP (by omega) (i + 1) 1 _ _ _ (by omega) (Or.inr ⟨by decide, Or.inr ⟨i, by omega, j, hj, hyh, c_152⟩⟩) hM (lv_sub hl [3, 4, 5, 6, 7, 8, 9, 1, 0] rfl)
          exact lp_479 (1 + (v_70 % 12)) 0 1 _ _ _ (by omega) (Or.inr ⟨by decide, Or.inl c_128⟩) hM (lv_sub hl [10, 11, 8, 7, 4, 3, 1, 2, 0] rfl)
      · refine me_evi (y := 6) c_94 ?_
        refine lv_tableIn (tgt := 603) hx hb dL_act_79 (by decide) (by decide) (off := 524) (by decide) (by decide) ?_
        refine lv_aload_n hx hb dL_act_603 rfl (lv_at hl 6 rfl) ?_
        refine lv_aload_n hx hb dL_act_604 rfl (lv_at hl 7 rfl) ?_
        refine me_callSp (As := [.ref ra]) (rest := [.ref bo]) hC hl.1 hM (c_L_next l D tb X z0 n_46 ra f_46 (sp tb (bo + 722) g (bq tb bo G F sf inp out (me_up M0 ra (.inl (tb 0, 1, .inl f_46))))) (bq_some hra (me_up_s _ _ _))) (ks_L_79 hw rfl rfl ⟨Nat.le_of_ble_eq_true rfl, Nat.le_of_ble_eq_true rfl⟩) rfl rfl (Nat.le_of_ble_eq_true rfl) dL_act_605 ⟨Nat.le_of_ble_eq_true rfl, Nat.le_of_ble_eq_true rfl⟩ (fun r_74 M_74 hP_74 H locs n_74 hM => ?_)
        obtain ⟨v_74, f_74, rfl, hv_74, rfl⟩ := hP_74
        have hM := hM.eq (bq_upo hra)
        refine lv_bipush (v := 10) hx hb dL_act_608 (by decide) ?_
        refine lv_irem hx hb dL_act_610 (by decide) ?_
        refine me_evi (y := nI (v_74 % 10)) (nx_rem 10 rfl (by omega) (by omega) (by omega)) ?_
        have hem := rv_cases g P (v_74 % 10)
        rcases hem with hrv | hrv | hrv
        · skip
          refine me_callSnp (nA := 2) (As := [.ref bo, .int (nI (v_74 % 10))]) (rest := []) hC hl.1 hM (c_L_revoked_x1 (mc := 1) (ms := 6) l D tb X z0 n_74 bo (nI (v_74 % 10)) hCE rfl rfl ⟨Nat.le_of_ble_eq_true rfl, Nat.le_of_ble_eq_true rfl⟩ (bq_at h_b) (c_X7_revokePermit_x1 l D tb X z0 n_74 bo g G F sf inp out (me_up M0 ra (.inl (tb 0, 1, .inl f_74))) S B L P (nI (v_74 % 10)) hfl hXs hW (Or.inr (by rw [hW.2.2.2.2.2.2.1]; exact nI_le hrv (by omega))))) w_820 w_821 w_0 w_822 (by decide +kernel) rfl rfl ⟨Nat.le_of_ble_eq_true rfl, Nat.le_of_ble_eq_true rfl⟩ rfl rfl (Nat.le_of_ble_eq_true rfl) dL_act_611 ⟨Nat.le_of_ble_eq_true rfl, Nat.le_of_ble_eq_true rfl⟩ (fun r_75 M_75 hP_75 H locs n_75 hM => ?_)
          obtain ⟨rfl, rfl⟩ := hP_75
          refine lv_istore (lv' := [(21, .int (-5)), (7, .int (nI (T + (v_45 % 20)))), (6, .int (-1)), (5, .int 0), (4, .int (nI (v_2 % S))), (3, .int (nI (v_1 % B))), (2, .int (nI L)), (0, .ref bo), (1, .ref ra)]) hx hb dL_act_614 hl (by decide) rfl (fun ls hl => ?_)
          refine lv_iload hx hb dL_act_616 (lv_at hl 0 rfl) ?_
          refine lv_if_lt (tgt := 638) hx hb dL_act_618 (by decide) (fun c_153 => ?_) (fun c_153 => ?_)
          · have c_153q := Int32.not_le.mpr c_153
            refine lv_aload_n hx hb dL_act_638 rfl (lv_at hl 7 rfl) ?_
            refine lv_iload_n hx hb dL_act_639 rfl (lv_at hl 5 rfl) ?_
            refine lv_iconst (v := 5) hx hb dL_act_640 (by decide) ?_
            refine me_callSnp (nA := 3) (As := [.ref bo, .int (nI (v_1 % B)), .int 5]) (rest := []) hC hl.1 hM (c_L_paid (mc := 0) (ms := 0) l D tb X z0 n_75 bo (nI (v_1 % B)) 5 rfl rfl ⟨Nat.le_of_ble_eq_true rfl, Nat.le_of_ble_eq_true rfl⟩ (bq_at h_b) (c_X7_pay l D tb X z0 n_75 bo g G F sf inp out (me_up M0 ra (.inl (tb 0, 1, .inl f_74))) S B L P nx ct (v_1 % B) 5 hW hnx hnx0 hct hct0 (by omega) (by decide) (by decide))) w_833 w_834 w_0 w_835 (by decide +kernel) rfl rfl ⟨Nat.le_of_ble_eq_true rfl, Nat.le_of_ble_eq_true rfl⟩ rfl rfl (Nat.le_of_ble_eq_true rfl) dL_act_641 ⟨Nat.le_of_ble_eq_true rfl, Nat.le_of_ble_eq_true rfl⟩ (fun r_76 M_76 hP_76 H locs n_76 hM => ?_)
            obtain ⟨rfl, rfl⟩ := hP_76
            refine lv_sipush (v := (-9999)) hx hb dL_act_644 (by decide) ?_
            refine lv_icmp_le (tgt := 654) hx hb dL_act_647 (by decide) (fun c_154 => ?_) (fun c_154 => ?_)
            · have c_154q := c_154
              have c_154 := Int32.not_lt.mpr c_154
              exact absurd c_154q (a3 _ _ (by omega) (by decide))
            · have c_154q := c_154
              have c_154 := Int32.not_le.mp c_154
              refine lv_iconst (v := 1) hx hb dL_act_650 (by decide) ?_
              refine lv_goto (tgt := 655) hx hb dL_act_651 (by decide) ?_
              refine W.widen (k := 8) (n := 60) (by omega) (by omega) ?_
              exact me_pret hC hr hlk hM (⟨_, _, _, _, _, rfl, Or.inr (Or.inr (Or.inr (Or.inr (Or.inr (Or.inl (⟨v_1 % B, 5, by omega, by decide, by decide, rfl, rfl, rfl, rfl⟩)))))), rfl⟩) (rfl) dL_act_655
          · exact absurd c_153 (by decide)
        · skip
          refine me_callSnp (nA := 2) (As := [.ref bo, .int (nI (v_74 % 10))]) (rest := []) hC hl.1 hM (c_L_revoked_x2 (mc := 1) (ms := 6) l D tb X z0 n_74 bo (nI (v_74 % 10)) hCE rfl rfl ⟨Nat.le_of_ble_eq_true rfl, Nat.le_of_ble_eq_true rfl⟩ (bq_at h_b) (c_X7_revokePermit_x2 l D tb X z0 n_74 bo g G F sf inp out (me_up M0 ra (.inl (tb 0, 1, .inl f_74))) S B L P (v_74 % 10) hfl hXs hW hrv.1 hrv.2)) w_820 w_821 w_0 w_822 (by decide +kernel) rfl rfl ⟨Nat.le_of_ble_eq_true rfl, Nat.le_of_ble_eq_true rfl⟩ rfl rfl (Nat.le_of_ble_eq_true rfl) dL_act_611 ⟨Nat.le_of_ble_eq_true rfl, Nat.le_of_ble_eq_true rfl⟩ (fun r_77 M_77 hP_77 H locs n_77 hM => ?_)
          obtain ⟨rfl, rfl⟩ := hP_77
          refine lv_istore (lv' := [(21, .int (-3)), (7, .int (nI (T + (v_45 % 20)))), (6, .int (-1)), (5, .int 0), (4, .int (nI (v_2 % S))), (3, .int (nI (v_1 % B))), (2, .int (nI L)), (0, .ref bo), (1, .ref ra)]) hx hb dL_act_614 hl (by decide) rfl (fun ls hl => ?_)
          refine lv_iload hx hb dL_act_616 (lv_at hl 0 rfl) ?_
          refine lv_if_lt (tgt := 638) hx hb dL_act_618 (by decide) (fun c_155 => ?_) (fun c_155 => ?_)
          · have c_155q := Int32.not_le.mpr c_155
            refine lv_aload_n hx hb dL_act_638 rfl (lv_at hl 7 rfl) ?_
            refine lv_iload_n hx hb dL_act_639 rfl (lv_at hl 5 rfl) ?_
            refine lv_iconst (v := 5) hx hb dL_act_640 (by decide) ?_
            refine me_callSnp (nA := 3) (As := [.ref bo, .int (nI (v_1 % B)), .int 5]) (rest := []) hC hl.1 hM (c_L_paid (mc := 0) (ms := 0) l D tb X z0 n_77 bo (nI (v_1 % B)) 5 rfl rfl ⟨Nat.le_of_ble_eq_true rfl, Nat.le_of_ble_eq_true rfl⟩ (bq_at h_b) (c_X7_pay l D tb X z0 n_77 bo g G F sf inp out (me_up M0 ra (.inl (tb 0, 1, .inl f_74))) S B L P nx ct (v_1 % B) 5 hW hnx hnx0 hct hct0 (by omega) (by decide) (by decide))) w_833 w_834 w_0 w_835 (by decide +kernel) rfl rfl ⟨Nat.le_of_ble_eq_true rfl, Nat.le_of_ble_eq_true rfl⟩ rfl rfl (Nat.le_of_ble_eq_true rfl) dL_act_641 ⟨Nat.le_of_ble_eq_true rfl, Nat.le_of_ble_eq_true rfl⟩ (fun r_78 M_78 hP_78 H locs n_78 hM => ?_)
            obtain ⟨rfl, rfl⟩ := hP_78
            refine lv_sipush (v := (-9999)) hx hb dL_act_644 (by decide) ?_
            refine lv_icmp_le (tgt := 654) hx hb dL_act_647 (by decide) (fun c_156 => ?_) (fun c_156 => ?_)
            · have c_156q := c_156
              have c_156 := Int32.not_lt.mpr c_156
              exact absurd c_156q (a3 _ _ (by omega) (by decide))
            · have c_156q := c_156
              have c_156 := Int32.not_le.mp c_156
              refine lv_iconst (v := 1) hx hb dL_act_650 (by decide) ?_
              refine lv_goto (tgt := 655) hx hb dL_act_651 (by decide) ?_
              refine W.widen (k := 8) (n := 60) (by omega) (by omega) ?_
              exact me_pret hC hr hlk hM (⟨_, _, _, _, _, rfl, Or.inr (Or.inr (Or.inr (Or.inr (Or.inr (Or.inl (⟨v_1 % B, 5, by omega, by decide, by decide, rfl, rfl, rfl, rfl⟩)))))), rfl⟩) (rfl) dL_act_655
          · exact absurd c_155 (by decide)
        · skip
          refine me_callSnp (nA := 2) (As := [.ref bo, .int (nI (v_74 % 10))]) (rest := []) hC hl.1 hM (c_L_revoked (mc := 0) (ms := 0) l D tb X z0 n_74 bo (nI (v_74 % 10)) rfl rfl ⟨Nat.le_of_ble_eq_true rfl, Nat.le_of_ble_eq_true rfl⟩ (bq_at h_b) (c_X7_revokePermit l D tb X z0 n_74 bo g G F sf inp out (me_up M0 ra (.inl (tb 0, 1, .inl f_74))) S B L P nx ct (v_74 % 10) hW hnx hnx0 hct hct0 hrv.1 hrv.2)) w_820 w_821 w_0 w_822 (by decide +kernel) rfl rfl ⟨Nat.le_of_ble_eq_true rfl, Nat.le_of_ble_eq_true rfl⟩ rfl rfl (Nat.le_of_ble_eq_true rfl) dL_act_611 ⟨Nat.le_of_ble_eq_true rfl, Nat.le_of_ble_eq_true rfl⟩ (fun r_79 M_79 hP_79 H locs n_79 hM => ?_)
          obtain ⟨rfl, rfl⟩ := hP_79
          have hW2 := wf_rv (k := v_74 % 10) hW hrv.1
          have hT2 : (rvG (v_74 % 10) g) 2 = nI T := by unfold rvG; rw [upd_n (by omega)]; exact hT
          have hco := co_lt (P := fun k2 => bz (rvG (v_74 % 10) g (221 + 4 * k2 + 3)) = 0) P 0 (v_74 % 10) (by omega) (by omega) (by show ¬ bz (rvG (v_74 % 10) g (221 + 4 * (v_74 % 10) + 3)) = 0; unfold rvG; rw [upd_s, bz_1]; decide)
          refine lv_istore (lv' := [(21, .int (nI (co (fun k2 => bz (rvG (v_74 % 10) g (221 + 4 * k2 + 3)) = 0) P 0))), (7, .int (nI (T + (v_45 % 20)))), (6, .int (-1)), (5, .int 0), (4, .int (nI (v_2 % S))), (3, .int (nI (v_1 % B))), (2, .int (nI L)), (0, .ref bo), (1, .ref ra)]) hx hb dL_act_614 hl (by decide) rfl (fun ls hl => ?_)
          refine lv_iload hx hb dL_act_616 (lv_at hl 0 rfl) ?_
          refine lv_if_lt (tgt := 638) hx hb dL_act_618 (by decide) (fun c_157 => ?_) (fun c_157 => ?_)
          · exact absurd c_157 (nI_pos (by omega))
          · have c_157q := Int32.not_lt.mp c_157
            refine lv_iload hx hb dL_act_621 (lv_at hl 0 rfl) ?_
            refine lv_aload_n hx hb dL_act_623 rfl (lv_at hl 7 rfl) ?_
            refine me_callVi (As := []) (rest := [.int (nI (co (fun k2 => bz (rvG (v_74 % 10) g (221 + 4 * k2 + 3)) = 0) P 0))]) hC hl.1 hM (c_X7_permitCount l D tb X z0 n_79 bo (rvG (v_74 % 10) g) (recG G g S B L P nx) (recF F nx ct) sf inp out (me_up M0 ra (.inl (tb 0, 1, .inl f_74))) S B L P  ) (kv_L_107 hw rfl rfl ⟨Nat.le_of_ble_eq_true rfl, Nat.le_of_ble_eq_true rfl⟩) rfl rfl (bq_at h_b) rfl (Nat.le_of_ble_eq_true rfl) dL_act_624 ⟨Nat.le_of_ble_eq_true rfl, Nat.le_of_ble_eq_true rfl⟩ (fun H locs hM => ?_)
            refine me_evi (y := nI P) hW2.2.2.2.2.2.2.1 ?_
            refine lv_icmp_ge (tgt := 634) hx hb dL_act_627 (by decide) (fun c_158 => ?_) (fun c_158 => ?_)
            · have c_158 := (br_le rfl rfl (by omega) (by omega)).mp c_158
              exfalso; omega
            · have c_158 := (not_congr (br_le rfl rfl (by omega) (by omega))).mp c_158
              refine lv_iconst (v := 1) hx hb dL_act_630 (by decide) ?_
              refine lv_goto (tgt := 655) hx hb dL_act_631 (by decide) ?_
              refine W.widen (k := 8) (n := 60) (by omega) (by omega) ?_
              exact me_pret hC hr hlk hM (⟨_, _, _, _, _, rfl, Or.inr (Or.inr (Or.inr (Or.inr (Or.inl (⟨_, hrv.1, hrv.2, rfl, rfl, rfl, rfl⟩))))), rfl⟩) (rfl) dL_act_655
      · refine me_evi (y := 7) c_94 ?_
        refine lv_tableOut (tgt := 656) hx hb dL_act_79 (by decide) (by decide) ?_
        refine lv_iconst (v := 1) hx hb dL_act_656 (by decide) ?_
        refine lv_aload_n hx hb dL_act_657 rfl (lv_at hl 7 rfl) ?_
        refine me_callSp (As := [.ref ra]) (rest := [.int 1]) hC hl.1 hM (c_L_next l D tb X z0 n_46 ra f_46 (sp tb (bo + 722) g (bq tb bo G F sf inp out (me_up M0 ra (.inl (tb 0, 1, .inl f_46))))) (bq_some hra (me_up_s _ _ _))) (ks_L_79 hw rfl rfl ⟨Nat.le_of_ble_eq_true rfl, Nat.le_of_ble_eq_true rfl⟩) rfl rfl (Nat.le_of_ble_eq_true rfl) dL_act_658 ⟨Nat.le_of_ble_eq_true rfl, Nat.le_of_ble_eq_true rfl⟩ (fun r_80 M_80 hP_80 H locs n_80 hM => ?_)
        obtain ⟨v_80, f_80, rfl, hv_80, rfl⟩ := hP_80
        have hM := hM.eq (bq_upo hra)
        refine lv_bipush (v := 12) hx hb dL_act_661 (by decide) ?_
        refine lv_irem hx hb dL_act_663 (by decide) ?_
        refine me_evi (y := nI (v_80 % 12)) (nx_rem 12 rfl (by omega) (by omega) (by omega)) ?_
        refine lv_iadd hx hb dL_act_664 ?_
        refine me_evi (y := nI (1 + (v_80 % 12))) (nx_add (show (1 : Int32) = nI 1 from rfl) rfl) ?_
        refine lv_istore (lv' := [(22, .int (nI (1 + (v_80 % 12)))), (7, .int (nI (T + (v_45 % 20)))), (6, .int (-1)), (5, .int 0), (4, .int (nI (v_2 % S))), (3, .int (nI (v_1 % B))), (2, .int (nI L)), (0, .ref bo), (1, .ref ra)]) hx hb dL_act_665 hl (by decide) rfl (fun ls hl => ?_)
        refine lv_aload_n hx hb dL_act_667 rfl (lv_at hl 7 rfl) ?_
        refine lv_iload_n hx hb dL_act_668 rfl (lv_at hl 5 rfl) ?_
        refine lv_iload hx hb dL_act_669 (lv_at hl 0 rfl) ?_
        have hfr_ := bq_fresh hM
        have hM0_ := hM
        refine me_callVi (As := [.int (nI (v_1 % B)), .int (nI (1 + (v_80 % 12)))]) (rest := []) hC hl.1 hM (c_X7_illnessAfter l D tb X z0 n_80 bo g G F sf inp out (me_up M0 ra (.inl (tb 0, 1, .inl f_80))) S B L P hN (v_1 % B) (1 + (v_80 % 12)) hW (by omega) (by omega) (bq_lt hM)) (kv_L_137 hw rfl rfl ⟨Nat.le_of_ble_eq_true rfl, Nat.le_of_ble_eq_true rfl⟩) rfl rfl (bq_at h_b) rfl (Nat.le_of_ble_eq_true rfl) dL_act_671 ⟨Nat.le_of_ble_eq_true rfl, Nat.le_of_ble_eq_true rfl⟩ (fun H locs hM => ?_)
        have hM := bq_drop hfr_ (bq_lt hM0_) hM
        refine lv_istore (lv' := [(23, .int (fcF g L P (v_1 % B) (1 + (v_80 % 12)))), (22, .int (nI (1 + (v_80 % 12)))), (7, .int (nI (T + (v_45 % 20)))), (6, .int (-1)), (5, .int 0), (4, .int (nI (v_2 % S))), (3, .int (nI (v_1 % B))), (2, .int (nI L)), (0, .ref bo), (1, .ref ra)]) hx hb dL_act_674 hl (by decide) rfl (fun ls hl => ?_)
        refine lv_aload_n hx hb dL_act_676 rfl (lv_at hl 8 rfl) ?_
        refine me_callVi (As := []) (rest := []) hC hl.1 hM (c_X7_clock l D tb X z0 (n_80 + 1) bo g G F sf inp out (me_up M0 ra (.inl (tb 0, 1, .inl f_80))) S B L P  ) (kv_L_104 hw rfl rfl ⟨Nat.le_of_ble_eq_true rfl, Nat.le_of_ble_eq_true rfl⟩) rfl rfl (bq_at h_b) rfl (Nat.le_of_ble_eq_true rfl) dL_act_677 ⟨Nat.le_of_ble_eq_true rfl, Nat.le_of_ble_eq_true rfl⟩ (fun H locs hM => ?_)
        refine me_evi (y := nI T) hT ?_
        refine lv_istore (lv' := [(24, .int (nI T)), (23, .int (fcF g L P (v_1 % B) (1 + (v_80 % 12)))), (22, .int (nI (1 + (v_80 % 12)))), (7, .int (nI (T + (v_45 % 20)))), (6, .int (-1)), (5, .int 0), (4, .int (nI (v_2 % S))), (3, .int (nI (v_1 % B))), (2, .int (nI L)), (0, .ref bo), (1, .ref ra)]) hx hb dL_act_680 hl (by decide) rfl (fun ls hl => ?_)
        refine lv_aload_n hx hb dL_act_682 rfl (lv_at hl 9 rfl) ?_
        refine lv_iconst (v := 4) hx hb dL_act_683 (by decide) ?_
        refine me_callVi (As := [.int 4]) (rest := []) hC hl.1 hM (c_X7_loansWith l D tb X z0 (n_80 + 1) bo g G F sf inp out (me_up M0 ra (.inl (tb 0, 1, .inl f_80))) S B L P 4 hW (by omega)) (kv_L_219 hw rfl rfl ⟨Nat.le_of_ble_eq_true rfl, Nat.le_of_ble_eq_true rfl⟩) rfl rfl (bq_at h_b) rfl (Nat.le_of_ble_eq_true rfl) dL_act_684 ⟨Nat.le_of_ble_eq_true rfl, Nat.le_of_ble_eq_true rfl⟩ (fun H locs hM => ?_)
        refine lv_istore (lv' := [(25, .int (nI (co (fun k => g (261 + 5 * k + 4) = nI 4) L 0))), (24, .int (nI T)), (23, .int (fcF g L P (v_1 % B) (1 + (v_80 % 12)))), (22, .int (nI (1 + (v_80 % 12)))), (7, .int (nI (T + (v_45 % 20)))), (6, .int (-1)), (5, .int 0), (4, .int (nI (v_2 % S))), (3, .int (nI (v_1 % B))), (2, .int (nI L)), (0, .ref bo), (1, .ref ra)]) hx hb dL_act_687 hl (by decide) rfl (fun ls hl => ?_)
        refine lv_aload_n hx hb dL_act_689 rfl (lv_at hl 10 rfl) ?_
        refine lv_iload hx hb dL_act_690 (lv_at hl 7 rfl) ?_
        refine me_callVi (As := [.int (nI (v_2 % S))]) (rest := []) hC hl.1 hM (c_X7_noiseNow l D tb X z0 (n_80 + 1) bo g G F sf inp out (me_up M0 ra (.inl (tb 0, 1, .inl f_80))) S B L P hN (v_2 % S) hW (by omega)) (kv_L_122 hw rfl rfl ⟨Nat.le_of_ble_eq_true rfl, Nat.le_of_ble_eq_true rfl⟩) rfl rfl (bq_at h_b) rfl (Nat.le_of_ble_eq_true rfl) dL_act_692 ⟨Nat.le_of_ble_eq_true rfl, Nat.le_of_ble_eq_true rfl⟩ (fun H locs hM => ?_)
        refine lv_istore (lv' := [(26, .int (noF g L P (v_2 % S) (g 2))), (25, .int (nI (co (fun k => g (261 + 5 * k + 4) = nI 4) L 0))), (24, .int (nI T)), (23, .int (fcF g L P (v_1 % B) (1 + (v_80 % 12)))), (22, .int (nI (1 + (v_80 % 12)))), (7, .int (nI (T + (v_45 % 20)))), (6, .int (-1)), (5, .int 0), (4, .int (nI (v_2 % S))), (3, .int (nI (v_1 % B))), (2, .int (nI L)), (0, .ref bo), (1, .ref ra)]) hx hb dL_act_695 hl (by decide) rfl (fun ls hl => ?_)
        refine lv_aload_n hx hb dL_act_697 rfl (lv_at hl 11 rfl) ?_
        refine lv_iload hx hb dL_act_698 (lv_at hl 8 rfl) ?_
        refine me_callVi (As := [.int (nI (v_2 % S))]) (rest := []) hC hl.1 hM (c_X7_noiseTotal l D tb X z0 (n_80 + 1) bo g G F sf inp out (me_up M0 ra (.inl (tb 0, 1, .inl f_80))) S B L P (v_2 % S) hW (by omega)) (kv_L_116 hw rfl rfl ⟨Nat.le_of_ble_eq_true rfl, Nat.le_of_ble_eq_true rfl⟩) rfl rfl (bq_at h_b) rfl (Nat.le_of_ble_eq_true rfl) dL_act_700 ⟨Nat.le_of_ble_eq_true rfl, Nat.le_of_ble_eq_true rfl⟩ (fun H locs hM => ?_)
        refine lv_istore (lv' := [(27, .int (g (9 + 10 * (v_2 % S) + 2))), (26, .int (noF g L P (v_2 % S) (g 2))), (25, .int (nI (co (fun k => g (261 + 5 * k + 4) = nI 4) L 0))), (24, .int (nI T)), (23, .int (fcF g L P (v_1 % B) (1 + (v_80 % 12)))), (22, .int (nI (1 + (v_80 % 12)))), (7, .int (nI (T + (v_45 % 20)))), (6, .int (-1)), (5, .int 0), (4, .int (nI (v_2 % S))), (3, .int (nI (v_1 % B))), (2, .int (nI L)), (0, .ref bo), (1, .ref ra)]) hx hb dL_act_703 hl (by decide) rfl (fun ls hl => ?_)
        refine lv_aload_n hx hb dL_act_705 rfl (lv_at hl 12 rfl) ?_
        refine lv_iload hx hb dL_act_706 (lv_at hl 5 rfl) ?_
        refine me_callSnp (nA := 2) (As := [.ref bo, .int (nI (1 + (v_80 % 12)))]) (rest := []) hC hl.1 hM (c_L_advanced (mc := 0) (ms := 0) l D tb X z0 (n_80 + 1) bo (nI (1 + (v_80 % 12))) rfl rfl ⟨Nat.le_of_ble_eq_true rfl, Nat.le_of_ble_eq_true rfl⟩ (bq_at h_b) (c_X7_advance l D tb X z0 (n_80 + 1) bo g G F sf inp out (me_up M0 ra (.inl (tb 0, 1, .inl f_80))) S B L P T nx ct hN (1 + (v_80 % 12)) hW hT hT0 hnx hnx0 hct hct0 (by omega) (by omega) (by omega))) w_842 w_843 w_0 w_844 (by decide +kernel) rfl rfl ⟨Nat.le_of_ble_eq_true rfl, Nat.le_of_ble_eq_true rfl⟩ rfl rfl (Nat.le_of_ble_eq_true rfl) dL_act_708 ⟨Nat.le_of_ble_eq_true rfl, Nat.le_of_ble_eq_true rfl⟩ (fun r_81 M_81 hP_81 H locs n_81 hM => ?_)
        obtain ⟨rfl, rfl⟩ := hP_81
        have hW2 := wf_pa (1 + (v_80 % 12)) g hW
        have hT2 := a7 (1 + (v_80 % 12)) (by omega) (by omega)
        have hT3 : T + (1 + (v_80 % 12)) ≤ 10000 := by omega
        have hpn := Nat.le_trans (chN_paN S B L P (1 + (v_80 % 12)) g) (Nat.mul_le_mul (show (1 + (v_80 % 12)) ≤ 12 by omega) hL0)
        have hc1 := co_le (fun k => g (261 + 5 * k + 4) = nI 4) L 0
        have hc2 := co_le (fun k => (paG S B L P (1 + (v_80 % 12)) g) (261 + 5 * k + 4) = nI 4) L 0
        refine lv_istore (lv' := [(28, .int (nI (paN S B L P (1 + (v_80 % 12)) g))), (27, .int (g (9 + 10 * (v_2 % S) + 2))), (26, .int (noF g L P (v_2 % S) (g 2))), (25, .int (nI (co (fun k => g (261 + 5 * k + 4) = nI 4) L 0))), (24, .int (nI T)), (23, .int (fcF g L P (v_1 % B) (1 + (v_80 % 12)))), (22, .int (nI (1 + (v_80 % 12)))), (7, .int (nI (T + (v_45 % 20)))), (6, .int (-1)), (5, .int 0), (4, .int (nI (v_2 % S))), (3, .int (nI (v_1 % B))), (2, .int (nI L)), (0, .ref bo), (1, .ref ra)]) hx hb dL_act_711 hl (by decide) rfl (fun ls hl => ?_)
        refine lv_aload_n hx hb dL_act_713 rfl (lv_at hl 13 rfl) ?_
        refine me_callVi (As := []) (rest := []) hC hl.1 hM (c_X7_clock l D tb X z0 n_81 bo (paG S B L P (1 + (v_80 % 12)) g) (recG G g S B L P nx) (recF F nx ct) sf inp out (me_up M0 ra (.inl (tb 0, 1, .inl f_80))) S B L P  ) (kv_L_104 hw rfl rfl ⟨Nat.le_of_ble_eq_true rfl, Nat.le_of_ble_eq_true rfl⟩) rfl rfl (bq_at h_b) rfl (Nat.le_of_ble_eq_true rfl) dL_act_714 ⟨Nat.le_of_ble_eq_true rfl, Nat.le_of_ble_eq_true rfl⟩ (fun H locs hM => ?_)
        refine me_evi (y := nI (T + (1 + (v_80 % 12)))) hT2 ?_
        refine lv_iload hx hb dL_act_717 (lv_at hl 4 rfl) ?_
        refine lv_iload hx hb dL_act_719 (lv_at hl 6 rfl) ?_
        refine lv_iadd hx hb dL_act_721 ?_
        refine lv_icmp_ne (tgt := 809) hx hb dL_act_722 (by decide) (fun c_159 => ?_) (fun c_159 => ?_)
        · have c_159 := (not_congr (br_eq rfl (nx_add rfl rfl) (by omega) (by omega))).mp c_159
          exfalso; omega
        · have c_159 := (br_eq rfl (nx_add rfl rfl) (by omega) (by omega)).mp c_159
          refine lv_aload_n hx hb dL_act_725 rfl (lv_at hl 13 rfl) ?_
          refine lv_iload_n hx hb dL_act_726 rfl (lv_at hl 11 rfl) ?_
          refine me_callVi (As := [.int (nI (v_1 % B))]) (rest := []) hC hl.1 hM (c_X7_illnessOf l D tb X z0 n_81 bo (paG S B L P (1 + (v_80 % 12)) g) (recG G g S B L P nx) (recF F nx ct) sf inp out (me_up M0 ra (.inl (tb 0, 1, .inl f_80))) S B L P (v_1 % B) hW2 (by omega)) (kv_L_131 hw rfl rfl ⟨Nat.le_of_ble_eq_true rfl, Nat.le_of_ble_eq_true rfl⟩) rfl rfl (bq_at h_b) rfl (Nat.le_of_ble_eq_true rfl) dL_act_727 ⟨Nat.le_of_ble_eq_true rfl, Nat.le_of_ble_eq_true rfl⟩ (fun H locs hM => ?_)
          refine lv_iload hx hb dL_act_730 (lv_at hl 5 rfl) ?_
          refine lv_icmp_ne (tgt := 809) hx hb dL_act_732 (by decide) (fun c_160 => ?_) (fun c_160 => ?_)
          · exact absurd (a8 _ _ (by omega) (by omega) (by omega)) c_160
          · refine lv_aload_n hx hb dL_act_735 rfl (lv_at hl 13 rfl) ?_
            refine lv_iconst (v := 4) hx hb dL_act_736 (by decide) ?_
            refine me_callVi (As := [.int 4]) (rest := []) hC hl.1 hM (c_X7_loansWith l D tb X z0 n_81 bo (paG S B L P (1 + (v_80 % 12)) g) (recG G g S B L P nx) (recF F nx ct) sf inp out (me_up M0 ra (.inl (tb 0, 1, .inl f_80))) S B L P 4 hW2 (by omega)) (kv_L_219 hw rfl rfl ⟨Nat.le_of_ble_eq_true rfl, Nat.le_of_ble_eq_true rfl⟩) rfl rfl (bq_at h_b) rfl (Nat.le_of_ble_eq_true rfl) dL_act_737 ⟨Nat.le_of_ble_eq_true rfl, Nat.le_of_ble_eq_true rfl⟩ (fun H locs hM => ?_)
            refine lv_iload hx hb dL_act_740 (lv_at hl 3 rfl) ?_
            refine lv_iload hx hb dL_act_742 (lv_at hl 0 rfl) ?_
            refine lv_iadd hx hb dL_act_744 ?_
            refine lv_icmp_ne (tgt := 809) hx hb dL_act_745 (by decide) (fun c_161 => ?_) (fun c_161 => ?_)
            · have c_161 := (not_congr (br_eq rfl (nx_add rfl rfl) (by omega) (by omega))).mp c_161
              exact absurd (a9 _ (by omega) (by omega)) c_161
            · have c_161 := (br_eq rfl (nx_add rfl rfl) (by omega) (by omega)).mp c_161
              refine lv_aload_n hx hb dL_act_748 rfl (lv_at hl 13 rfl) ?_
              refine lv_iload hx hb dL_act_749 (lv_at hl 10 rfl) ?_
              refine me_callVi (As := [.int (nI (v_2 % S))]) (rest := []) hC hl.1 hM (c_X7_noiseTotal l D tb X z0 n_81 bo (paG S B L P (1 + (v_80 % 12)) g) (recG G g S B L P nx) (recF F nx ct) sf inp out (me_up M0 ra (.inl (tb 0, 1, .inl f_80))) S B L P (v_2 % S) hW2 (by omega)) (kv_L_116 hw rfl rfl ⟨Nat.le_of_ble_eq_true rfl, Nat.le_of_ble_eq_true rfl⟩) rfl rfl (bq_at h_b) rfl (Nat.le_of_ble_eq_true rfl) dL_act_751 ⟨Nat.le_of_ble_eq_true rfl, Nat.le_of_ble_eq_true rfl⟩ (fun H locs hM => ?_)
              refine lv_iload hx hb dL_act_754 (lv_at hl 1 rfl) ?_
              refine lv_iload hx hb dL_act_756 (lv_at hl 2 rfl) ?_
              refine lv_iadd hx hb dL_act_758 ?_
              refine lv_icmp_lt (tgt := 809) hx hb dL_act_759 (by decide) (fun c_162 => ?_) (fun c_162 => ?_)
              · have c_162q := Int32.not_le.mpr c_162
                exact absurd c_162 (a10 _ _ (by omega) (by omega) (by omega))
              · have c_162q := Int32.not_lt.mp c_162
                refine lv_iload hx hb dL_act_762 (lv_at hl 6 rfl) ?_
                refine lv_iconst (v := 1) hx hb dL_act_764 (by decide) ?_
                refine lv_icmp_gt (tgt := 782) hx hb dL_act_765 (by decide) (fun c_163 => ?_) (fun c_163 => ?_)
                · have c_163 := (br_lt (show (1 : Int32) = nI 1 from rfl) rfl (by omega) (by omega)).mp c_163
                  refine lv_aload_n hx hb dL_act_782 rfl (lv_at hl 13 rfl) ?_
                  refine lv_iload hx hb dL_act_783 (lv_at hl 10 rfl) ?_
                  refine me_callVd (As := [.int (nI (v_2 % S))]) (rest := []) hC hl.1 hM (c_X7_meanNoise l D tb X z0 n_81 bo (paG S B L P (1 + (v_80 % 12)) g) (recG G g S B L P nx) (recF F nx ct) sf inp out (me_up M0 ra (.inl (tb 0, 1, .inl f_80))) S B L P (T + (1 + (v_80 % 12))) (v_2 % S) hW2 hT2 hT3 (by omega)) (kv_L_225 hw rfl rfl ⟨Nat.le_of_ble_eq_true rfl, Nat.le_of_ble_eq_true rfl⟩) rfl rfl (bq_at h_b) rfl (Nat.le_of_ble_eq_true rfl) dL_act_785 ⟨Nat.le_of_ble_eq_true rfl, Nat.le_of_ble_eq_true rfl⟩ (fun H locs hM => ?_)
                  refine me_stk (st2 := [.double (FP.ddiv (FP.i2d ((paG S B L P (1 + (v_80 % 12)) g) (9 + 10 * (v_2 % S) + 2))) (FP.i2d (nI (T + (1 + (v_80 % 12))))))]) (by rw [if_neg (show ¬ (T + (1 + (v_80 % 12)) = 0) by omega)]) ?_
                  refine lv_aload_n hx hb dL_act_788 rfl (lv_at hl 13 rfl) ?_
                  refine lv_iload hx hb dL_act_789 (lv_at hl 10 rfl) ?_
                  refine me_callVi (As := [.int (nI (v_2 % S))]) (rest := [.double (FP.ddiv (FP.i2d ((paG S B L P (1 + (v_80 % 12)) g) (9 + 10 * (v_2 % S) + 2))) (FP.i2d (nI (T + (1 + (v_80 % 12))))))]) hC hl.1 hM (c_X7_noiseTotal l D tb X z0 n_81 bo (paG S B L P (1 + (v_80 % 12)) g) (recG G g S B L P nx) (recF F nx ct) sf inp out (me_up M0 ra (.inl (tb 0, 1, .inl f_80))) S B L P (v_2 % S) hW2 (by omega)) (kv_L_116 hw rfl rfl ⟨Nat.le_of_ble_eq_true rfl, Nat.le_of_ble_eq_true rfl⟩) rfl rfl (bq_at h_b) rfl (Nat.le_of_ble_eq_true rfl) dL_act_791 ⟨Nat.le_of_ble_eq_true rfl, Nat.le_of_ble_eq_true rfl⟩ (fun H locs hM => ?_)
                  refine lv_i2d hx hb dL_act_794 ?_
                  refine lv_aload_n hx hb dL_act_795 rfl (lv_at hl 13 rfl) ?_
                  refine me_callVi (As := []) (rest := [.double (FP.i2d ((paG S B L P (1 + (v_80 % 12)) g) (9 + 10 * (v_2 % S) + 2))), .double (FP.ddiv (FP.i2d ((paG S B L P (1 + (v_80 % 12)) g) (9 + 10 * (v_2 % S) + 2))) (FP.i2d (nI (T + (1 + (v_80 % 12))))))]) hC hl.1 hM (c_X7_clock l D tb X z0 n_81 bo (paG S B L P (1 + (v_80 % 12)) g) (recG G g S B L P nx) (recF F nx ct) sf inp out (me_up M0 ra (.inl (tb 0, 1, .inl f_80))) S B L P  ) (kv_L_104 hw rfl rfl ⟨Nat.le_of_ble_eq_true rfl, Nat.le_of_ble_eq_true rfl⟩) rfl rfl (bq_at h_b) rfl (Nat.le_of_ble_eq_true rfl) dL_act_796 ⟨Nat.le_of_ble_eq_true rfl, Nat.le_of_ble_eq_true rfl⟩ (fun H locs hM => ?_)
                  refine me_evi (y := nI (T + (1 + (v_80 % 12)))) hT2 ?_
                  refine lv_i2d hx hb dL_act_799 ?_
                  refine lv_ddiv hx hb dL_act_800 (fp_mean (by omega) (by omega)) ?_
                  refine lv_dcmp hx hb dL_act_801 ?_
                  refine me_evi (y := 0) (dcm_ok (fp_mok (by omega) (by omega))) ?_
                  refine lv_if_ne (tgt := 809) hx hb dL_act_802 (by decide) (fun c_164 => ?_) (fun c_164 => ?_)
                  · exact absurd c_164 (by decide)
                  · refine lv_iconst (v := 1) hx hb dL_act_805 (by decide) ?_
                    refine lv_goto (tgt := 810) hx hb dL_act_806 (by decide) ?_
                    refine W.widen (k := 8) (n := 60) (by omega) (by omega) ?_
                    exact me_pret hC hr hlk hM (⟨_, _, _, _, _, rfl, Or.inr (Or.inr (Or.inr (Or.inr (Or.inr (Or.inr (⟨_, by omega, by omega, rfl, rfl, rfl, rfl⟩)))))), rfl⟩) (rfl) dL_act_810
                · have c_163 := (not_congr (br_lt (show (1 : Int32) = nI 1 from rfl) rfl (by omega) (by omega))).mp c_163
                  refine lv_aload_n hx hb dL_act_768 rfl (lv_at hl 13 rfl) ?_
                  refine lv_iload hx hb dL_act_769 (lv_at hl 10 rfl) ?_
                  refine me_callVi (As := [.int (nI (v_2 % S))]) (rest := []) hC hl.1 hM (c_X7_noiseTotal l D tb X z0 n_81 bo (paG S B L P (1 + (v_80 % 12)) g) (recG G g S B L P nx) (recF F nx ct) sf inp out (me_up M0 ra (.inl (tb 0, 1, .inl f_80))) S B L P (v_2 % S) hW2 (by omega)) (kv_L_116 hw rfl rfl ⟨Nat.le_of_ble_eq_true rfl, Nat.le_of_ble_eq_true rfl⟩) rfl rfl (bq_at h_b) rfl (Nat.le_of_ble_eq_true rfl) dL_act_771 ⟨Nat.le_of_ble_eq_true rfl, Nat.le_of_ble_eq_true rfl⟩ (fun H locs hM => ?_)
                  refine lv_iload hx hb dL_act_774 (lv_at hl 1 rfl) ?_
                  refine lv_iload hx hb dL_act_776 (lv_at hl 2 rfl) ?_
                  refine lv_iadd hx hb dL_act_778 ?_
                  refine lv_icmp_ne (tgt := 809) hx hb dL_act_779 (by decide) (fun c_165 => ?_) (fun c_165 => ?_)
                  · exact absurd (by rw [show 1 + (v_80 % 12) = 1 by omega]; exact a11 _ (by omega)) c_165
                  · refine lv_aload_n hx hb dL_act_782 rfl (lv_at hl 13 rfl) ?_
                    refine lv_iload hx hb dL_act_783 (lv_at hl 10 rfl) ?_
                    refine me_callVd (As := [.int (nI (v_2 % S))]) (rest := []) hC hl.1 hM (c_X7_meanNoise l D tb X z0 n_81 bo (paG S B L P (1 + (v_80 % 12)) g) (recG G g S B L P nx) (recF F nx ct) sf inp out (me_up M0 ra (.inl (tb 0, 1, .inl f_80))) S B L P (T + (1 + (v_80 % 12))) (v_2 % S) hW2 hT2 hT3 (by omega)) (kv_L_225 hw rfl rfl ⟨Nat.le_of_ble_eq_true rfl, Nat.le_of_ble_eq_true rfl⟩) rfl rfl (bq_at h_b) rfl (Nat.le_of_ble_eq_true rfl) dL_act_785 ⟨Nat.le_of_ble_eq_true rfl, Nat.le_of_ble_eq_true rfl⟩ (fun H locs hM => ?_)
                    refine me_stk (st2 := [.double (FP.ddiv (FP.i2d ((paG S B L P (1 + (v_80 % 12)) g) (9 + 10 * (v_2 % S) + 2))) (FP.i2d (nI (T + (1 + (v_80 % 12))))))]) (by rw [if_neg (show ¬ (T + (1 + (v_80 % 12)) = 0) by omega)]) ?_
                    refine lv_aload_n hx hb dL_act_788 rfl (lv_at hl 13 rfl) ?_
                    refine lv_iload hx hb dL_act_789 (lv_at hl 10 rfl) ?_
                    refine me_callVi (As := [.int (nI (v_2 % S))]) (rest := [.double (FP.ddiv (FP.i2d ((paG S B L P (1 + (v_80 % 12)) g) (9 + 10 * (v_2 % S) + 2))) (FP.i2d (nI (T + (1 + (v_80 % 12))))))]) hC hl.1 hM (c_X7_noiseTotal l D tb X z0 n_81 bo (paG S B L P (1 + (v_80 % 12)) g) (recG G g S B L P nx) (recF F nx ct) sf inp out (me_up M0 ra (.inl (tb 0, 1, .inl f_80))) S B L P (v_2 % S) hW2 (by omega)) (kv_L_116 hw rfl rfl ⟨Nat.le_of_ble_eq_true rfl, Nat.le_of_ble_eq_true rfl⟩) rfl rfl (bq_at h_b) rfl (Nat.le_of_ble_eq_true rfl) dL_act_791 ⟨Nat.le_of_ble_eq_true rfl, Nat.le_of_ble_eq_true rfl⟩ (fun H locs hM => ?_)
                    refine lv_i2d hx hb dL_act_794 ?_
                    refine lv_aload_n hx hb dL_act_795 rfl (lv_at hl 13 rfl) ?_
                    refine me_callVi (As := []) (rest := [.double (FP.i2d ((paG S B L P (1 + (v_80 % 12)) g) (9 + 10 * (v_2 % S) + 2))), .double (FP.ddiv (FP.i2d ((paG S B L P (1 + (v_80 % 12)) g) (9 + 10 * (v_2 % S) + 2))) (FP.i2d (nI (T + (1 + (v_80 % 12))))))]) hC hl.1 hM (c_X7_clock l D tb X z0 n_81 bo (paG S B L P (1 + (v_80 % 12)) g) (recG G g S B L P nx) (recF F nx ct) sf inp out (me_up M0 ra (.inl (tb 0, 1, .inl f_80))) S B L P  ) (kv_L_104 hw rfl rfl ⟨Nat.le_of_ble_eq_true rfl, Nat.le_of_ble_eq_true rfl⟩) rfl rfl (bq_at h_b) rfl (Nat.le_of_ble_eq_true rfl) dL_act_796 ⟨Nat.le_of_ble_eq_true rfl, Nat.le_of_ble_eq_true rfl⟩ (fun H locs hM => ?_)
                    refine me_evi (y := nI (T + (1 + (v_80 % 12)))) hT2 ?_
                    refine lv_i2d hx hb dL_act_799 ?_
                    refine lv_ddiv hx hb dL_act_800 (fp_mean (by omega) (by omega)) ?_
                    refine lv_dcmp hx hb dL_act_801 ?_
                    refine me_evi (y := 0) (dcm_ok (fp_mok (by omega) (by omega))) ?_
                    refine lv_if_ne (tgt := 809) hx hb dL_act_802 (by decide) (fun c_166 => ?_) (fun c_166 => ?_)
                    · exact absurd c_166 (by decide)
                    · refine lv_iconst (v := 1) hx hb dL_act_805 (by decide) ?_
                      refine lv_goto (tgt := 810) hx hb dL_act_806 (by decide) ?_
                      refine W.widen (k := 8) (n := 60) (by omega) (by omega) ?_
                      exact me_pret hC hr hlk hM (⟨_, _, _, _, _, rfl, Or.inr (Or.inr (Or.inr (Or.inr (Or.inr (Or.inr (⟨_, by omega, by omega, rfl, rfl, rfl, rfl⟩)))))), rfl⟩) (rfl) dL_act_810
      · refine me_evi (y := 8) c_94 ?_
        refine lv_tableOut (tgt := 656) hx hb dL_act_79 (by decide) (by decide) ?_
        refine lv_iconst (v := 1) hx hb dL_act_656 (by decide) ?_
        refine lv_aload_n hx hb dL_act_657 rfl (lv_at hl 7 rfl) ?_
        refine me_callSp (As := [.ref ra]) (rest := [.int 1]) hC hl.1 hM (c_L_next l D tb X z0 n_46 ra f_46 (sp tb (bo + 722) g (bq tb bo G F sf inp out (me_up M0 ra (.inl (tb 0, 1, .inl f_46))))) (bq_some hra (me_up_s _ _ _))) (ks_L_79 hw rfl rfl ⟨Nat.le_of_ble_eq_true rfl, Nat.le_of_ble_eq_true rfl⟩) rfl rfl (Nat.le_of_ble_eq_true rfl) dL_act_658 ⟨Nat.le_of_ble_eq_true rfl, Nat.le_of_ble_eq_true rfl⟩ (fun r_82 M_82 hP_82 H locs n_82 hM => ?_)
        obtain ⟨v_82, f_82, rfl, hv_82, rfl⟩ := hP_82
        have hM := hM.eq (bq_upo hra)
        refine lv_bipush (v := 12) hx hb dL_act_661 (by decide) ?_
        refine lv_irem hx hb dL_act_663 (by decide) ?_
        refine me_evi (y := nI (v_82 % 12)) (nx_rem 12 rfl (by omega) (by omega) (by omega)) ?_
        refine lv_iadd hx hb dL_act_664 ?_
        refine me_evi (y := nI (1 + (v_82 % 12))) (nx_add (show (1 : Int32) = nI 1 from rfl) rfl) ?_
        refine lv_istore (lv' := [(22, .int (nI (1 + (v_82 % 12)))), (7, .int (nI (T + (v_45 % 20)))), (6, .int (-1)), (5, .int 0), (4, .int (nI (v_2 % S))), (3, .int (nI (v_1 % B))), (2, .int (nI L)), (0, .ref bo), (1, .ref ra)]) hx hb dL_act_665 hl (by decide) rfl (fun ls hl => ?_)
        refine lv_aload_n hx hb dL_act_667 rfl (lv_at hl 7 rfl) ?_
        refine lv_iload_n hx hb dL_act_668 rfl (lv_at hl 5 rfl) ?_
        refine lv_iload hx hb dL_act_669 (lv_at hl 0 rfl) ?_
        have hfr_ := bq_fresh hM
        have hM0_ := hM
        refine me_callVi (As := [.int (nI (v_1 % B)), .int (nI (1 + (v_82 % 12)))]) (rest := []) hC hl.1 hM (c_X7_illnessAfter l D tb X z0 n_82 bo g G F sf inp out (me_up M0 ra (.inl (tb 0, 1, .inl f_82))) S B L P hN (v_1 % B) (1 + (v_82 % 12)) hW (by omega) (by omega) (bq_lt hM)) (kv_L_137 hw rfl rfl ⟨Nat.le_of_ble_eq_true rfl, Nat.le_of_ble_eq_true rfl⟩) rfl rfl (bq_at h_b) rfl (Nat.le_of_ble_eq_true rfl) dL_act_671 ⟨Nat.le_of_ble_eq_true rfl, Nat.le_of_ble_eq_true rfl⟩ (fun H locs hM => ?_)
        have hM := bq_drop hfr_ (bq_lt hM0_) hM
        refine lv_istore (lv' := [(23, .int (fcF g L P (v_1 % B) (1 + (v_82 % 12)))), (22, .int (nI (1 + (v_82 % 12)))), (7, .int (nI (T + (v_45 % 20)))), (6, .int (-1)), (5, .int 0), (4, .int (nI (v_2 % S))), (3, .int (nI (v_1 % B))), (2, .int (nI L)), (0, .ref bo), (1, .ref ra)]) hx hb dL_act_674 hl (by decide) rfl (fun ls hl => ?_)
        refine lv_aload_n hx hb dL_act_676 rfl (lv_at hl 8 rfl) ?_
        refine me_callVi (As := []) (rest := []) hC hl.1 hM (c_X7_clock l D tb X z0 (n_82 + 1) bo g G F sf inp out (me_up M0 ra (.inl (tb 0, 1, .inl f_82))) S B L P  ) (kv_L_104 hw rfl rfl ⟨Nat.le_of_ble_eq_true rfl, Nat.le_of_ble_eq_true rfl⟩) rfl rfl (bq_at h_b) rfl (Nat.le_of_ble_eq_true rfl) dL_act_677 ⟨Nat.le_of_ble_eq_true rfl, Nat.le_of_ble_eq_true rfl⟩ (fun H locs hM => ?_)
        refine me_evi (y := nI T) hT ?_
        refine lv_istore (lv' := [(24, .int (nI T)), (23, .int (fcF g L P (v_1 % B) (1 + (v_82 % 12)))), (22, .int (nI (1 + (v_82 % 12)))), (7, .int (nI (T + (v_45 % 20)))), (6, .int (-1)), (5, .int 0), (4, .int (nI (v_2 % S))), (3, .int (nI (v_1 % B))), (2, .int (nI L)), (0, .ref bo), (1, .ref ra)]) hx hb dL_act_680 hl (by decide) rfl (fun ls hl => ?_)
        refine lv_aload_n hx hb dL_act_682 rfl (lv_at hl 9 rfl) ?_
        refine lv_iconst (v := 4) hx hb dL_act_683 (by decide) ?_
        refine me_callVi (As := [.int 4]) (rest := []) hC hl.1 hM (c_X7_loansWith l D tb X z0 (n_82 + 1) bo g G F sf inp out (me_up M0 ra (.inl (tb 0, 1, .inl f_82))) S B L P 4 hW (by omega)) (kv_L_219 hw rfl rfl ⟨Nat.le_of_ble_eq_true rfl, Nat.le_of_ble_eq_true rfl⟩) rfl rfl (bq_at h_b) rfl (Nat.le_of_ble_eq_true rfl) dL_act_684 ⟨Nat.le_of_ble_eq_true rfl, Nat.le_of_ble_eq_true rfl⟩ (fun H locs hM => ?_)
        refine lv_istore (lv' := [(25, .int (nI (co (fun k => g (261 + 5 * k + 4) = nI 4) L 0))), (24, .int (nI T)), (23, .int (fcF g L P (v_1 % B) (1 + (v_82 % 12)))), (22, .int (nI (1 + (v_82 % 12)))), (7, .int (nI (T + (v_45 % 20)))), (6, .int (-1)), (5, .int 0), (4, .int (nI (v_2 % S))), (3, .int (nI (v_1 % B))), (2, .int (nI L)), (0, .ref bo), (1, .ref ra)]) hx hb dL_act_687 hl (by decide) rfl (fun ls hl => ?_)
        refine lv_aload_n hx hb dL_act_689 rfl (lv_at hl 10 rfl) ?_
        refine lv_iload hx hb dL_act_690 (lv_at hl 7 rfl) ?_
        refine me_callVi (As := [.int (nI (v_2 % S))]) (rest := []) hC hl.1 hM (c_X7_noiseNow l D tb X z0 (n_82 + 1) bo g G F sf inp out (me_up M0 ra (.inl (tb 0, 1, .inl f_82))) S B L P hN (v_2 % S) hW (by omega)) (kv_L_122 hw rfl rfl ⟨Nat.le_of_ble_eq_true rfl, Nat.le_of_ble_eq_true rfl⟩) rfl rfl (bq_at h_b) rfl (Nat.le_of_ble_eq_true rfl) dL_act_692 ⟨Nat.le_of_ble_eq_true rfl, Nat.le_of_ble_eq_true rfl⟩ (fun H locs hM => ?_)
        refine lv_istore (lv' := [(26, .int (noF g L P (v_2 % S) (g 2))), (25, .int (nI (co (fun k => g (261 + 5 * k + 4) = nI 4) L 0))), (24, .int (nI T)), (23, .int (fcF g L P (v_1 % B) (1 + (v_82 % 12)))), (22, .int (nI (1 + (v_82 % 12)))), (7, .int (nI (T + (v_45 % 20)))), (6, .int (-1)), (5, .int 0), (4, .int (nI (v_2 % S))), (3, .int (nI (v_1 % B))), (2, .int (nI L)), (0, .ref bo), (1, .ref ra)]) hx hb dL_act_695 hl (by decide) rfl (fun ls hl => ?_)
        refine lv_aload_n hx hb dL_act_697 rfl (lv_at hl 11 rfl) ?_
        refine lv_iload hx hb dL_act_698 (lv_at hl 8 rfl) ?_
        refine me_callVi (As := [.int (nI (v_2 % S))]) (rest := []) hC hl.1 hM (c_X7_noiseTotal l D tb X z0 (n_82 + 1) bo g G F sf inp out (me_up M0 ra (.inl (tb 0, 1, .inl f_82))) S B L P (v_2 % S) hW (by omega)) (kv_L_116 hw rfl rfl ⟨Nat.le_of_ble_eq_true rfl, Nat.le_of_ble_eq_true rfl⟩) rfl rfl (bq_at h_b) rfl (Nat.le_of_ble_eq_true rfl) dL_act_700 ⟨Nat.le_of_ble_eq_true rfl, Nat.le_of_ble_eq_true rfl⟩ (fun H locs hM => ?_)
        refine lv_istore (lv' := [(27, .int (g (9 + 10 * (v_2 % S) + 2))), (26, .int (noF g L P (v_2 % S) (g 2))), (25, .int (nI (co (fun k => g (261 + 5 * k + 4) = nI 4) L 0))), (24, .int (nI T)), (23, .int (fcF g L P (v_1 % B) (1 + (v_82 % 12)))), (22, .int (nI (1 + (v_82 % 12)))), (7, .int (nI (T + (v_45 % 20)))), (6, .int (-1)), (5, .int 0), (4, .int (nI (v_2 % S))), (3, .int (nI (v_1 % B))), (2, .int (nI L)), (0, .ref bo), (1, .ref ra)]) hx hb dL_act_703 hl (by decide) rfl (fun ls hl => ?_)
        refine lv_aload_n hx hb dL_act_705 rfl (lv_at hl 12 rfl) ?_
        refine lv_iload hx hb dL_act_706 (lv_at hl 5 rfl) ?_
        refine me_callSnp (nA := 2) (As := [.ref bo, .int (nI (1 + (v_82 % 12)))]) (rest := []) hC hl.1 hM (c_L_advanced (mc := 0) (ms := 0) l D tb X z0 (n_82 + 1) bo (nI (1 + (v_82 % 12))) rfl rfl ⟨Nat.le_of_ble_eq_true rfl, Nat.le_of_ble_eq_true rfl⟩ (bq_at h_b) (c_X7_advance l D tb X z0 (n_82 + 1) bo g G F sf inp out (me_up M0 ra (.inl (tb 0, 1, .inl f_82))) S B L P T nx ct hN (1 + (v_82 % 12)) hW hT hT0 hnx hnx0 hct hct0 (by omega) (by omega) (by omega))) w_842 w_843 w_0 w_844 (by decide +kernel) rfl rfl ⟨Nat.le_of_ble_eq_true rfl, Nat.le_of_ble_eq_true rfl⟩ rfl rfl (Nat.le_of_ble_eq_true rfl) dL_act_708 ⟨Nat.le_of_ble_eq_true rfl, Nat.le_of_ble_eq_true rfl⟩ (fun r_83 M_83 hP_83 H locs n_83 hM => ?_)
        obtain ⟨rfl, rfl⟩ := hP_83
        have hW2 := wf_pa (1 + (v_82 % 12)) g hW
        have hT2 := a7 (1 + (v_82 % 12)) (by omega) (by omega)
        have hT3 : T + (1 + (v_82 % 12)) ≤ 10000 := by omega
        have hpn := Nat.le_trans (chN_paN S B L P (1 + (v_82 % 12)) g) (Nat.mul_le_mul (show (1 + (v_82 % 12)) ≤ 12 by omega) hL0)
        have hc1 := co_le (fun k => g (261 + 5 * k + 4) = nI 4) L 0
        have hc2 := co_le (fun k => (paG S B L P (1 + (v_82 % 12)) g) (261 + 5 * k + 4) = nI 4) L 0
        refine lv_istore (lv' := [(28, .int (nI (paN S B L P (1 + (v_82 % 12)) g))), (27, .int (g (9 + 10 * (v_2 % S) + 2))), (26, .int (noF g L P (v_2 % S) (g 2))), (25, .int (nI (co (fun k => g (261 + 5 * k + 4) = nI 4) L 0))), (24, .int (nI T)), (23, .int (fcF g L P (v_1 % B) (1 + (v_82 % 12)))), (22, .int (nI (1 + (v_82 % 12)))), (7, .int (nI (T + (v_45 % 20)))), (6, .int (-1)), (5, .int 0), (4, .int (nI (v_2 % S))), (3, .int (nI (v_1 % B))), (2, .int (nI L)), (0, .ref bo), (1, .ref ra)]) hx hb dL_act_711 hl (by decide) rfl (fun ls hl => ?_)
        refine lv_aload_n hx hb dL_act_713 rfl (lv_at hl 13 rfl) ?_
        refine me_callVi (As := []) (rest := []) hC hl.1 hM (c_X7_clock l D tb X z0 n_83 bo (paG S B L P (1 + (v_82 % 12)) g) (recG G g S B L P nx) (recF F nx ct) sf inp out (me_up M0 ra (.inl (tb 0, 1, .inl f_82))) S B L P  ) (kv_L_104 hw rfl rfl ⟨Nat.le_of_ble_eq_true rfl, Nat.le_of_ble_eq_true rfl⟩) rfl rfl (bq_at h_b) rfl (Nat.le_of_ble_eq_true rfl) dL_act_714 ⟨Nat.le_of_ble_eq_true rfl, Nat.le_of_ble_eq_true rfl⟩ (fun H locs hM => ?_)
        refine me_evi (y := nI (T + (1 + (v_82 % 12)))) hT2 ?_
        refine lv_iload hx hb dL_act_717 (lv_at hl 4 rfl) ?_
        refine lv_iload hx hb dL_act_719 (lv_at hl 6 rfl) ?_
        refine lv_iadd hx hb dL_act_721 ?_
        refine lv_icmp_ne (tgt := 809) hx hb dL_act_722 (by decide) (fun c_167 => ?_) (fun c_167 => ?_)
        · have c_167 := (not_congr (br_eq rfl (nx_add rfl rfl) (by omega) (by omega))).mp c_167
          exfalso; omega
        · have c_167 := (br_eq rfl (nx_add rfl rfl) (by omega) (by omega)).mp c_167
          refine lv_aload_n hx hb dL_act_725 rfl (lv_at hl 13 rfl) ?_
          refine lv_iload_n hx hb dL_act_726 rfl (lv_at hl 11 rfl) ?_
          refine me_callVi (As := [.int (nI (v_1 % B))]) (rest := []) hC hl.1 hM (c_X7_illnessOf l D tb X z0 n_83 bo (paG S B L P (1 + (v_82 % 12)) g) (recG G g S B L P nx) (recF F nx ct) sf inp out (me_up M0 ra (.inl (tb 0, 1, .inl f_82))) S B L P (v_1 % B) hW2 (by omega)) (kv_L_131 hw rfl rfl ⟨Nat.le_of_ble_eq_true rfl, Nat.le_of_ble_eq_true rfl⟩) rfl rfl (bq_at h_b) rfl (Nat.le_of_ble_eq_true rfl) dL_act_727 ⟨Nat.le_of_ble_eq_true rfl, Nat.le_of_ble_eq_true rfl⟩ (fun H locs hM => ?_)
          refine lv_iload hx hb dL_act_730 (lv_at hl 5 rfl) ?_
          refine lv_icmp_ne (tgt := 809) hx hb dL_act_732 (by decide) (fun c_168 => ?_) (fun c_168 => ?_)
          · exact absurd (a8 _ _ (by omega) (by omega) (by omega)) c_168
          · refine lv_aload_n hx hb dL_act_735 rfl (lv_at hl 13 rfl) ?_
            refine lv_iconst (v := 4) hx hb dL_act_736 (by decide) ?_
            refine me_callVi (As := [.int 4]) (rest := []) hC hl.1 hM (c_X7_loansWith l D tb X z0 n_83 bo (paG S B L P (1 + (v_82 % 12)) g) (recG G g S B L P nx) (recF F nx ct) sf inp out (me_up M0 ra (.inl (tb 0, 1, .inl f_82))) S B L P 4 hW2 (by omega)) (kv_L_219 hw rfl rfl ⟨Nat.le_of_ble_eq_true rfl, Nat.le_of_ble_eq_true rfl⟩) rfl rfl (bq_at h_b) rfl (Nat.le_of_ble_eq_true rfl) dL_act_737 ⟨Nat.le_of_ble_eq_true rfl, Nat.le_of_ble_eq_true rfl⟩ (fun H locs hM => ?_)
            refine lv_iload hx hb dL_act_740 (lv_at hl 3 rfl) ?_
            refine lv_iload hx hb dL_act_742 (lv_at hl 0 rfl) ?_
            refine lv_iadd hx hb dL_act_744 ?_
            refine lv_icmp_ne (tgt := 809) hx hb dL_act_745 (by decide) (fun c_169 => ?_) (fun c_169 => ?_)
            · have c_169 := (not_congr (br_eq rfl (nx_add rfl rfl) (by omega) (by omega))).mp c_169
              exact absurd (a9 _ (by omega) (by omega)) c_169
            · have c_169 := (br_eq rfl (nx_add rfl rfl) (by omega) (by omega)).mp c_169
              refine lv_aload_n hx hb dL_act_748 rfl (lv_at hl 13 rfl) ?_
              refine lv_iload hx hb dL_act_749 (lv_at hl 10 rfl) ?_
              refine me_callVi (As := [.int (nI (v_2 % S))]) (rest := []) hC hl.1 hM (c_X7_noiseTotal l D tb X z0 n_83 bo (paG S B L P (1 + (v_82 % 12)) g) (recG G g S B L P nx) (recF F nx ct) sf inp out (me_up M0 ra (.inl (tb 0, 1, .inl f_82))) S B L P (v_2 % S) hW2 (by omega)) (kv_L_116 hw rfl rfl ⟨Nat.le_of_ble_eq_true rfl, Nat.le_of_ble_eq_true rfl⟩) rfl rfl (bq_at h_b) rfl (Nat.le_of_ble_eq_true rfl) dL_act_751 ⟨Nat.le_of_ble_eq_true rfl, Nat.le_of_ble_eq_true rfl⟩ (fun H locs hM => ?_)
              refine lv_iload hx hb dL_act_754 (lv_at hl 1 rfl) ?_
              refine lv_iload hx hb dL_act_756 (lv_at hl 2 rfl) ?_
              refine lv_iadd hx hb dL_act_758 ?_
              refine lv_icmp_lt (tgt := 809) hx hb dL_act_759 (by decide) (fun c_170 => ?_) (fun c_170 => ?_)
              · have c_170q := Int32.not_le.mpr c_170
                exact absurd c_170 (a10 _ _ (by omega) (by omega) (by omega))
              · have c_170q := Int32.not_lt.mp c_170
                refine lv_iload hx hb dL_act_762 (lv_at hl 6 rfl) ?_
                refine lv_iconst (v := 1) hx hb dL_act_764 (by decide) ?_
                refine lv_icmp_gt (tgt := 782) hx hb dL_act_765 (by decide) (fun c_171 => ?_) (fun c_171 => ?_)
                · have c_171 := (br_lt (show (1 : Int32) = nI 1 from rfl) rfl (by omega) (by omega)).mp c_171
                  refine lv_aload_n hx hb dL_act_782 rfl (lv_at hl 13 rfl) ?_
                  refine lv_iload hx hb dL_act_783 (lv_at hl 10 rfl) ?_
                  refine me_callVd (As := [.int (nI (v_2 % S))]) (rest := []) hC hl.1 hM (c_X7_meanNoise l D tb X z0 n_83 bo (paG S B L P (1 + (v_82 % 12)) g) (recG G g S B L P nx) (recF F nx ct) sf inp out (me_up M0 ra (.inl (tb 0, 1, .inl f_82))) S B L P (T + (1 + (v_82 % 12))) (v_2 % S) hW2 hT2 hT3 (by omega)) (kv_L_225 hw rfl rfl ⟨Nat.le_of_ble_eq_true rfl, Nat.le_of_ble_eq_true rfl⟩) rfl rfl (bq_at h_b) rfl (Nat.le_of_ble_eq_true rfl) dL_act_785 ⟨Nat.le_of_ble_eq_true rfl, Nat.le_of_ble_eq_true rfl⟩ (fun H locs hM => ?_)
                  refine me_stk (st2 := [.double (FP.ddiv (FP.i2d ((paG S B L P (1 + (v_82 % 12)) g) (9 + 10 * (v_2 % S) + 2))) (FP.i2d (nI (T + (1 + (v_82 % 12))))))]) (by rw [if_neg (show ¬ (T + (1 + (v_82 % 12)) = 0) by omega)]) ?_
                  refine lv_aload_n hx hb dL_act_788 rfl (lv_at hl 13 rfl) ?_
                  refine lv_iload hx hb dL_act_789 (lv_at hl 10 rfl) ?_
                  refine me_callVi (As := [.int (nI (v_2 % S))]) (rest := [.double (FP.ddiv (FP.i2d ((paG S B L P (1 + (v_82 % 12)) g) (9 + 10 * (v_2 % S) + 2))) (FP.i2d (nI (T + (1 + (v_82 % 12))))))]) hC hl.1 hM (c_X7_noiseTotal l D tb X z0 n_83 bo (paG S B L P (1 + (v_82 % 12)) g) (recG G g S B L P nx) (recF F nx ct) sf inp out (me_up M0 ra (.inl (tb 0, 1, .inl f_82))) S B L P (v_2 % S) hW2 (by omega)) (kv_L_116 hw rfl rfl ⟨Nat.le_of_ble_eq_true rfl, Nat.le_of_ble_eq_true rfl⟩) rfl rfl (bq_at h_b) rfl (Nat.le_of_ble_eq_true rfl) dL_act_791 ⟨Nat.le_of_ble_eq_true rfl, Nat.le_of_ble_eq_true rfl⟩ (fun H locs hM => ?_)
                  refine lv_i2d hx hb dL_act_794 ?_
                  refine lv_aload_n hx hb dL_act_795 rfl (lv_at hl 13 rfl) ?_
                  refine me_callVi (As := []) (rest := [.double (FP.i2d ((paG S B L P (1 + (v_82 % 12)) g) (9 + 10 * (v_2 % S) + 2))), .double (FP.ddiv (FP.i2d ((paG S B L P (1 + (v_82 % 12)) g) (9 + 10 * (v_2 % S) + 2))) (FP.i2d (nI (T + (1 + (v_82 % 12))))))]) hC hl.1 hM (c_X7_clock l D tb X z0 n_83 bo (paG S B L P (1 + (v_82 % 12)) g) (recG G g S B L P nx) (recF F nx ct) sf inp out (me_up M0 ra (.inl (tb 0, 1, .inl f_82))) S B L P  ) (kv_L_104 hw rfl rfl ⟨Nat.le_of_ble_eq_true rfl, Nat.le_of_ble_eq_true rfl⟩) rfl rfl (bq_at h_b) rfl (Nat.le_of_ble_eq_true rfl) dL_act_796 ⟨Nat.le_of_ble_eq_true rfl, Nat.le_of_ble_eq_true rfl⟩ (fun H locs hM => ?_)
                  refine me_evi (y := nI (T + (1 + (v_82 % 12)))) hT2 ?_
                  refine lv_i2d hx hb dL_act_799 ?_
                  refine lv_ddiv hx hb dL_act_800 (fp_mean (by omega) (by omega)) ?_
                  refine lv_dcmp hx hb dL_act_801 ?_
                  refine me_evi (y := 0) (dcm_ok (fp_mok (by omega) (by omega))) ?_
                  refine lv_if_ne (tgt := 809) hx hb dL_act_802 (by decide) (fun c_172 => ?_) (fun c_172 => ?_)
                  · exact absurd c_172 (by decide)
                  · refine lv_iconst (v := 1) hx hb dL_act_805 (by decide) ?_
                    refine lv_goto (tgt := 810) hx hb dL_act_806 (by decide) ?_
                    refine W.widen (k := 8) (n := 60) (by omega) (by omega) ?_
                    exact me_pret hC hr hlk hM (⟨_, _, _, _, _, rfl, Or.inr (Or.inr (Or.inr (Or.inr (Or.inr (Or.inr (⟨_, by omega, by omega, rfl, rfl, rfl, rfl⟩)))))), rfl⟩) (rfl) dL_act_810
                · have c_171 := (not_congr (br_lt (show (1 : Int32) = nI 1 from rfl) rfl (by omega) (by omega))).mp c_171
                  refine lv_aload_n hx hb dL_act_768 rfl (lv_at hl 13 rfl) ?_
                  refine lv_iload hx hb dL_act_769 (lv_at hl 10 rfl) ?_
                  refine me_callVi (As := [.int (nI (v_2 % S))]) (rest := []) hC hl.1 hM (c_X7_noiseTotal l D tb X z0 n_83 bo (paG S B L P (1 + (v_82 % 12)) g) (recG G g S B L P nx) (recF F nx ct) sf inp out (me_up M0 ra (.inl (tb 0, 1, .inl f_82))) S B L P (v_2 % S) hW2 (by omega)) (kv_L_116 hw rfl rfl ⟨Nat.le_of_ble_eq_true rfl, Nat.le_of_ble_eq_true rfl⟩) rfl rfl (bq_at h_b) rfl (Nat.le_of_ble_eq_true rfl) dL_act_771 ⟨Nat.le_of_ble_eq_true rfl, Nat.le_of_ble_eq_true rfl⟩ (fun H locs hM => ?_)
                  refine lv_iload hx hb dL_act_774 (lv_at hl 1 rfl) ?_
                  refine lv_iload hx hb dL_act_776 (lv_at hl 2 rfl) ?_
                  refine lv_iadd hx hb dL_act_778 ?_
                  refine lv_icmp_ne (tgt := 809) hx hb dL_act_779 (by decide) (fun c_173 => ?_) (fun c_173 => ?_)
                  · exact absurd (by rw [show 1 + (v_82 % 12) = 1 by omega]; exact a11 _ (by omega)) c_173
                  · refine lv_aload_n hx hb dL_act_782 rfl (lv_at hl 13 rfl) ?_
                    refine lv_iload hx hb dL_act_783 (lv_at hl 10 rfl) ?_
                    refine me_callVd (As := [.int (nI (v_2 % S))]) (rest := []) hC hl.1 hM (c_X7_meanNoise l D tb X z0 n_83 bo (paG S B L P (1 + (v_82 % 12)) g) (recG G g S B L P nx) (recF F nx ct) sf inp out (me_up M0 ra (.inl (tb 0, 1, .inl f_82))) S B L P (T + (1 + (v_82 % 12))) (v_2 % S) hW2 hT2 hT3 (by omega)) (kv_L_225 hw rfl rfl ⟨Nat.le_of_ble_eq_true rfl, Nat.le_of_ble_eq_true rfl⟩) rfl rfl (bq_at h_b) rfl (Nat.le_of_ble_eq_true rfl) dL_act_785 ⟨Nat.le_of_ble_eq_true rfl, Nat.le_of_ble_eq_true rfl⟩ (fun H locs hM => ?_)
                    refine me_stk (st2 := [.double (FP.ddiv (FP.i2d ((paG S B L P (1 + (v_82 % 12)) g) (9 + 10 * (v_2 % S) + 2))) (FP.i2d (nI (T + (1 + (v_82 % 12))))))]) (by rw [if_neg (show ¬ (T + (1 + (v_82 % 12)) = 0) by omega)]) ?_
                    refine lv_aload_n hx hb dL_act_788 rfl (lv_at hl 13 rfl) ?_
                    refine lv_iload hx hb dL_act_789 (lv_at hl 10 rfl) ?_
                    refine me_callVi (As := [.int (nI (v_2 % S))]) (rest := [.double (FP.ddiv (FP.i2d ((paG S B L P (1 + (v_82 % 12)) g) (9 + 10 * (v_2 % S) + 2))) (FP.i2d (nI (T + (1 + (v_82 % 12))))))]) hC hl.1 hM (c_X7_noiseTotal l D tb X z0 n_83 bo (paG S B L P (1 + (v_82 % 12)) g) (recG G g S B L P nx) (recF F nx ct) sf inp out (me_up M0 ra (.inl (tb 0, 1, .inl f_82))) S B L P (v_2 % S) hW2 (by omega)) (kv_L_116 hw rfl rfl ⟨Nat.le_of_ble_eq_true rfl, Nat.le_of_ble_eq_true rfl⟩) rfl rfl (bq_at h_b) rfl (Nat.le_of_ble_eq_true rfl) dL_act_791 ⟨Nat.le_of_ble_eq_true rfl, Nat.le_of_ble_eq_true rfl⟩ (fun H locs hM => ?_)
                    refine lv_i2d hx hb dL_act_794 ?_
                    refine lv_aload_n hx hb dL_act_795 rfl (lv_at hl 13 rfl) ?_
                    refine me_callVi (As := []) (rest := [.double (FP.i2d ((paG S B L P (1 + (v_82 % 12)) g) (9 + 10 * (v_2 % S) + 2))), .double (FP.ddiv (FP.i2d ((paG S B L P (1 + (v_82 % 12)) g) (9 + 10 * (v_2 % S) + 2))) (FP.i2d (nI (T + (1 + (v_82 % 12))))))]) hC hl.1 hM (c_X7_clock l D tb X z0 n_83 bo (paG S B L P (1 + (v_82 % 12)) g) (recG G g S B L P nx) (recF F nx ct) sf inp out (me_up M0 ra (.inl (tb 0, 1, .inl f_82))) S B L P  ) (kv_L_104 hw rfl rfl ⟨Nat.le_of_ble_eq_true rfl, Nat.le_of_ble_eq_true rfl⟩) rfl rfl (bq_at h_b) rfl (Nat.le_of_ble_eq_true rfl) dL_act_796 ⟨Nat.le_of_ble_eq_true rfl, Nat.le_of_ble_eq_true rfl⟩ (fun H locs hM => ?_)
                    refine me_evi (y := nI (T + (1 + (v_82 % 12)))) hT2 ?_
                    refine lv_i2d hx hb dL_act_799 ?_
                    refine lv_ddiv hx hb dL_act_800 (fp_mean (by omega) (by omega)) ?_
                    refine lv_dcmp hx hb dL_act_801 ?_
                    refine me_evi (y := 0) (dcm_ok (fp_mok (by omega) (by omega))) ?_
                    refine lv_if_ne (tgt := 809) hx hb dL_act_802 (by decide) (fun c_174 => ?_) (fun c_174 => ?_)
                    · exact absurd c_174 (by decide)
                    · refine lv_iconst (v := 1) hx hb dL_act_805 (by decide) ?_
                      refine lv_goto (tgt := 810) hx hb dL_act_806 (by decide) ?_
                      refine W.widen (k := 8) (n := 60) (by omega) (by omega) ?_
                      exact me_pret hC hr hlk hM (⟨_, _, _, _, _, rfl, Or.inr (Or.inr (Or.inr (Or.inr (Or.inr (Or.inr (⟨_, by omega, by omega, rfl, rfl, rfl, rfl⟩)))))), rfl⟩) (rfl) dL_act_810
