theorem m1c {y z : Int32} (e : y = z) (h : z = -1 ∨ ¬ z < 0) : (y < 0 → z = -1) ∧ (¬ y < 0 → ¬ z = -1) := by
  subst e
  refine ⟨fun c => h.elim id (fun z => absurd c z), fun c z => c (by rw [z]; decide)⟩
theorem fiO {P : Nat → Prop} [DecidablePred P] {r k : Nat} (h : k + r < 2 ^ 31) : fi P r k = -1 ∨ ¬ fi P r k < 0 := by
  by_cases c : fi P r k = -1
  · exact Or.inl c
  · obtain ⟨j, h1, h2, h3, -⟩ := fi_some c h
    exact Or.inr (by rw [h3]; exact nI_pos (by omega))
theorem fvO {F : Nat → Int32} (h : ∀ j, F j = -1 ∨ ¬ F j < 0) : ∀ r k, fv F r k = -1 ∨ ¬ fv F r k < 0
  | 0, _ => Or.inl rfl
  | r + 1, k => by
    by_cases c : F k = -1
    · rw [fv_f c]; exact fvO h r (k + 1)
    · rw [fv_t c]; exact h k
theorem peO {g : Nat → Int32} {P : Nat} {f h : Int32} (hP : P ≤ 10) : peF g P f h = -1 ∨ ¬ peF g P f h < 0 := fiO (by omega)
theorem hoO {g : Nat → Int32} {L : Nat} {h : Int32} (hL : L ≤ 30) : hoF g L h = -1 ∨ ¬ hoF g L h < 0 := fiO (by omega)
theorem obO {g : Nat → Int32} {L b : Nat} {h : Int32} (hL : L ≤ 30) : obF g L b h = -1 ∨ ¬ obF g L b h < 0 := by
  unfold obF
  split
  · exact hoO hL
  · exact Or.inl rfl
theorem ovO {g : Nat → Int32} {L : Nat} {b : Int32} (hL : L ≤ 30) : ovF g L b = -1 ∨ ¬ ovF g L b < 0 := fiO (by omega)
theorem fpO {g : Nat → Int32} {P b s n : Nat} (hP : P ≤ 10) : fpF g P b s n = -1 ∨ ¬ fpF g P b s n < 0 := fvO (fun j => peO hP) n 0
theorem foO {g : Nat → Int32} {L b s n : Nat} (hL : L ≤ 30) : foF g L b s n = -1 ∨ ¬ foF g L b s n < 0 := fvO (fun j => obO hL) n 0
theorem tm1 {T : Nat} (h : T ≤ 20000) : nI T + (-1) < nI T := by
  rcases Nat.eq_zero_or_pos T with rfl | c
  · decide
  · obtain ⟨k, rfl⟩ : ∃ k, T = k + 1 := ⟨T - 1, by omega⟩
    rw [pk_m1]; exact (nI_ltI (by omega) (by omega)).mpr (by omega)
/-- the holder of the hour behind, the runs of holders, from the end -/
def bfF (g : Nat → Int32) (L s : Nat) : Nat → Nat → Int32
  | 0, _ => -1
  | _ + 1, k => hoF g L (nI (s + k))
def rnF (g : Nat → Int32) (L s : Nat) : Nat → Nat → Nat
  | 0, _ => 0
  | r + 1, k => rnF g L s r (k + 1) + (if ¬ hoF g L (nI (s + k)) = -1 ∧ ¬ hoF g L (nI (s + k)) = bfF g L s r (k + 1) then 1 else 0)
theorem rn_t {g : Nat → Int32} {L s r k : Nat} (h : ¬ hoF g L (nI (s + k)) = -1 ∧ ¬ hoF g L (nI (s + k)) = bfF g L s r (k + 1)) : rnF g L s (r + 1) k = rnF g L s r (k + 1) + 1 := by show _ + (if _ then 1 else 0) = _; rw [if_pos h]
theorem rn_f {g : Nat → Int32} {L s r k : Nat} (h : ¬ (¬ hoF g L (nI (s + k)) = -1 ∧ ¬ hoF g L (nI (s + k)) = bfF g L s r (k + 1))) : rnF g L s (r + 1) k = rnF g L s r (k + 1) := by show _ + (if _ then 1 else 0) = _; rw [if_neg h]; rfl
abbrev eaE (g : Nat → Int32) (L P b n T : Nat) (most : Int32) : Nat → Int32 := fun j => if nI (loF g L (nI (T + j)) (nI n)) ≤ most ∧ reF g L P b (T + j) n = 0 then nI (T + j) else -1
theorem ob_t {g : Nat → Int32} {L b j : Nat} {h : Int32} (hL : L ≤ 30) (hj : j < L) (e : hoF g L h = nI j) (c : ¬ cdF g b j) : obF g L b h = nI j := by
  unfold obF
  rw [e, nI_clamp (by omega)]
  exact if_pos ⟨nI_nm1 (by omega), c⟩
theorem ob_f {g : Nat → Int32} {L b j : Nat} {h : Int32} (hL : L ≤ 30) (hj : j < L) (e : hoF g L h = nI j) (c : cdF g b j) : obF g L b h = -1 := by
  unfold obF
  rw [e, nI_clamp (by omega)]
  exact if_neg (fun z => z.2 c)
theorem ob_n {g : Nat → Int32} {L b : Nat} {h : Int32} (e : hoF g L h = -1) : obF g L b h = -1 := by
  unfold obF
  exact if_neg (fun z => z.1 e)
set_option maxHeartbeats 4000000 in
theorem c_L_refusals (l : Launch) (D : va_G) (tb : Nat → ClassId) (X : State → Prop) (z0 n : Nat) (bo : Nat) (g : Nat → Int32) (G : Nat → Nat → Int32) (F sf inp out : Nat → Int32) (M0 : me_M) (S B L P : Nat) (T : Nat) (hN : ∀ U, X U → me_nest U) (b n9 : Nat)  (hW : wf g S B L P) (hT : g 2 = nI T) (hT0 : T ≤ 10000) (hb9 : b < B) (hn1 : 1 ≤ n9) (hn2 : n9 ≤ 6) (hrn : ∀ i, i + n9 ≤ 48 → rnF g L (T + i) n9 0 = loF g L (nI (T + i)) (nI n9)) (hlka : g (89 + 11 * b + 2) < prF g b (nI n9) ↔ 0 < prF g b (nI n9) - g (89 + 11 * b + 2)) : Met l yL_refusals (.code yL_refusals cL_refusals 17 (some .boolean) :: ws_all) ({ frames := 14, cells := 0, slots := 0, locals := 504 } : Room) (me_Pc [.ref bo, .int (nI b), .int (nI n9)] D tb X z0 (sp tb (bo + 722) g (bq tb bo G F sf inp out M0)) n) (me_Qp D z0 (fun r1 M1 => r1 = 1 ∧ M1 = sp tb (bo + 722) g (bq tb bo G F sf inp out M0))) 0 0 (me_A z0) := by
  refine me_open (by decide) (Nat.le_of_ble_eq_true rfl) ?_
  intro p e s m args below meth c ls hC hr hlk hnm hM hl
  have hl : lv_has ls 17 [(0, .ref bo), (1, .int (nI b)), (2, .int (nI n9))] := hl
  have hx := hC.1
  have hb := hC.2.1
  have hw := hC.2.2.2.2.1
  have hq_ := hW
  obtain ⟨hS, hS0, hB, hB0, hL, hL0, hP, hP0, hwb, hwl⟩ := hq_
  have hbm := (hwb b hb9).2
  refine lv_iconst (v := (-1)) hx hb dL_refusals_0 (by decide) ?_
  refine lv_istore_n (lv' := [(3, .int (-1)), (0, .ref bo), (1, .int (nI b)), (2, .int (nI n9))]) hx hb dL_refusals_1 rfl hl (by decide) rfl (fun ls hl => ?_)
  refine lv_aload_n hx hb dL_refusals_2 rfl (lv_at hl 1 rfl) ?_
  refine me_callVi (As := []) (rest := []) hC hl.1 hM (c_X7_loanCount l D tb X z0 n bo g G F sf inp out M0 S B L P  ) (kv_L_110 hw rfl rfl ⟨Nat.le_of_ble_eq_true rfl, Nat.le_of_ble_eq_true rfl⟩) rfl rfl (bq_at h_b) rfl (Nat.le_of_ble_eq_true rfl) dL_refusals_3 ⟨Nat.le_of_ble_eq_true rfl, Nat.le_of_ble_eq_true rfl⟩ (fun H locs hM => ?_)
  refine me_evi (y := nI L) hW.2.2.2.2.1 ?_
  refine lv_iconst (v := 1) hx hb dL_refusals_6 (by decide) ?_
  refine lv_isub hx hb dL_refusals_7 ?_
  refine me_evi (y := nI L + (-1)) (Int32.sub_eq_add_neg _ _) ?_
  refine lv_istore (lv' := [(4, .int (nI L + (-1))), (3, .int (-1)), (0, .ref bo), (1, .int (nI b)), (2, .int (nI n9))]) hx hb dL_refusals_8 hl (by decide) rfl (fun ls hl => ?_)
  have lp_10 : ∀ (mm : Nat) (late : Int32) (H : Heap) (locs : List Loc) (ls : Array Slot), (mm ≤ L) → (late = fi (fun k => g (261 + 5 * k) = nI b ∧ g (261 + 5 * k + 4) = 4) (L - mm) mm) → me_at D z0 (sp tb (bo + 722) g (bq tb bo G F sf inp out M0)) n s H locs → lv_has ls 17 [(0, .ref bo), (1, .int (nI b)), (2, .int (nI n9)), (3, .int late), (4, .int (nI mm + (-1)))] → W p l e (({ frames := 14, cells := 0, slots := 0, locals := 504 } : Room)) s m args below meth c H locs 0 0 (MQ below (me_Qp D z0 (fun r1 M1 => r1 = 1 ∧ M1 = sp tb (bo + 722) g (bq tb bo G F sf inp out M0))) args s 0 0 (me_A z0)) (F0 m 10 ls []) := by
    intro mm
    refine Nat.strongRecOn mm ?_
    intro mm ih_10 late H locs ls hkL hqL hM hl
    refine lv_iload hx hb dL_refusals_10 (lv_at hl 4 rfl) ?_
    rcases (show mm = 0 ∨ ∃ m1, mm = m1 + 1 from (Nat.eq_zero_or_pos mm).imp id (fun h => ⟨mm - 1, by omega⟩)) with rfl | ⟨m1, rfl⟩
    · skip
      refine me_evi (y := (-1)) (by decide) ?_
      refine lv_if_lt (tgt := 48) hx hb dL_refusals_12 (by decide) (fun c_1 => ?_) (fun c_1 => ?_)
      · have c_1q := Int32.not_le.mpr c_1
        have hlate : late = ovF g L (nI b) := hqL
        refine lv_aload_n hx hb dL_refusals_48 rfl (lv_at hl 0 rfl) ?_
        refine lv_iload_n hx hb dL_refusals_49 rfl (lv_at hl 1 rfl) ?_
        refine lv_iload_n hx hb dL_refusals_50 rfl (lv_at hl 2 rfl) ?_
        refine me_callVi (As := [.int (nI b), .int (nI n9)]) (rest := []) hC hl.1 hM (c_X7_quote l D tb X z0 n bo g G F sf inp out M0 S B L P b n9 hW (by omega) (by omega) (by omega)) (kv_L_179 hw rfl rfl ⟨Nat.le_of_ble_eq_true rfl, Nat.le_of_ble_eq_true rfl⟩) rfl rfl (bq_at h_b) rfl (Nat.le_of_ble_eq_true rfl) dL_refusals_51 ⟨Nat.le_of_ble_eq_true rfl, Nat.le_of_ble_eq_true rfl⟩ (fun H locs hM => ?_)
        refine lv_istore (lv' := [(4, .int (prF g b (nI n9))), (0, .ref bo), (1, .int (nI b)), (2, .int (nI n9)), (3, .int late)]) hx hb dL_refusals_54 hl (by decide) rfl (fun ls hl => ?_)
        refine lv_iconst (v := (-1)) hx hb dL_refusals_56 (by decide) ?_
        refine lv_istore (lv' := [(5, .int (-1)), (4, .int (prF g b (nI n9))), (0, .ref bo), (1, .int (nI b)), (2, .int (nI n9)), (3, .int late)]) hx hb dL_refusals_57 hl (by decide) rfl (fun ls hl => ?_)
        refine lv_iconst (v := (-1)) hx hb dL_refusals_59 (by decide) ?_
        refine lv_istore (lv' := [(6, .int (-1)), (5, .int (-1)), (4, .int (prF g b (nI n9))), (0, .ref bo), (1, .int (nI b)), (2, .int (nI n9)), (3, .int late)]) hx hb dL_refusals_60 hl (by decide) rfl (fun ls hl => ?_)
        refine lv_iconst (v := 1) hx hb dL_refusals_62 (by decide) ?_
        refine lv_istore (lv' := [(7, .int 1), (6, .int (-1)), (5, .int (-1)), (4, .int (prF g b (nI n9))), (0, .ref bo), (1, .int (nI b)), (2, .int (nI n9)), (3, .int late)]) hx hb dL_refusals_63 hl (by decide) rfl (fun ls hl => ?_)
        refine lv_aload_n hx hb dL_refusals_65 rfl (lv_at hl 4 rfl) ?_
        refine me_callVi (As := []) (rest := []) hC hl.1 hM (c_X7_clock l D tb X z0 n bo g G F sf inp out M0 S B L P  ) (kv_L_104 hw rfl rfl ⟨Nat.le_of_ble_eq_true rfl, Nat.le_of_ble_eq_true rfl⟩) rfl rfl (bq_at h_b) rfl (Nat.le_of_ble_eq_true rfl) dL_refusals_66 ⟨Nat.le_of_ble_eq_true rfl, Nat.le_of_ble_eq_true rfl⟩ (fun H locs hM => ?_)
        refine me_evi (y := nI T) hT ?_
        refine lv_bipush (v := 48) hx hb dL_refusals_69 (by decide) ?_
        refine lv_iadd hx hb dL_refusals_71 ?_
        refine lv_iload_n hx hb dL_refusals_72 rfl (lv_at hl 6 rfl) ?_
        refine lv_isub hx hb dL_refusals_73 ?_
        refine me_evi (y := nI (T + (49 - n9)) + (-1)) ((nx_sub (nx_add rfl (nx_c 48)) rfl (by omega)).trans (by rw [show T + (49 - n9) = (T + 48 - n9) + 1 by omega]; exact (pk_m1 _).symm)) ?_
        refine lv_istore (lv' := [(8, .int (nI (T + (49 - n9)) + (-1))), (7, .int 1), (6, .int (-1)), (5, .int (-1)), (4, .int (prF g b (nI n9))), (0, .ref bo), (1, .int (nI b)), (2, .int (nI n9)), (3, .int late)]) hx hb dL_refusals_74 hl (by decide) rfl (fun ls hl => ?_)
        have lp_76 : ∀ (mm2 : Nat) (e5 : Int32) (pf : Int32) (nS : Nat) (H : Heap) (locs : List Loc) (ls : Array Slot), (mm2 ≤ 49 - n9) → (e5 = fv (eaE g L P b n9 T 30) (49 - n9 - mm2) mm2) → (pf = fv (eaE g L P b n9 T 0) (49 - n9 - mm2) mm2) → me_at D z0 (sp tb (bo + 722) g (bq tb bo G F sf inp out M0)) nS s H locs → lv_has ls 17 [(0, .ref bo), (1, .int (nI b)), (2, .int (nI n9)), (3, .int late), (4, .int (prF g b (nI n9))), (5, .int e5), (6, .int pf), (7, .int 1), (8, .int (nI (T + mm2) + (-1)))] → W p l e (({ frames := 14, cells := 0, slots := 0, locals := 504 } : Room)) s m args below meth c H locs 0 0 (MQ below (me_Qp D z0 (fun r1 M1 => r1 = 1 ∧ M1 = sp tb (bo + 722) g (bq tb bo G F sf inp out M0))) args s 0 0 (me_A z0)) (F0 m 76 ls []) := by
          intro mm2
          refine Nat.strongRecOn mm2 ?_
          intro mm2 ih_76 e5 pf nS H locs ls hkS hqE hqF hM hl
          refine lv_iload hx hb dL_refusals_76 (lv_at hl 8 rfl) ?_
          rcases (show mm2 = 0 ∨ ∃ m2, mm2 = m2 + 1 from (Nat.eq_zero_or_pos mm2).imp id (fun h => ⟨mm2 - 1, by omega⟩)) with rfl | ⟨m2, rfl⟩
          · skip
            refine me_evi (y := nI T + (-1)) (rfl) ?_
            refine lv_aload_n hx hb dL_refusals_78 rfl (lv_at hl 0 rfl) ?_
            refine me_callVi (As := []) (rest := [.int (nI T + (-1))]) hC hl.1 hM (c_X7_clock l D tb X z0 nS bo g G F sf inp out M0 S B L P  ) (kv_L_104 hw rfl rfl ⟨Nat.le_of_ble_eq_true rfl, Nat.le_of_ble_eq_true rfl⟩) rfl rfl (bq_at h_b) rfl (Nat.le_of_ble_eq_true rfl) dL_refusals_79 ⟨Nat.le_of_ble_eq_true rfl, Nat.le_of_ble_eq_true rfl⟩ (fun H locs hM => ?_)
            refine me_evi (y := nI T) hT ?_
            refine lv_icmp_lt (tgt := 443) hx hb dL_refusals_82 (by decide) (fun c_2 => ?_) (fun c_2 => ?_)
            · have c_2q := Int32.not_le.mpr c_2
              refine lv_iload hx hb dL_refusals_443 (lv_at hl 7 rfl) ?_
              refine lv_if_eq (tgt := 474) hx hb dL_refusals_445 (by decide) (fun c_3 => ?_) (fun c_3 => ?_)
              · exact absurd c_3 (by decide)
              · refine lv_aload_n hx hb dL_refusals_448 rfl (lv_at hl 0 rfl) ?_
                refine lv_iload_n hx hb dL_refusals_449 rfl (lv_at hl 1 rfl) ?_
                refine lv_iload_n hx hb dL_refusals_450 rfl (lv_at hl 2 rfl) ?_
                refine me_callVi (As := [.int (nI b), .int (nI n9)]) (rest := []) hC hl.1 hM (c_X7_earliestStart l D tb X z0 nS bo g G F sf inp out M0 S B L P T b n9 hW hT hT0 (by omega) (by omega) (by omega)) (kv_L_192 hw rfl rfl ⟨Nat.le_of_ble_eq_true rfl, Nat.le_of_ble_eq_true rfl⟩) rfl rfl (bq_at h_b) rfl (Nat.le_of_ble_eq_true rfl) dL_refusals_451 ⟨Nat.le_of_ble_eq_true rfl, Nat.le_of_ble_eq_true rfl⟩ (fun H locs hM => ?_)
                refine me_evi (y := e5) hqE.symm ?_
                refine lv_iload hx hb dL_refusals_454 (lv_at hl 5 rfl) ?_
                refine lv_icmp_ne (tgt := 474) hx hb dL_refusals_456 (by decide) (fun c_4 => ?_) (fun c_4 => ?_)
                · exact absurd rfl c_4
                · refine lv_aload_n hx hb dL_refusals_459 rfl (lv_at hl 0 rfl) ?_
                  refine lv_iload_n hx hb dL_refusals_460 rfl (lv_at hl 1 rfl) ?_
                  refine lv_iload_n hx hb dL_refusals_461 rfl (lv_at hl 2 rfl) ?_
                  refine me_callVi (As := [.int (nI b), .int (nI n9)]) (rest := []) hC hl.1 hM (c_X7_earliestPeacefulStart l D tb X z0 nS bo g G F sf inp out M0 S B L P T b n9 hW hT hT0 (by omega) (by omega) (by omega)) (kv_L_195 hw rfl rfl ⟨Nat.le_of_ble_eq_true rfl, Nat.le_of_ble_eq_true rfl⟩) rfl rfl (bq_at h_b) rfl (Nat.le_of_ble_eq_true rfl) dL_refusals_462 ⟨Nat.le_of_ble_eq_true rfl, Nat.le_of_ble_eq_true rfl⟩ (fun H locs hM => ?_)
                  refine me_evi (y := pf) hqF.symm ?_
                  refine lv_iload hx hb dL_refusals_465 (lv_at hl 6 rfl) ?_
                  refine lv_icmp_ne (tgt := 474) hx hb dL_refusals_467 (by decide) (fun c_5 => ?_) (fun c_5 => ?_)
                  · exact absurd rfl c_5
                  · refine lv_iconst (v := 1) hx hb dL_refusals_470 (by decide) ?_
                    refine lv_goto (tgt := 475) hx hb dL_refusals_471 (by decide) ?_
                    exact me_pret hC hr hlk hM (⟨rfl, rfl⟩) (rfl) dL_refusals_475
            · have c_2q := Int32.not_lt.mp c_2
              exact absurd (tm1 (by omega)) c_2
          · skip
            refine me_evi (y := nI (T + m2)) (pk_m1 (T + m2)) ?_
            rw [show nI (T + (m2 + 1)) + (-1) = nI (T + m2) from pk_m1 (T + m2)] at hl
            refine lv_aload_n hx hb dL_refusals_78 rfl (lv_at hl 0 rfl) ?_
            refine me_callVi (As := []) (rest := [.int (nI (T + m2))]) hC hl.1 hM (c_X7_clock l D tb X z0 nS bo g G F sf inp out M0 S B L P  ) (kv_L_104 hw rfl rfl ⟨Nat.le_of_ble_eq_true rfl, Nat.le_of_ble_eq_true rfl⟩) rfl rfl (bq_at h_b) rfl (Nat.le_of_ble_eq_true rfl) dL_refusals_79 ⟨Nat.le_of_ble_eq_true rfl, Nat.le_of_ble_eq_true rfl⟩ (fun H locs hM => ?_)
            refine me_evi (y := nI T) hT ?_
            refine lv_icmp_lt (tgt := 443) hx hb dL_refusals_82 (by decide) (fun c_6 => ?_) (fun c_6 => ?_)
            · have c_6 := (br_lt rfl rfl (by omega) (by omega)).mp c_6
              exfalso; omega
            · have c_6 := (not_congr (br_lt rfl rfl (by omega) (by omega))).mp c_6
              refine lv_iload hx hb dL_refusals_85 (lv_at hl 7 rfl) ?_
              refine lv_if_eq (tgt := 443) hx hb dL_refusals_87 (by decide) (fun c_7 => ?_) (fun c_7 => ?_)
              · exact absurd c_7 (by decide)
              · refine lv_iconst (v := (-1)) hx hb dL_refusals_90 (by decide) ?_
                refine lv_istore (lv' := [(9, .int (-1)), (0, .ref bo), (1, .int (nI b)), (2, .int (nI n9)), (3, .int late), (4, .int (prF g b (nI n9))), (5, .int e5), (6, .int pf), (7, .int 1), (8, .int (nI (T + m2)))]) hx hb dL_refusals_91 hl (by decide) rfl (fun ls hl => ?_)
                refine lv_iconst (v := (-1)) hx hb dL_refusals_93 (by decide) ?_
                refine lv_istore (lv' := [(10, .int (-1)), (9, .int (-1)), (0, .ref bo), (1, .int (nI b)), (2, .int (nI n9)), (3, .int late), (4, .int (prF g b (nI n9))), (5, .int e5), (6, .int pf), (7, .int 1), (8, .int (nI (T + m2)))]) hx hb dL_refusals_94 hl (by decide) rfl (fun ls hl => ?_)
                refine lv_iconst (v := 0) hx hb dL_refusals_96 (by decide) ?_
                refine lv_istore (lv' := [(11, .int 0), (10, .int (-1)), (9, .int (-1)), (0, .ref bo), (1, .int (nI b)), (2, .int (nI n9)), (3, .int late), (4, .int (prF g b (nI n9))), (5, .int e5), (6, .int pf), (7, .int 1), (8, .int (nI (T + m2)))]) hx hb dL_refusals_97 hl (by decide) rfl (fun ls hl => ?_)
                refine lv_iconst (v := (-1)) hx hb dL_refusals_99 (by decide) ?_
                refine lv_istore (lv' := [(12, .int (-1)), (11, .int 0), (10, .int (-1)), (9, .int (-1)), (0, .ref bo), (1, .int (nI b)), (2, .int (nI n9)), (3, .int late), (4, .int (prF g b (nI n9))), (5, .int e5), (6, .int pf), (7, .int 1), (8, .int (nI (T + m2)))]) hx hb dL_refusals_100 hl (by decide) rfl (fun ls hl => ?_)
                refine lv_iload hx hb dL_refusals_102 (lv_at hl 12 rfl) ?_
                refine lv_iload_n hx hb dL_refusals_104 rfl (lv_at hl 6 rfl) ?_
                refine lv_iadd hx hb dL_refusals_105 ?_
                refine lv_iconst (v := 1) hx hb dL_refusals_106 (by decide) ?_
                refine lv_isub hx hb dL_refusals_107 ?_
                refine me_evi (y := nI (T + m2 + n9) + (-1)) (by rw [show nI (T + m2) + nI n9 = nI (T + m2 + n9) from nx_add rfl rfl]; exact Int32.sub_eq_add_neg _ _) ?_
                refine lv_istore (lv' := [(13, .int (nI (T + m2 + n9) + (-1))), (12, .int (-1)), (11, .int 0), (10, .int (-1)), (9, .int (-1)), (0, .ref bo), (1, .int (nI b)), (2, .int (nI n9)), (3, .int late), (4, .int (prF g b (nI n9))), (5, .int e5), (6, .int pf), (7, .int 1), (8, .int (nI (T + m2)))]) hx hb dL_refusals_108 hl (by decide) rfl (fun ls hl => ?_)
                have lp_110 : ∀ (mm3 : Nat) (dr : Int32) (kp : Int32) (o : Nat) (bf : Int32) (H : Heap) (locs : List Loc) (ls : Array Slot), (mm3 ≤ n9) → (dr = fv (fun j => peF g P (nI (hm g b)) (nI (T + m2 + j))) (n9 - mm3) mm3) → (kp = fv (fun j => obF g L b (nI (T + m2 + j))) (n9 - mm3) mm3) → (o = rnF g L (T + m2) (n9 - mm3) mm3) → (bf = bfF g L (T + m2) (n9 - mm3) mm3) → me_at D z0 (sp tb (bo + 722) g (bq tb bo G F sf inp out M0)) nS s H locs → lv_has ls 17 [(0, .ref bo), (1, .int (nI b)), (2, .int (nI n9)), (3, .int late), (4, .int (prF g b (nI n9))), (5, .int e5), (6, .int pf), (7, .int 1), (8, .int (nI (T + m2))), (9, .int dr), (10, .int kp), (11, .int (nI o)), (12, .int bf), (13, .int (nI (T + m2 + mm3) + (-1)))] → W p l e (({ frames := 14, cells := 0, slots := 0, locals := 504 } : Room)) s m args below meth c H locs 0 0 (MQ below (me_Qp D z0 (fun r1 M1 => r1 = 1 ∧ M1 = sp tb (bo + 722) g (bq tb bo G F sf inp out M0))) args s 0 0 (me_A z0)) (F0 m 110 ls []) := by
                  intro mm3
                  refine Nat.strongRecOn mm3 ?_
                  intro mm3 ih_110 dr kp o bf H locs ls hkH hqD hqK hqO hqB hM hl
                  refine lv_iload hx hb dL_refusals_110 (lv_at hl 13 rfl) ?_
                  rcases (show mm3 = 0 ∨ ∃ m3, mm3 = m3 + 1 from (Nat.eq_zero_or_pos mm3).imp id (fun h => ⟨mm3 - 1, by omega⟩)) with rfl | ⟨m3, rfl⟩
                  · skip
                    refine me_evi (y := nI (T + m2) + (-1)) (rfl) ?_
                    refine lv_iload hx hb dL_refusals_112 (lv_at hl 8 rfl) ?_
                    refine lv_icmp_lt (tgt := 242) hx hb dL_refusals_114 (by decide) (fun c_8 => ?_) (fun c_8 => ?_)
                    · have c_8q := Int32.not_le.mpr c_8
                      have hdr : dr = fpF g P b (T + m2) n9 := hqD.trans (by unfold fpF; rw [(hwb b hb9).1]; rfl)
                      have hkp : kp = foF g L b (T + m2) n9 := hqK
                      have hlo : loF g L (nI (T + m2)) (nI n9) = o := (hrn m2 (by omega)).symm.trans hqO.symm
                      have hlL : loF g L (nI (T + m2)) (nI n9) ≤ L := co_le _ L 0
                      refine lv_iload hx hb dL_refusals_242 (lv_at hl 4 rfl) ?_
                      refine lv_aload_n hx hb dL_refusals_244 rfl (lv_at hl 0 rfl) ?_
                      refine lv_iload_n hx hb dL_refusals_245 rfl (lv_at hl 1 rfl) ?_
                      refine me_callVi (As := [.int (nI b)]) (rest := [.int (prF g b (nI n9))]) hC hl.1 hM (c_X7_creditOf l D tb X z0 nS bo g G F sf inp out M0 S B L P b hW (by omega)) (kv_L_134 hw rfl rfl ⟨Nat.le_of_ble_eq_true rfl, Nat.le_of_ble_eq_true rfl⟩) rfl rfl (bq_at h_b) rfl (Nat.le_of_ble_eq_true rfl) dL_refusals_246 ⟨Nat.le_of_ble_eq_true rfl, Nat.le_of_ble_eq_true rfl⟩ (fun H locs hM => ?_)
                      refine lv_isub hx hb dL_refusals_249 ?_
                      refine lv_istore (lv' := [(13, .int ((prF g b (nI n9)) - (g (89 + 11 * b + 2)))), (0, .ref bo), (1, .int (nI b)), (2, .int (nI n9)), (3, .int late), (4, .int (prF g b (nI n9))), (5, .int e5), (6, .int pf), (7, .int 1), (8, .int (nI (T + m2))), (9, .int dr), (10, .int kp), (11, .int (nI o)), (12, .int bf)]) hx hb dL_refusals_250 hl (by decide) rfl (fun ls hl => ?_)
                      refine lv_iload_n hx hb dL_refusals_252 rfl (lv_at hl 4 rfl) ?_
                      refine lv_if_lt (tgt := 260) hx hb dL_refusals_253 (by decide) (fun c_9 => ?_) (fun c_9 => ?_)
                      · have c_9q := Int32.not_le.mpr c_9
                        refine lv_iload hx hb dL_refusals_260 (lv_at hl 10 rfl) ?_
                        refine lv_if_lt (tgt := 269) hx hb dL_refusals_262 (by decide) (fun c_10 => ?_) (fun c_10 => ?_)
                        · have c_10q := Int32.not_le.mpr c_10
                          refine lv_iload hx hb dL_refusals_269 (lv_at hl 11 rfl) ?_
                          refine lv_if_lt (tgt := 278) hx hb dL_refusals_271 (by decide) (fun c_11 => ?_) (fun c_11 => ?_)
                          · have c_11q := Int32.not_le.mpr c_11
                            refine lv_iload hx hb dL_refusals_278 (lv_at hl 0 rfl) ?_
                            refine lv_if_le (tgt := 287) hx hb dL_refusals_280 (by decide) (fun c_12 => ?_) (fun c_12 => ?_)
                            · have c_12q := c_12
                              have c_12 := Int32.not_lt.mpr c_12
                              refine lv_aload_n hx hb dL_refusals_287 rfl (lv_at hl 1 rfl) ?_
                              refine me_callVi (As := []) (rest := []) hC hl.1 hM (c_X7_loanCount l D tb X z0 nS bo g G F sf inp out M0 S B L P  ) (kv_L_110 hw rfl rfl ⟨Nat.le_of_ble_eq_true rfl, Nat.le_of_ble_eq_true rfl⟩) rfl rfl (bq_at h_b) rfl (Nat.le_of_ble_eq_true rfl) dL_refusals_288 ⟨Nat.le_of_ble_eq_true rfl, Nat.le_of_ble_eq_true rfl⟩ (fun H locs hM => ?_)
                              refine me_evi (y := nI L) hW.2.2.2.2.1 ?_
                              refine lv_bipush (v := 30) hx hb dL_refusals_291 (by decide) ?_
                              refine lv_icmp_ne (tgt := 300) hx hb dL_refusals_293 (by decide) (fun c_13 => ?_) (fun c_13 => ?_)
                              · have c_13 := (not_congr (br_eq rfl (nx_c 30) (by omega) (by omega))).mp c_13
                                refine lv_iconst (v := 0) hx hb dL_refusals_300 (by decide) ?_
                                have hre : reF g L P b (T + m2) n9 = 0 := by unfold reF; rw [if_neg (fun z => z ((m1c hlate (ovO hL0)).1 c_9)), if_neg (fun z => z ((m1c hdr (fpO hP0)).1 c_10)), if_neg (fun z => z ((m1c hkp (foO hL0)).1 c_11)), if_neg (fun z => c_12 (hlka.mp z))]; exact if_neg (fun z => c_13 ((nI_eq (b := 30) (by omega) (by omega)).mp (hL.symm.trans z)))
                                refine lv_istore (lv' := [(14, .int 0), (13, .int ((prF g b (nI n9)) - (g (89 + 11 * b + 2)))), (0, .ref bo), (1, .int (nI b)), (2, .int (nI n9)), (3, .int late), (4, .int (prF g b (nI n9))), (5, .int e5), (6, .int pf), (7, .int 1), (8, .int (nI (T + m2))), (9, .int dr), (10, .int kp), (11, .int (nI o)), (12, .int bf)]) hx hb dL_refusals_301 hl (by decide) rfl (fun ls hl => ?_)
                                refine lv_iload hx hb dL_refusals_303 (lv_at hl 0 rfl) ?_
                                refine lv_iconst (v := 1) hx hb dL_refusals_305 (by decide) ?_
                                refine lv_icmp_ne (tgt := 313) hx hb dL_refusals_306 (by decide) (fun c_14 => ?_) (fun c_14 => ?_)
                                · refine lv_iload hx hb dL_refusals_313 (lv_at hl 0 rfl) ?_
                                  refine lv_iconst (v := 2) hx hb dL_refusals_315 (by decide) ?_
                                  refine lv_icmp_ne (tgt := 324) hx hb dL_refusals_316 (by decide) (fun c_15 => ?_) (fun c_15 => ?_)
                                  · refine lv_iload hx hb dL_refusals_324 (lv_at hl 0 rfl) ?_
                                    refine lv_iconst (v := 3) hx hb dL_refusals_326 (by decide) ?_
                                    refine lv_icmp_ne (tgt := 335) hx hb dL_refusals_327 (by decide) (fun c_16 => ?_) (fun c_16 => ?_)
                                    · refine lv_iload hx hb dL_refusals_335 (lv_at hl 0 rfl) ?_
                                      refine lv_iconst (v := 4) hx hb dL_refusals_337 (by decide) ?_
                                      refine lv_icmp_ne (tgt := 346) hx hb dL_refusals_338 (by decide) (fun c_17 => ?_) (fun c_17 => ?_)
                                      · refine lv_iconst (v := (-1)) hx hb dL_refusals_346 (by decide) ?_
                                        refine lv_istore (lv' := [(15, .int (-1)), (14, .int 0), (13, .int ((prF g b (nI n9)) - (g (89 + 11 * b + 2)))), (0, .ref bo), (1, .int (nI b)), (2, .int (nI n9)), (3, .int late), (4, .int (prF g b (nI n9))), (5, .int e5), (6, .int pf), (7, .int 1), (8, .int (nI (T + m2))), (9, .int dr), (10, .int kp), (11, .int (nI o)), (12, .int bf)]) hx hb dL_refusals_347 hl (by decide) rfl (fun ls hl => ?_)
                                        refine lv_aload_n hx hb dL_refusals_349 rfl (lv_at hl 3 rfl) ?_
                                        refine lv_iload_n hx hb dL_refusals_350 rfl (lv_at hl 4 rfl) ?_
                                        refine lv_iload hx hb dL_refusals_351 (lv_at hl 11 rfl) ?_
                                        refine lv_iload_n hx hb dL_refusals_353 rfl (lv_at hl 5 rfl) ?_
                                        refine me_callSnp (nA := 4) (As := [.ref bo, .int (nI b), .int (nI (T + m2)), .int (nI n9)]) (rest := []) hC hl.1 hM (c_L_refused (mc := 0) (ms := 0) l D tb X z0 nS bo (nI b) (nI (T + m2)) (nI n9) rfl rfl ⟨Nat.le_of_ble_eq_true rfl, Nat.le_of_ble_eq_true rfl⟩ (bq_at h_b) (c_X7_refusal l D tb X z0 nS bo g G F sf inp out M0 S B L P T b (T + m2) n9 hW hT hT0 (by omega) (by omega) (by omega) (by omega) (by omega))) w_1239 w_1240 w_0 w_1241 (by decide +kernel) rfl rfl ⟨Nat.le_of_ble_eq_true rfl, Nat.le_of_ble_eq_true rfl⟩ rfl rfl (Nat.le_of_ble_eq_true rfl) dL_refusals_354 ⟨Nat.le_of_ble_eq_true rfl, Nat.le_of_ble_eq_true rfl⟩ (fun r_1 M_1 hP_1 H locs n_1 hM => ?_)
                                        obtain ⟨rfl, rfl⟩ := hP_1
                                        refine me_evi (y := 0) hre ?_
                                        refine lv_iload hx hb dL_refusals_357 (lv_at hl 1 rfl) ?_
                                        refine lv_icmp_ne (tgt := 401) hx hb dL_refusals_359 (by decide) (fun c_18 => ?_) (fun c_18 => ?_)
                                        · exact absurd c_18 (by decide)
                                        · refine lv_aload_n hx hb dL_refusals_362 rfl (lv_at hl 3 rfl) ?_
                                          refine lv_iload_n hx hb dL_refusals_363 rfl (lv_at hl 4 rfl) ?_
                                          refine lv_iload hx hb dL_refusals_364 (lv_at hl 11 rfl) ?_
                                          refine lv_iload_n hx hb dL_refusals_366 rfl (lv_at hl 5 rfl) ?_
                                          refine me_callVi (As := [.int (nI b), .int (nI (T + m2)), .int (nI n9)]) (rest := []) hC hl.1 hM (c_X7_refusalCause l D tb X z0 n_1 bo g G F sf inp out M0 S B L P T b (T + m2) n9 hW hT hT0 (by omega) (by omega) (by omega) (by omega) (by omega)) (kv_L_186 hw rfl rfl ⟨Nat.le_of_ble_eq_true rfl, Nat.le_of_ble_eq_true rfl⟩) rfl rfl (bq_at h_b) rfl (Nat.le_of_ble_eq_true rfl) dL_refusals_367 ⟨Nat.le_of_ble_eq_true rfl, Nat.le_of_ble_eq_true rfl⟩ (fun H locs hM => ?_)
                                          refine me_evi (y := (-1)) (by unfold cauF; rw [if_neg (fun z => absurd (hre.symm.trans z) (by decide)), if_neg (fun z => absurd (hre.symm.trans z) (by decide)), if_neg (fun z => absurd (hre.symm.trans z) (by decide)), if_neg (fun z => absurd (hre.symm.trans z) (by decide))]) ?_
                                          refine lv_iload hx hb dL_refusals_370 (lv_at hl 0 rfl) ?_
                                          refine lv_icmp_ne (tgt := 401) hx hb dL_refusals_372 (by decide) (fun c_19 => ?_) (fun c_19 => ?_)
                                          · exact absurd c_19 (by decide)
                                          · refine lv_aload_n hx hb dL_refusals_375 rfl (lv_at hl 3 rfl) ?_
                                            refine lv_iload_n hx hb dL_refusals_376 rfl (lv_at hl 4 rfl) ?_
                                            refine lv_iload hx hb dL_refusals_377 (lv_at hl 11 rfl) ?_
                                            refine lv_iload_n hx hb dL_refusals_379 rfl (lv_at hl 5 rfl) ?_
                                            refine me_callVi (As := [.int (nI b), .int (nI (T + m2)), .int (nI n9)]) (rest := []) hC hl.1 hM (c_X7_displacedBy l D tb X z0 n_1 bo g G F sf inp out M0 S B L P T b (T + m2) n9 hW hT hT0 (by omega) (by omega) (by omega) (by omega) (by omega)) (kv_L_189 hw rfl rfl ⟨Nat.le_of_ble_eq_true rfl, Nat.le_of_ble_eq_true rfl⟩) rfl rfl (bq_at h_b) rfl (Nat.le_of_ble_eq_true rfl) dL_refusals_380 ⟨Nat.le_of_ble_eq_true rfl, Nat.le_of_ble_eq_true rfl⟩ (fun H locs hM => ?_)
                                            refine me_evi (y := nI o) (by unfold dispF; rw [if_pos hre]; exact congrArg nI hlo) ?_
                                            refine lv_iload hx hb dL_refusals_383 (lv_at hl 1 rfl) ?_
                                            refine lv_if_ne (tgt := 393) hx hb dL_refusals_385 (by decide) (fun c_20 => ?_) (fun c_20 => ?_)
                                            · exact absurd c_20 (by decide)
                                            · refine lv_iload hx hb dL_refusals_388 (lv_at hl 14 rfl) ?_
                                              refine lv_goto (tgt := 394) hx hb dL_refusals_390 (by decide) ?_
                                              refine lv_icmp_ne (tgt := 401) hx hb dL_refusals_394 (by decide) (fun c_21 => ?_) (fun c_21 => ?_)
                                              · exact absurd rfl c_21
                                              · refine lv_iconst (v := 1) hx hb dL_refusals_397 (by decide) ?_
                                                refine lv_goto (tgt := 402) hx hb dL_refusals_398 (by decide) ?_
                                                refine lv_istore (lv' := [(7, .int 1), (15, .int (-1)), (14, .int 0), (13, .int ((prF g b (nI n9)) - (g (89 + 11 * b + 2)))), (0, .ref bo), (1, .int (nI b)), (2, .int (nI n9)), (3, .int late), (4, .int (prF g b (nI n9))), (5, .int e5), (6, .int pf), (8, .int (nI (T + m2))), (9, .int dr), (10, .int kp), (11, .int (nI o)), (12, .int bf)]) hx hb dL_refusals_402 hl (by decide) rfl (fun ls hl => ?_)
                                                refine lv_iload hx hb dL_refusals_404 (lv_at hl 2 rfl) ?_
                                                refine lv_if_ne (tgt := 414) hx hb dL_refusals_406 (by decide) (fun c_22 => ?_) (fun c_22 => ?_)
                                                · exact absurd c_22 (by decide)
                                                · refine lv_iload hx hb dL_refusals_409 (lv_at hl 11 rfl) ?_
                                                  refine lv_goto (tgt := 416) hx hb dL_refusals_411 (by decide) ?_
                                                  refine lv_istore (lv' := [(5, .int (nI (T + m2))), (7, .int 1), (15, .int (-1)), (14, .int 0), (13, .int ((prF g b (nI n9)) - (g (89 + 11 * b + 2)))), (0, .ref bo), (1, .int (nI b)), (2, .int (nI n9)), (3, .int late), (4, .int (prF g b (nI n9))), (6, .int pf), (8, .int (nI (T + m2))), (9, .int dr), (10, .int kp), (11, .int (nI o)), (12, .int bf)]) hx hb dL_refusals_416 hl (by decide) rfl (fun ls hl => ?_)
                                                  refine lv_iload hx hb dL_refusals_418 (lv_at hl 3 rfl) ?_
                                                  refine lv_if_ne (tgt := 433) hx hb dL_refusals_420 (by decide) (fun c_23 => ?_) (fun c_23 => ?_)
                                                  · exact absurd c_23 (by decide)
                                                  · refine lv_iload hx hb dL_refusals_423 (lv_at hl 14 rfl) ?_
                                                    refine lv_if_ne (tgt := 433) hx hb dL_refusals_425 (by decide) (fun c_24 => ?_) (fun c_24 => ?_)
                                                    · have c_24 := (not_congr (br_eq rfl (show (0 : Int32) = nI 0 from rfl) (by omega) (by omega))).mp c_24
                                                      refine lv_iload hx hb dL_refusals_433 (lv_at hl 10 rfl) ?_
                                                      refine lv_istore (lv' := [(6, .int pf), (5, .int (nI (T + m2))), (7, .int 1), (15, .int (-1)), (14, .int 0), (13, .int ((prF g b (nI n9)) - (g (89 + 11 * b + 2)))), (0, .ref bo), (1, .int (nI b)), (2, .int (nI n9)), (3, .int late), (4, .int (prF g b (nI n9))), (8, .int (nI (T + m2))), (9, .int dr), (10, .int kp), (11, .int (nI o)), (12, .int bf)]) hx hb dL_refusals_435 hl (by decide) rfl (fun ls hl => ?_)
                                                      refine lv_iinc (v := (nI (T + m2)) + (-1)) (lv' := [(8, .int ((nI (T + m2)) + (-1))), (6, .int pf), (5, .int (nI (T + m2))), (7, .int 1), (15, .int (-1)), (14, .int 0), (13, .int ((prF g b (nI n9)) - (g (89 + 11 * b + 2)))), (0, .ref bo), (1, .int (nI b)), (2, .int (nI n9)), (3, .int late), (4, .int (prF g b (nI n9))), (9, .int dr), (10, .int kp), (11, .int (nI o)), (12, .int bf)]) hx hb dL_refusals_437 hl (k := 11) rfl rfl (by decide) rfl (fun ls hl => ?_)
                                                      refine lv_goto (tgt := 76) hx hb dL_refusals_440 (by decide) ?_
                                                      exact ih_76 m2 (by omega) (nI (T + m2)) pf n_1 _ _ _ (by omega) (by rw [show 49 - n9 - m2 = (49 - n9 - (m2 + 1)) + 1 by omega, fv_t (F := eaE g L P b n9 T 30) (k := m2) (by rw [show eaE g L P b n9 T 30 m2 = nI (T + m2) from if_pos ⟨(nI_leI (b := 30) (by omega) (by omega)).mpr (by omega), hre⟩]; exact nI_nm1 (by omega))]; exact (if_pos ⟨(nI_leI (b := 30) (by omega) (by omega)).mpr (by omega), hre⟩).symm) (hqF.trans (by rw [show 49 - n9 - m2 = (49 - n9 - (m2 + 1)) + 1 by omega]; exact (fv_f (F := eaE g L P b n9 T 0) (k := m2) (if_neg (fun z => absurd ((nI_leI (b := 0) (by omega) (by omega)).mp z.1) (by omega)))).symm)) hM (lv_sub hl [7, 8, 9, 10, 11, 2, 1, 3, 0] rfl)
                                                    · have c_24 := (br_eq rfl (show (0 : Int32) = nI 0 from rfl) (by omega) (by omega)).mp c_24
                                                      refine lv_iload hx hb dL_refusals_428 (lv_at hl 11 rfl) ?_
                                                      refine lv_goto (tgt := 435) hx hb dL_refusals_430 (by decide) ?_
                                                      refine lv_istore (lv' := [(6, .int (nI (T + m2))), (5, .int (nI (T + m2))), (7, .int 1), (15, .int (-1)), (14, .int 0), (13, .int ((prF g b (nI n9)) - (g (89 + 11 * b + 2)))), (0, .ref bo), (1, .int (nI b)), (2, .int (nI n9)), (3, .int late), (4, .int (prF g b (nI n9))), (8, .int (nI (T + m2))), (9, .int dr), (10, .int kp), (11, .int (nI o)), (12, .int bf)]) hx hb dL_refusals_435 hl (by decide) rfl (fun ls hl => ?_)
                                                      refine lv_iinc (v := (nI (T + m2)) + (-1)) (lv' := [(8, .int ((nI (T + m2)) + (-1))), (6, .int (nI (T + m2))), (5, .int (nI (T + m2))), (7, .int 1), (15, .int (-1)), (14, .int 0), (13, .int ((prF g b (nI n9)) - (g (89 + 11 * b + 2)))), (0, .ref bo), (1, .int (nI b)), (2, .int (nI n9)), (3, .int late), (4, .int (prF g b (nI n9))), (9, .int dr), (10, .int kp), (11, .int (nI o)), (12, .int bf)]) hx hb dL_refusals_437 hl (k := 11) rfl rfl (by decide) rfl (fun ls hl => ?_)
                                                      refine lv_goto (tgt := 76) hx hb dL_refusals_440 (by decide) ?_
                                                      exact ih_76 m2 (by omega) (nI (T + m2)) (nI (T + m2)) n_1 _ _ _ (by omega) (by rw [show 49 - n9 - m2 = (49 - n9 - (m2 + 1)) + 1 by omega, fv_t (F := eaE g L P b n9 T 30) (k := m2) (by rw [show eaE g L P b n9 T 30 m2 = nI (T + m2) from if_pos ⟨(nI_leI (b := 30) (by omega) (by omega)).mpr (by omega), hre⟩]; exact nI_nm1 (by omega))]; exact (if_pos ⟨(nI_leI (b := 30) (by omega) (by omega)).mpr (by omega), hre⟩).symm) (by rw [show 49 - n9 - m2 = (49 - n9 - (m2 + 1)) + 1 by omega, fv_t (F := eaE g L P b n9 T 0) (k := m2) (by rw [show eaE g L P b n9 T 0 m2 = nI (T + m2) from if_pos ⟨(nI_leI (b := 0) (by omega) (by omega)).mpr (by omega), hre⟩]; exact nI_nm1 (by omega))]; exact (if_pos ⟨(nI_leI (b := 0) (by omega) (by omega)).mpr (by omega), hre⟩).symm) hM (lv_sub hl [7, 8, 9, 10, 11, 2, 1, 3, 0] rfl)
                                      · exact absurd c_17 (by decide)
                                    · exact absurd c_16 (by decide)
                                  · exact absurd c_15 (by decide)
                                · exact absurd c_14 (by decide)
                              · have c_13 := (br_eq rfl (nx_c 30) (by omega) (by omega)).mp c_13
                                refine lv_iconst (v := 5) hx hb dL_refusals_296 (by decide) ?_
                                refine lv_goto (tgt := 301) hx hb dL_refusals_297 (by decide) ?_
                                have hre : reF g L P b (T + m2) n9 = 5 := by unfold reF; rw [if_neg (fun z => z ((m1c hlate (ovO hL0)).1 c_9)), if_neg (fun z => z ((m1c hdr (fpO hP0)).1 c_10)), if_neg (fun z => z ((m1c hkp (foO hL0)).1 c_11)), if_neg (fun z => c_12 (hlka.mp z))]; exact if_pos (hL.trans (congrArg nI c_13))
                                refine lv_istore (lv' := [(14, .int 5), (13, .int ((prF g b (nI n9)) - (g (89 + 11 * b + 2)))), (0, .ref bo), (1, .int (nI b)), (2, .int (nI n9)), (3, .int late), (4, .int (prF g b (nI n9))), (5, .int e5), (6, .int pf), (7, .int 1), (8, .int (nI (T + m2))), (9, .int dr), (10, .int kp), (11, .int (nI o)), (12, .int bf)]) hx hb dL_refusals_301 hl (by decide) rfl (fun ls hl => ?_)
                                refine lv_iload hx hb dL_refusals_303 (lv_at hl 0 rfl) ?_
                                refine lv_iconst (v := 1) hx hb dL_refusals_305 (by decide) ?_
                                refine lv_icmp_ne (tgt := 313) hx hb dL_refusals_306 (by decide) (fun c_25 => ?_) (fun c_25 => ?_)
                                · refine lv_iload hx hb dL_refusals_313 (lv_at hl 0 rfl) ?_
                                  refine lv_iconst (v := 2) hx hb dL_refusals_315 (by decide) ?_
                                  refine lv_icmp_ne (tgt := 324) hx hb dL_refusals_316 (by decide) (fun c_26 => ?_) (fun c_26 => ?_)
                                  · refine lv_iload hx hb dL_refusals_324 (lv_at hl 0 rfl) ?_
                                    refine lv_iconst (v := 3) hx hb dL_refusals_326 (by decide) ?_
                                    refine lv_icmp_ne (tgt := 335) hx hb dL_refusals_327 (by decide) (fun c_27 => ?_) (fun c_27 => ?_)
                                    · refine lv_iload hx hb dL_refusals_335 (lv_at hl 0 rfl) ?_
                                      refine lv_iconst (v := 4) hx hb dL_refusals_337 (by decide) ?_
                                      refine lv_icmp_ne (tgt := 346) hx hb dL_refusals_338 (by decide) (fun c_28 => ?_) (fun c_28 => ?_)
                                      · refine lv_iconst (v := (-1)) hx hb dL_refusals_346 (by decide) ?_
                                        refine lv_istore (lv' := [(15, .int (-1)), (14, .int 5), (13, .int ((prF g b (nI n9)) - (g (89 + 11 * b + 2)))), (0, .ref bo), (1, .int (nI b)), (2, .int (nI n9)), (3, .int late), (4, .int (prF g b (nI n9))), (5, .int e5), (6, .int pf), (7, .int 1), (8, .int (nI (T + m2))), (9, .int dr), (10, .int kp), (11, .int (nI o)), (12, .int bf)]) hx hb dL_refusals_347 hl (by decide) rfl (fun ls hl => ?_)
                                        refine lv_aload_n hx hb dL_refusals_349 rfl (lv_at hl 3 rfl) ?_
                                        refine lv_iload_n hx hb dL_refusals_350 rfl (lv_at hl 4 rfl) ?_
                                        refine lv_iload hx hb dL_refusals_351 (lv_at hl 11 rfl) ?_
                                        refine lv_iload_n hx hb dL_refusals_353 rfl (lv_at hl 5 rfl) ?_
                                        refine me_callSnp (nA := 4) (As := [.ref bo, .int (nI b), .int (nI (T + m2)), .int (nI n9)]) (rest := []) hC hl.1 hM (c_L_refused (mc := 0) (ms := 0) l D tb X z0 nS bo (nI b) (nI (T + m2)) (nI n9) rfl rfl ⟨Nat.le_of_ble_eq_true rfl, Nat.le_of_ble_eq_true rfl⟩ (bq_at h_b) (c_X7_refusal l D tb X z0 nS bo g G F sf inp out M0 S B L P T b (T + m2) n9 hW hT hT0 (by omega) (by omega) (by omega) (by omega) (by omega))) w_1239 w_1240 w_0 w_1241 (by decide +kernel) rfl rfl ⟨Nat.le_of_ble_eq_true rfl, Nat.le_of_ble_eq_true rfl⟩ rfl rfl (Nat.le_of_ble_eq_true rfl) dL_refusals_354 ⟨Nat.le_of_ble_eq_true rfl, Nat.le_of_ble_eq_true rfl⟩ (fun r_2 M_2 hP_2 H locs n_2 hM => ?_)
                                        obtain ⟨rfl, rfl⟩ := hP_2
                                        refine me_evi (y := 5) hre ?_
                                        refine lv_iload hx hb dL_refusals_357 (lv_at hl 1 rfl) ?_
                                        refine lv_icmp_ne (tgt := 401) hx hb dL_refusals_359 (by decide) (fun c_29 => ?_) (fun c_29 => ?_)
                                        · exact absurd c_29 (by decide)
                                        · refine lv_aload_n hx hb dL_refusals_362 rfl (lv_at hl 3 rfl) ?_
                                          refine lv_iload_n hx hb dL_refusals_363 rfl (lv_at hl 4 rfl) ?_
                                          refine lv_iload hx hb dL_refusals_364 (lv_at hl 11 rfl) ?_
                                          refine lv_iload_n hx hb dL_refusals_366 rfl (lv_at hl 5 rfl) ?_
                                          refine me_callVi (As := [.int (nI b), .int (nI (T + m2)), .int (nI n9)]) (rest := []) hC hl.1 hM (c_X7_refusalCause l D tb X z0 n_2 bo g G F sf inp out M0 S B L P T b (T + m2) n9 hW hT hT0 (by omega) (by omega) (by omega) (by omega) (by omega)) (kv_L_186 hw rfl rfl ⟨Nat.le_of_ble_eq_true rfl, Nat.le_of_ble_eq_true rfl⟩) rfl rfl (bq_at h_b) rfl (Nat.le_of_ble_eq_true rfl) dL_refusals_367 ⟨Nat.le_of_ble_eq_true rfl, Nat.le_of_ble_eq_true rfl⟩ (fun H locs hM => ?_)
                                          refine me_evi (y := (-1)) (by unfold cauF; rw [if_neg (fun z => absurd (hre.symm.trans z) (by decide)), if_neg (fun z => absurd (hre.symm.trans z) (by decide)), if_neg (fun z => absurd (hre.symm.trans z) (by decide)), if_neg (fun z => absurd (hre.symm.trans z) (by decide))]) ?_
                                          refine lv_iload hx hb dL_refusals_370 (lv_at hl 0 rfl) ?_
                                          refine lv_icmp_ne (tgt := 401) hx hb dL_refusals_372 (by decide) (fun c_30 => ?_) (fun c_30 => ?_)
                                          · exact absurd c_30 (by decide)
                                          · refine lv_aload_n hx hb dL_refusals_375 rfl (lv_at hl 3 rfl) ?_
                                            refine lv_iload_n hx hb dL_refusals_376 rfl (lv_at hl 4 rfl) ?_
                                            refine lv_iload hx hb dL_refusals_377 (lv_at hl 11 rfl) ?_
                                            refine lv_iload_n hx hb dL_refusals_379 rfl (lv_at hl 5 rfl) ?_
                                            refine me_callVi (As := [.int (nI b), .int (nI (T + m2)), .int (nI n9)]) (rest := []) hC hl.1 hM (c_X7_displacedBy l D tb X z0 n_2 bo g G F sf inp out M0 S B L P T b (T + m2) n9 hW hT hT0 (by omega) (by omega) (by omega) (by omega) (by omega)) (kv_L_189 hw rfl rfl ⟨Nat.le_of_ble_eq_true rfl, Nat.le_of_ble_eq_true rfl⟩) rfl rfl (bq_at h_b) rfl (Nat.le_of_ble_eq_true rfl) dL_refusals_380 ⟨Nat.le_of_ble_eq_true rfl, Nat.le_of_ble_eq_true rfl⟩ (fun H locs hM => ?_)
                                            refine me_evi (y := (-1)) (by unfold dispF; exact if_neg (fun z => absurd (hre.symm.trans z) (by decide))) ?_
                                            refine lv_iload hx hb dL_refusals_383 (lv_at hl 1 rfl) ?_
                                            refine lv_if_ne (tgt := 393) hx hb dL_refusals_385 (by decide) (fun c_31 => ?_) (fun c_31 => ?_)
                                            · refine lv_iconst (v := (-1)) hx hb dL_refusals_393 (by decide) ?_
                                              refine lv_icmp_ne (tgt := 401) hx hb dL_refusals_394 (by decide) (fun c_32 => ?_) (fun c_32 => ?_)
                                              · exact absurd c_32 (by decide)
                                              · refine lv_iconst (v := 1) hx hb dL_refusals_397 (by decide) ?_
                                                refine lv_goto (tgt := 402) hx hb dL_refusals_398 (by decide) ?_
                                                refine lv_istore (lv' := [(7, .int 1), (15, .int (-1)), (14, .int 5), (13, .int ((prF g b (nI n9)) - (g (89 + 11 * b + 2)))), (0, .ref bo), (1, .int (nI b)), (2, .int (nI n9)), (3, .int late), (4, .int (prF g b (nI n9))), (5, .int e5), (6, .int pf), (8, .int (nI (T + m2))), (9, .int dr), (10, .int kp), (11, .int (nI o)), (12, .int bf)]) hx hb dL_refusals_402 hl (by decide) rfl (fun ls hl => ?_)
                                                refine lv_iload hx hb dL_refusals_404 (lv_at hl 2 rfl) ?_
                                                refine lv_if_ne (tgt := 414) hx hb dL_refusals_406 (by decide) (fun c_33 => ?_) (fun c_33 => ?_)
                                                · refine lv_iload hx hb dL_refusals_414 (lv_at hl 9 rfl) ?_
                                                  refine lv_istore (lv' := [(5, .int e5), (7, .int 1), (15, .int (-1)), (14, .int 5), (13, .int ((prF g b (nI n9)) - (g (89 + 11 * b + 2)))), (0, .ref bo), (1, .int (nI b)), (2, .int (nI n9)), (3, .int late), (4, .int (prF g b (nI n9))), (6, .int pf), (8, .int (nI (T + m2))), (9, .int dr), (10, .int kp), (11, .int (nI o)), (12, .int bf)]) hx hb dL_refusals_416 hl (by decide) rfl (fun ls hl => ?_)
                                                  refine lv_iload hx hb dL_refusals_418 (lv_at hl 3 rfl) ?_
                                                  refine lv_if_ne (tgt := 433) hx hb dL_refusals_420 (by decide) (fun c_34 => ?_) (fun c_34 => ?_)
                                                  · refine lv_iload hx hb dL_refusals_433 (lv_at hl 10 rfl) ?_
                                                    refine lv_istore (lv' := [(6, .int pf), (5, .int e5), (7, .int 1), (15, .int (-1)), (14, .int 5), (13, .int ((prF g b (nI n9)) - (g (89 + 11 * b + 2)))), (0, .ref bo), (1, .int (nI b)), (2, .int (nI n9)), (3, .int late), (4, .int (prF g b (nI n9))), (8, .int (nI (T + m2))), (9, .int dr), (10, .int kp), (11, .int (nI o)), (12, .int bf)]) hx hb dL_refusals_435 hl (by decide) rfl (fun ls hl => ?_)
                                                    refine lv_iinc (v := (nI (T + m2)) + (-1)) (lv' := [(8, .int ((nI (T + m2)) + (-1))), (6, .int pf), (5, .int e5), (7, .int 1), (15, .int (-1)), (14, .int 5), (13, .int ((prF g b (nI n9)) - (g (89 + 11 * b + 2)))), (0, .ref bo), (1, .int (nI b)), (2, .int (nI n9)), (3, .int late), (4, .int (prF g b (nI n9))), (9, .int dr), (10, .int kp), (11, .int (nI o)), (12, .int bf)]) hx hb dL_refusals_437 hl (k := 11) rfl rfl (by decide) rfl (fun ls hl => ?_)
                                                    refine lv_goto (tgt := 76) hx hb dL_refusals_440 (by decide) ?_
                                                    exact ih_76 m2 (by omega) e5 pf n_2 _ _ _ (by omega) (hqE.trans (by rw [show 49 - n9 - m2 = (49 - n9 - (m2 + 1)) + 1 by omega]; exact (fv_f (F := eaE g L P b n9 T 30) (k := m2) (if_neg (fun z => absurd (hre.symm.trans z.2) (by decide)))).symm)) (hqF.trans (by rw [show 49 - n9 - m2 = (49 - n9 - (m2 + 1)) + 1 by omega]; exact (fv_f (F := eaE g L P b n9 T 0) (k := m2) (if_neg (fun z => absurd (hre.symm.trans z.2) (by decide)))).symm)) hM (lv_sub hl [7, 8, 9, 10, 11, 2, 1, 3, 0] rfl)
                                                  · exact absurd c_34 (by decide)
                                                · exact absurd c_33 (by decide)
                                            · exact absurd c_31 (by decide)
                                      · exact absurd c_28 (by decide)
                                    · exact absurd c_27 (by decide)
                                  · exact absurd c_26 (by decide)
                                · exact absurd c_25 (by decide)
                            · have c_12q := c_12
                              have c_12 := Int32.not_le.mp c_12
                              refine lv_iconst (v := 4) hx hb dL_refusals_283 (by decide) ?_
                              refine lv_goto (tgt := 301) hx hb dL_refusals_284 (by decide) ?_
                              have hre : reF g L P b (T + m2) n9 = 4 := by unfold reF; rw [if_neg (fun z => z ((m1c hlate (ovO hL0)).1 c_9)), if_neg (fun z => z ((m1c hdr (fpO hP0)).1 c_10)), if_neg (fun z => z ((m1c hkp (foO hL0)).1 c_11))]; exact if_pos (hlka.mpr c_12)
                              refine lv_istore (lv' := [(14, .int 4), (13, .int ((prF g b (nI n9)) - (g (89 + 11 * b + 2)))), (0, .ref bo), (1, .int (nI b)), (2, .int (nI n9)), (3, .int late), (4, .int (prF g b (nI n9))), (5, .int e5), (6, .int pf), (7, .int 1), (8, .int (nI (T + m2))), (9, .int dr), (10, .int kp), (11, .int (nI o)), (12, .int bf)]) hx hb dL_refusals_301 hl (by decide) rfl (fun ls hl => ?_)
                              refine lv_iload hx hb dL_refusals_303 (lv_at hl 0 rfl) ?_
                              refine lv_iconst (v := 1) hx hb dL_refusals_305 (by decide) ?_
                              refine lv_icmp_ne (tgt := 313) hx hb dL_refusals_306 (by decide) (fun c_35 => ?_) (fun c_35 => ?_)
                              · refine lv_iload hx hb dL_refusals_313 (lv_at hl 0 rfl) ?_
                                refine lv_iconst (v := 2) hx hb dL_refusals_315 (by decide) ?_
                                refine lv_icmp_ne (tgt := 324) hx hb dL_refusals_316 (by decide) (fun c_36 => ?_) (fun c_36 => ?_)
                                · refine lv_iload hx hb dL_refusals_324 (lv_at hl 0 rfl) ?_
                                  refine lv_iconst (v := 3) hx hb dL_refusals_326 (by decide) ?_
                                  refine lv_icmp_ne (tgt := 335) hx hb dL_refusals_327 (by decide) (fun c_37 => ?_) (fun c_37 => ?_)
                                  · refine lv_iload hx hb dL_refusals_335 (lv_at hl 0 rfl) ?_
                                    refine lv_iconst (v := 4) hx hb dL_refusals_337 (by decide) ?_
                                    refine lv_icmp_ne (tgt := 346) hx hb dL_refusals_338 (by decide) (fun c_38 => ?_) (fun c_38 => ?_)
                                    · exact absurd c_38 (by decide)
                                    · refine lv_iload hx hb dL_refusals_341 (lv_at hl 1 rfl) ?_
                                      refine lv_goto (tgt := 347) hx hb dL_refusals_343 (by decide) ?_
                                      refine lv_istore (lv' := [(15, .int ((prF g b (nI n9)) - (g (89 + 11 * b + 2)))), (14, .int 4), (13, .int ((prF g b (nI n9)) - (g (89 + 11 * b + 2)))), (0, .ref bo), (1, .int (nI b)), (2, .int (nI n9)), (3, .int late), (4, .int (prF g b (nI n9))), (5, .int e5), (6, .int pf), (7, .int 1), (8, .int (nI (T + m2))), (9, .int dr), (10, .int kp), (11, .int (nI o)), (12, .int bf)]) hx hb dL_refusals_347 hl (by decide) rfl (fun ls hl => ?_)
                                      refine lv_aload_n hx hb dL_refusals_349 rfl (lv_at hl 3 rfl) ?_
                                      refine lv_iload_n hx hb dL_refusals_350 rfl (lv_at hl 4 rfl) ?_
                                      refine lv_iload hx hb dL_refusals_351 (lv_at hl 11 rfl) ?_
                                      refine lv_iload_n hx hb dL_refusals_353 rfl (lv_at hl 5 rfl) ?_
                                      refine me_callSnp (nA := 4) (As := [.ref bo, .int (nI b), .int (nI (T + m2)), .int (nI n9)]) (rest := []) hC hl.1 hM (c_L_refused (mc := 0) (ms := 0) l D tb X z0 nS bo (nI b) (nI (T + m2)) (nI n9) rfl rfl ⟨Nat.le_of_ble_eq_true rfl, Nat.le_of_ble_eq_true rfl⟩ (bq_at h_b) (c_X7_refusal l D tb X z0 nS bo g G F sf inp out M0 S B L P T b (T + m2) n9 hW hT hT0 (by omega) (by omega) (by omega) (by omega) (by omega))) w_1239 w_1240 w_0 w_1241 (by decide +kernel) rfl rfl ⟨Nat.le_of_ble_eq_true rfl, Nat.le_of_ble_eq_true rfl⟩ rfl rfl (Nat.le_of_ble_eq_true rfl) dL_refusals_354 ⟨Nat.le_of_ble_eq_true rfl, Nat.le_of_ble_eq_true rfl⟩ (fun r_3 M_3 hP_3 H locs n_3 hM => ?_)
                                      obtain ⟨rfl, rfl⟩ := hP_3
                                      refine me_evi (y := 4) hre ?_
                                      refine lv_iload hx hb dL_refusals_357 (lv_at hl 1 rfl) ?_
                                      refine lv_icmp_ne (tgt := 401) hx hb dL_refusals_359 (by decide) (fun c_39 => ?_) (fun c_39 => ?_)
                                      · exact absurd c_39 (by decide)
                                      · refine lv_aload_n hx hb dL_refusals_362 rfl (lv_at hl 3 rfl) ?_
                                        refine lv_iload_n hx hb dL_refusals_363 rfl (lv_at hl 4 rfl) ?_
                                        refine lv_iload hx hb dL_refusals_364 (lv_at hl 11 rfl) ?_
                                        refine lv_iload_n hx hb dL_refusals_366 rfl (lv_at hl 5 rfl) ?_
                                        refine me_callVi (As := [.int (nI b), .int (nI (T + m2)), .int (nI n9)]) (rest := []) hC hl.1 hM (c_X7_refusalCause l D tb X z0 n_3 bo g G F sf inp out M0 S B L P T b (T + m2) n9 hW hT hT0 (by omega) (by omega) (by omega) (by omega) (by omega)) (kv_L_186 hw rfl rfl ⟨Nat.le_of_ble_eq_true rfl, Nat.le_of_ble_eq_true rfl⟩) rfl rfl (bq_at h_b) rfl (Nat.le_of_ble_eq_true rfl) dL_refusals_367 ⟨Nat.le_of_ble_eq_true rfl, Nat.le_of_ble_eq_true rfl⟩ (fun H locs hM => ?_)
                                        refine me_evi (y := (prF g b (nI n9)) - (g (89 + 11 * b + 2))) (by unfold cauF; rw [if_neg (fun z => absurd (hre.symm.trans z) (by decide)), if_neg (fun z => absurd (hre.symm.trans z) (by decide)), if_neg (fun z => absurd (hre.symm.trans z) (by decide)), if_pos hre]) ?_
                                        refine lv_iload hx hb dL_refusals_370 (lv_at hl 0 rfl) ?_
                                        refine lv_icmp_ne (tgt := 401) hx hb dL_refusals_372 (by decide) (fun c_40 => ?_) (fun c_40 => ?_)
                                        · exact absurd rfl c_40
                                        · refine lv_aload_n hx hb dL_refusals_375 rfl (lv_at hl 3 rfl) ?_
                                          refine lv_iload_n hx hb dL_refusals_376 rfl (lv_at hl 4 rfl) ?_
                                          refine lv_iload hx hb dL_refusals_377 (lv_at hl 11 rfl) ?_
                                          refine lv_iload_n hx hb dL_refusals_379 rfl (lv_at hl 5 rfl) ?_
                                          refine me_callVi (As := [.int (nI b), .int (nI (T + m2)), .int (nI n9)]) (rest := []) hC hl.1 hM (c_X7_displacedBy l D tb X z0 n_3 bo g G F sf inp out M0 S B L P T b (T + m2) n9 hW hT hT0 (by omega) (by omega) (by omega) (by omega) (by omega)) (kv_L_189 hw rfl rfl ⟨Nat.le_of_ble_eq_true rfl, Nat.le_of_ble_eq_true rfl⟩) rfl rfl (bq_at h_b) rfl (Nat.le_of_ble_eq_true rfl) dL_refusals_380 ⟨Nat.le_of_ble_eq_true rfl, Nat.le_of_ble_eq_true rfl⟩ (fun H locs hM => ?_)
                                          refine me_evi (y := (-1)) (by unfold dispF; exact if_neg (fun z => absurd (hre.symm.trans z) (by decide))) ?_
                                          refine lv_iload hx hb dL_refusals_383 (lv_at hl 1 rfl) ?_
                                          refine lv_if_ne (tgt := 393) hx hb dL_refusals_385 (by decide) (fun c_41 => ?_) (fun c_41 => ?_)
                                          · refine lv_iconst (v := (-1)) hx hb dL_refusals_393 (by decide) ?_
                                            refine lv_icmp_ne (tgt := 401) hx hb dL_refusals_394 (by decide) (fun c_42 => ?_) (fun c_42 => ?_)
                                            · exact absurd c_42 (by decide)
                                            · refine lv_iconst (v := 1) hx hb dL_refusals_397 (by decide) ?_
                                              refine lv_goto (tgt := 402) hx hb dL_refusals_398 (by decide) ?_
                                              refine lv_istore (lv' := [(7, .int 1), (15, .int ((prF g b (nI n9)) - (g (89 + 11 * b + 2)))), (14, .int 4), (13, .int ((prF g b (nI n9)) - (g (89 + 11 * b + 2)))), (0, .ref bo), (1, .int (nI b)), (2, .int (nI n9)), (3, .int late), (4, .int (prF g b (nI n9))), (5, .int e5), (6, .int pf), (8, .int (nI (T + m2))), (9, .int dr), (10, .int kp), (11, .int (nI o)), (12, .int bf)]) hx hb dL_refusals_402 hl (by decide) rfl (fun ls hl => ?_)
                                              refine lv_iload hx hb dL_refusals_404 (lv_at hl 2 rfl) ?_
                                              refine lv_if_ne (tgt := 414) hx hb dL_refusals_406 (by decide) (fun c_43 => ?_) (fun c_43 => ?_)
                                              · refine lv_iload hx hb dL_refusals_414 (lv_at hl 9 rfl) ?_
                                                refine lv_istore (lv' := [(5, .int e5), (7, .int 1), (15, .int ((prF g b (nI n9)) - (g (89 + 11 * b + 2)))), (14, .int 4), (13, .int ((prF g b (nI n9)) - (g (89 + 11 * b + 2)))), (0, .ref bo), (1, .int (nI b)), (2, .int (nI n9)), (3, .int late), (4, .int (prF g b (nI n9))), (6, .int pf), (8, .int (nI (T + m2))), (9, .int dr), (10, .int kp), (11, .int (nI o)), (12, .int bf)]) hx hb dL_refusals_416 hl (by decide) rfl (fun ls hl => ?_)
                                                refine lv_iload hx hb dL_refusals_418 (lv_at hl 3 rfl) ?_
                                                refine lv_if_ne (tgt := 433) hx hb dL_refusals_420 (by decide) (fun c_44 => ?_) (fun c_44 => ?_)
                                                · refine lv_iload hx hb dL_refusals_433 (lv_at hl 10 rfl) ?_
                                                  refine lv_istore (lv' := [(6, .int pf), (5, .int e5), (7, .int 1), (15, .int ((prF g b (nI n9)) - (g (89 + 11 * b + 2)))), (14, .int 4), (13, .int ((prF g b (nI n9)) - (g (89 + 11 * b + 2)))), (0, .ref bo), (1, .int (nI b)), (2, .int (nI n9)), (3, .int late), (4, .int (prF g b (nI n9))), (8, .int (nI (T + m2))), (9, .int dr), (10, .int kp), (11, .int (nI o)), (12, .int bf)]) hx hb dL_refusals_435 hl (by decide) rfl (fun ls hl => ?_)
                                                  refine lv_iinc (v := (nI (T + m2)) + (-1)) (lv' := [(8, .int ((nI (T + m2)) + (-1))), (6, .int pf), (5, .int e5), (7, .int 1), (15, .int ((prF g b (nI n9)) - (g (89 + 11 * b + 2)))), (14, .int 4), (13, .int ((prF g b (nI n9)) - (g (89 + 11 * b + 2)))), (0, .ref bo), (1, .int (nI b)), (2, .int (nI n9)), (3, .int late), (4, .int (prF g b (nI n9))), (9, .int dr), (10, .int kp), (11, .int (nI o)), (12, .int bf)]) hx hb dL_refusals_437 hl (k := 11) rfl rfl (by decide) rfl (fun ls hl => ?_)
                                                  refine lv_goto (tgt := 76) hx hb dL_refusals_440 (by decide) ?_
                                                  exact ih_76 m2 (by omega) e5 pf n_3 _ _ _ (by omega) (hqE.trans (by rw [show 49 - n9 - m2 = (49 - n9 - (m2 + 1)) + 1 by omega]; exact (fv_f (F := eaE g L P b n9 T 30) (k := m2) (if_neg (fun z => absurd (hre.symm.trans z.2) (by decide)))).symm)) (hqF.trans (by rw [show 49 - n9 - m2 = (49 - n9 - (m2 + 1)) + 1 by omega]; exact (fv_f (F := eaE g L P b n9 T 0) (k := m2) (if_neg (fun z => absurd (hre.symm.trans z.2) (by decide)))).symm)) hM (lv_sub hl [7, 8, 9, 10, 11, 2, 1, 3, 0] rfl)
                                                · exact absurd c_44 (by decide)
                                              · exact absurd c_43 (by decide)
                                          · exact absurd c_41 (by decide)
                                  · exact absurd c_37 (by decide)
                                · exact absurd c_36 (by decide)
                              · exact absurd c_35 (by decide)
                          · have c_11q := Int32.not_lt.mp c_11
                            refine lv_iconst (v := 3) hx hb dL_refusals_274 (by decide) ?_
                            refine lv_goto (tgt := 301) hx hb dL_refusals_275 (by decide) ?_
                            have hre : reF g L P b (T + m2) n9 = 3 := by unfold reF; rw [if_neg (fun z => z ((m1c hlate (ovO hL0)).1 c_9)), if_neg (fun z => z ((m1c hdr (fpO hP0)).1 c_10))]; exact if_pos ((m1c hkp (foO hL0)).2 c_11)
                            refine lv_istore (lv' := [(14, .int 3), (13, .int ((prF g b (nI n9)) - (g (89 + 11 * b + 2)))), (0, .ref bo), (1, .int (nI b)), (2, .int (nI n9)), (3, .int late), (4, .int (prF g b (nI n9))), (5, .int e5), (6, .int pf), (7, .int 1), (8, .int (nI (T + m2))), (9, .int dr), (10, .int kp), (11, .int (nI o)), (12, .int bf)]) hx hb dL_refusals_301 hl (by decide) rfl (fun ls hl => ?_)
                            refine lv_iload hx hb dL_refusals_303 (lv_at hl 0 rfl) ?_
                            refine lv_iconst (v := 1) hx hb dL_refusals_305 (by decide) ?_
                            refine lv_icmp_ne (tgt := 313) hx hb dL_refusals_306 (by decide) (fun c_45 => ?_) (fun c_45 => ?_)
                            · refine lv_iload hx hb dL_refusals_313 (lv_at hl 0 rfl) ?_
                              refine lv_iconst (v := 2) hx hb dL_refusals_315 (by decide) ?_
                              refine lv_icmp_ne (tgt := 324) hx hb dL_refusals_316 (by decide) (fun c_46 => ?_) (fun c_46 => ?_)
                              · refine lv_iload hx hb dL_refusals_324 (lv_at hl 0 rfl) ?_
                                refine lv_iconst (v := 3) hx hb dL_refusals_326 (by decide) ?_
                                refine lv_icmp_ne (tgt := 335) hx hb dL_refusals_327 (by decide) (fun c_47 => ?_) (fun c_47 => ?_)
                                · exact absurd c_47 (by decide)
                                · refine lv_iload hx hb dL_refusals_330 (lv_at hl 12 rfl) ?_
                                  refine lv_goto (tgt := 347) hx hb dL_refusals_332 (by decide) ?_
                                  refine lv_istore (lv' := [(15, .int kp), (14, .int 3), (13, .int ((prF g b (nI n9)) - (g (89 + 11 * b + 2)))), (0, .ref bo), (1, .int (nI b)), (2, .int (nI n9)), (3, .int late), (4, .int (prF g b (nI n9))), (5, .int e5), (6, .int pf), (7, .int 1), (8, .int (nI (T + m2))), (9, .int dr), (10, .int kp), (11, .int (nI o)), (12, .int bf)]) hx hb dL_refusals_347 hl (by decide) rfl (fun ls hl => ?_)
                                  refine lv_aload_n hx hb dL_refusals_349 rfl (lv_at hl 3 rfl) ?_
                                  refine lv_iload_n hx hb dL_refusals_350 rfl (lv_at hl 4 rfl) ?_
                                  refine lv_iload hx hb dL_refusals_351 (lv_at hl 11 rfl) ?_
                                  refine lv_iload_n hx hb dL_refusals_353 rfl (lv_at hl 5 rfl) ?_
                                  refine me_callSnp (nA := 4) (As := [.ref bo, .int (nI b), .int (nI (T + m2)), .int (nI n9)]) (rest := []) hC hl.1 hM (c_L_refused (mc := 0) (ms := 0) l D tb X z0 nS bo (nI b) (nI (T + m2)) (nI n9) rfl rfl ⟨Nat.le_of_ble_eq_true rfl, Nat.le_of_ble_eq_true rfl⟩ (bq_at h_b) (c_X7_refusal l D tb X z0 nS bo g G F sf inp out M0 S B L P T b (T + m2) n9 hW hT hT0 (by omega) (by omega) (by omega) (by omega) (by omega))) w_1239 w_1240 w_0 w_1241 (by decide +kernel) rfl rfl ⟨Nat.le_of_ble_eq_true rfl, Nat.le_of_ble_eq_true rfl⟩ rfl rfl (Nat.le_of_ble_eq_true rfl) dL_refusals_354 ⟨Nat.le_of_ble_eq_true rfl, Nat.le_of_ble_eq_true rfl⟩ (fun r_4 M_4 hP_4 H locs n_4 hM => ?_)
                                  obtain ⟨rfl, rfl⟩ := hP_4
                                  refine me_evi (y := 3) hre ?_
                                  refine lv_iload hx hb dL_refusals_357 (lv_at hl 1 rfl) ?_
                                  refine lv_icmp_ne (tgt := 401) hx hb dL_refusals_359 (by decide) (fun c_48 => ?_) (fun c_48 => ?_)
                                  · exact absurd c_48 (by decide)
                                  · refine lv_aload_n hx hb dL_refusals_362 rfl (lv_at hl 3 rfl) ?_
                                    refine lv_iload_n hx hb dL_refusals_363 rfl (lv_at hl 4 rfl) ?_
                                    refine lv_iload hx hb dL_refusals_364 (lv_at hl 11 rfl) ?_
                                    refine lv_iload_n hx hb dL_refusals_366 rfl (lv_at hl 5 rfl) ?_
                                    refine me_callVi (As := [.int (nI b), .int (nI (T + m2)), .int (nI n9)]) (rest := []) hC hl.1 hM (c_X7_refusalCause l D tb X z0 n_4 bo g G F sf inp out M0 S B L P T b (T + m2) n9 hW hT hT0 (by omega) (by omega) (by omega) (by omega) (by omega)) (kv_L_186 hw rfl rfl ⟨Nat.le_of_ble_eq_true rfl, Nat.le_of_ble_eq_true rfl⟩) rfl rfl (bq_at h_b) rfl (Nat.le_of_ble_eq_true rfl) dL_refusals_367 ⟨Nat.le_of_ble_eq_true rfl, Nat.le_of_ble_eq_true rfl⟩ (fun H locs hM => ?_)
                                    refine me_evi (y := kp) (by unfold cauF; rw [if_neg (fun z => absurd (hre.symm.trans z) (by decide)), if_neg (fun z => absurd (hre.symm.trans z) (by decide)), if_pos hre]; exact hkp.symm) ?_
                                    refine lv_iload hx hb dL_refusals_370 (lv_at hl 0 rfl) ?_
                                    refine lv_icmp_ne (tgt := 401) hx hb dL_refusals_372 (by decide) (fun c_49 => ?_) (fun c_49 => ?_)
                                    · exact absurd rfl c_49
                                    · refine lv_aload_n hx hb dL_refusals_375 rfl (lv_at hl 3 rfl) ?_
                                      refine lv_iload_n hx hb dL_refusals_376 rfl (lv_at hl 4 rfl) ?_
                                      refine lv_iload hx hb dL_refusals_377 (lv_at hl 11 rfl) ?_
                                      refine lv_iload_n hx hb dL_refusals_379 rfl (lv_at hl 5 rfl) ?_
                                      refine me_callVi (As := [.int (nI b), .int (nI (T + m2)), .int (nI n9)]) (rest := []) hC hl.1 hM (c_X7_displacedBy l D tb X z0 n_4 bo g G F sf inp out M0 S B L P T b (T + m2) n9 hW hT hT0 (by omega) (by omega) (by omega) (by omega) (by omega)) (kv_L_189 hw rfl rfl ⟨Nat.le_of_ble_eq_true rfl, Nat.le_of_ble_eq_true rfl⟩) rfl rfl (bq_at h_b) rfl (Nat.le_of_ble_eq_true rfl) dL_refusals_380 ⟨Nat.le_of_ble_eq_true rfl, Nat.le_of_ble_eq_true rfl⟩ (fun H locs hM => ?_)
                                      refine me_evi (y := (-1)) (by unfold dispF; exact if_neg (fun z => absurd (hre.symm.trans z) (by decide))) ?_
                                      refine lv_iload hx hb dL_refusals_383 (lv_at hl 1 rfl) ?_
                                      refine lv_if_ne (tgt := 393) hx hb dL_refusals_385 (by decide) (fun c_50 => ?_) (fun c_50 => ?_)
                                      · refine lv_iconst (v := (-1)) hx hb dL_refusals_393 (by decide) ?_
                                        refine lv_icmp_ne (tgt := 401) hx hb dL_refusals_394 (by decide) (fun c_51 => ?_) (fun c_51 => ?_)
                                        · exact absurd c_51 (by decide)
                                        · refine lv_iconst (v := 1) hx hb dL_refusals_397 (by decide) ?_
                                          refine lv_goto (tgt := 402) hx hb dL_refusals_398 (by decide) ?_
                                          refine lv_istore (lv' := [(7, .int 1), (15, .int kp), (14, .int 3), (13, .int ((prF g b (nI n9)) - (g (89 + 11 * b + 2)))), (0, .ref bo), (1, .int (nI b)), (2, .int (nI n9)), (3, .int late), (4, .int (prF g b (nI n9))), (5, .int e5), (6, .int pf), (8, .int (nI (T + m2))), (9, .int dr), (10, .int kp), (11, .int (nI o)), (12, .int bf)]) hx hb dL_refusals_402 hl (by decide) rfl (fun ls hl => ?_)
                                          refine lv_iload hx hb dL_refusals_404 (lv_at hl 2 rfl) ?_
                                          refine lv_if_ne (tgt := 414) hx hb dL_refusals_406 (by decide) (fun c_52 => ?_) (fun c_52 => ?_)
                                          · refine lv_iload hx hb dL_refusals_414 (lv_at hl 9 rfl) ?_
                                            refine lv_istore (lv' := [(5, .int e5), (7, .int 1), (15, .int kp), (14, .int 3), (13, .int ((prF g b (nI n9)) - (g (89 + 11 * b + 2)))), (0, .ref bo), (1, .int (nI b)), (2, .int (nI n9)), (3, .int late), (4, .int (prF g b (nI n9))), (6, .int pf), (8, .int (nI (T + m2))), (9, .int dr), (10, .int kp), (11, .int (nI o)), (12, .int bf)]) hx hb dL_refusals_416 hl (by decide) rfl (fun ls hl => ?_)
                                            refine lv_iload hx hb dL_refusals_418 (lv_at hl 3 rfl) ?_
                                            refine lv_if_ne (tgt := 433) hx hb dL_refusals_420 (by decide) (fun c_53 => ?_) (fun c_53 => ?_)
                                            · refine lv_iload hx hb dL_refusals_433 (lv_at hl 10 rfl) ?_
                                              refine lv_istore (lv' := [(6, .int pf), (5, .int e5), (7, .int 1), (15, .int kp), (14, .int 3), (13, .int ((prF g b (nI n9)) - (g (89 + 11 * b + 2)))), (0, .ref bo), (1, .int (nI b)), (2, .int (nI n9)), (3, .int late), (4, .int (prF g b (nI n9))), (8, .int (nI (T + m2))), (9, .int dr), (10, .int kp), (11, .int (nI o)), (12, .int bf)]) hx hb dL_refusals_435 hl (by decide) rfl (fun ls hl => ?_)
                                              refine lv_iinc (v := (nI (T + m2)) + (-1)) (lv' := [(8, .int ((nI (T + m2)) + (-1))), (6, .int pf), (5, .int e5), (7, .int 1), (15, .int kp), (14, .int 3), (13, .int ((prF g b (nI n9)) - (g (89 + 11 * b + 2)))), (0, .ref bo), (1, .int (nI b)), (2, .int (nI n9)), (3, .int late), (4, .int (prF g b (nI n9))), (9, .int dr), (10, .int kp), (11, .int (nI o)), (12, .int bf)]) hx hb dL_refusals_437 hl (k := 11) rfl rfl (by decide) rfl (fun ls hl => ?_)
                                              refine lv_goto (tgt := 76) hx hb dL_refusals_440 (by decide) ?_
                                              exact ih_76 m2 (by omega) e5 pf n_4 _ _ _ (by omega) (hqE.trans (by rw [show 49 - n9 - m2 = (49 - n9 - (m2 + 1)) + 1 by omega]; exact (fv_f (F := eaE g L P b n9 T 30) (k := m2) (if_neg (fun z => absurd (hre.symm.trans z.2) (by decide)))).symm)) (hqF.trans (by rw [show 49 - n9 - m2 = (49 - n9 - (m2 + 1)) + 1 by omega]; exact (fv_f (F := eaE g L P b n9 T 0) (k := m2) (if_neg (fun z => absurd (hre.symm.trans z.2) (by decide)))).symm)) hM (lv_sub hl [7, 8, 9, 10, 11, 2, 1, 3, 0] rfl)
                                            · exact absurd c_53 (by decide)
                                          · exact absurd c_52 (by decide)
                                      · exact absurd c_50 (by decide)
                              · exact absurd c_46 (by decide)
                            · exact absurd c_45 (by decide)
                        · have c_10q := Int32.not_lt.mp c_10
                          refine lv_iconst (v := 2) hx hb dL_refusals_265 (by decide) ?_
                          refine lv_goto (tgt := 301) hx hb dL_refusals_266 (by decide) ?_
                          have hre : reF g L P b (T + m2) n9 = 2 := by unfold reF; rw [if_neg (fun z => z ((m1c hlate (ovO hL0)).1 c_9))]; exact if_pos ((m1c hdr (fpO hP0)).2 c_10)
                          refine lv_istore (lv' := [(14, .int 2), (13, .int ((prF g b (nI n9)) - (g (89 + 11 * b + 2)))), (0, .ref bo), (1, .int (nI b)), (2, .int (nI n9)), (3, .int late), (4, .int (prF g b (nI n9))), (5, .int e5), (6, .int pf), (7, .int 1), (8, .int (nI (T + m2))), (9, .int dr), (10, .int kp), (11, .int (nI o)), (12, .int bf)]) hx hb dL_refusals_301 hl (by decide) rfl (fun ls hl => ?_)
                          refine lv_iload hx hb dL_refusals_303 (lv_at hl 0 rfl) ?_
                          refine lv_iconst (v := 1) hx hb dL_refusals_305 (by decide) ?_
                          refine lv_icmp_ne (tgt := 313) hx hb dL_refusals_306 (by decide) (fun c_54 => ?_) (fun c_54 => ?_)
                          · refine lv_iload hx hb dL_refusals_313 (lv_at hl 0 rfl) ?_
                            refine lv_iconst (v := 2) hx hb dL_refusals_315 (by decide) ?_
                            refine lv_icmp_ne (tgt := 324) hx hb dL_refusals_316 (by decide) (fun c_55 => ?_) (fun c_55 => ?_)
                            · exact absurd c_55 (by decide)
                            · refine lv_iload hx hb dL_refusals_319 (lv_at hl 11 rfl) ?_
                              refine lv_goto (tgt := 347) hx hb dL_refusals_321 (by decide) ?_
                              refine lv_istore (lv' := [(15, .int dr), (14, .int 2), (13, .int ((prF g b (nI n9)) - (g (89 + 11 * b + 2)))), (0, .ref bo), (1, .int (nI b)), (2, .int (nI n9)), (3, .int late), (4, .int (prF g b (nI n9))), (5, .int e5), (6, .int pf), (7, .int 1), (8, .int (nI (T + m2))), (9, .int dr), (10, .int kp), (11, .int (nI o)), (12, .int bf)]) hx hb dL_refusals_347 hl (by decide) rfl (fun ls hl => ?_)
                              refine lv_aload_n hx hb dL_refusals_349 rfl (lv_at hl 3 rfl) ?_
                              refine lv_iload_n hx hb dL_refusals_350 rfl (lv_at hl 4 rfl) ?_
                              refine lv_iload hx hb dL_refusals_351 (lv_at hl 11 rfl) ?_
                              refine lv_iload_n hx hb dL_refusals_353 rfl (lv_at hl 5 rfl) ?_
                              refine me_callSnp (nA := 4) (As := [.ref bo, .int (nI b), .int (nI (T + m2)), .int (nI n9)]) (rest := []) hC hl.1 hM (c_L_refused (mc := 0) (ms := 0) l D tb X z0 nS bo (nI b) (nI (T + m2)) (nI n9) rfl rfl ⟨Nat.le_of_ble_eq_true rfl, Nat.le_of_ble_eq_true rfl⟩ (bq_at h_b) (c_X7_refusal l D tb X z0 nS bo g G F sf inp out M0 S B L P T b (T + m2) n9 hW hT hT0 (by omega) (by omega) (by omega) (by omega) (by omega))) w_1239 w_1240 w_0 w_1241 (by decide +kernel) rfl rfl ⟨Nat.le_of_ble_eq_true rfl, Nat.le_of_ble_eq_true rfl⟩ rfl rfl (Nat.le_of_ble_eq_true rfl) dL_refusals_354 ⟨Nat.le_of_ble_eq_true rfl, Nat.le_of_ble_eq_true rfl⟩ (fun r_5 M_5 hP_5 H locs n_5 hM => ?_)
                              obtain ⟨rfl, rfl⟩ := hP_5
                              refine me_evi (y := 2) hre ?_
                              refine lv_iload hx hb dL_refusals_357 (lv_at hl 1 rfl) ?_
                              refine lv_icmp_ne (tgt := 401) hx hb dL_refusals_359 (by decide) (fun c_56 => ?_) (fun c_56 => ?_)
                              · exact absurd c_56 (by decide)
                              · refine lv_aload_n hx hb dL_refusals_362 rfl (lv_at hl 3 rfl) ?_
                                refine lv_iload_n hx hb dL_refusals_363 rfl (lv_at hl 4 rfl) ?_
                                refine lv_iload hx hb dL_refusals_364 (lv_at hl 11 rfl) ?_
                                refine lv_iload_n hx hb dL_refusals_366 rfl (lv_at hl 5 rfl) ?_
                                refine me_callVi (As := [.int (nI b), .int (nI (T + m2)), .int (nI n9)]) (rest := []) hC hl.1 hM (c_X7_refusalCause l D tb X z0 n_5 bo g G F sf inp out M0 S B L P T b (T + m2) n9 hW hT hT0 (by omega) (by omega) (by omega) (by omega) (by omega)) (kv_L_186 hw rfl rfl ⟨Nat.le_of_ble_eq_true rfl, Nat.le_of_ble_eq_true rfl⟩) rfl rfl (bq_at h_b) rfl (Nat.le_of_ble_eq_true rfl) dL_refusals_367 ⟨Nat.le_of_ble_eq_true rfl, Nat.le_of_ble_eq_true rfl⟩ (fun H locs hM => ?_)
                                refine me_evi (y := dr) (by unfold cauF; rw [if_neg (fun z => absurd (hre.symm.trans z) (by decide)), if_pos hre]; exact hdr.symm) ?_
                                refine lv_iload hx hb dL_refusals_370 (lv_at hl 0 rfl) ?_
                                refine lv_icmp_ne (tgt := 401) hx hb dL_refusals_372 (by decide) (fun c_57 => ?_) (fun c_57 => ?_)
                                · exact absurd rfl c_57
                                · refine lv_aload_n hx hb dL_refusals_375 rfl (lv_at hl 3 rfl) ?_
                                  refine lv_iload_n hx hb dL_refusals_376 rfl (lv_at hl 4 rfl) ?_
                                  refine lv_iload hx hb dL_refusals_377 (lv_at hl 11 rfl) ?_
                                  refine lv_iload_n hx hb dL_refusals_379 rfl (lv_at hl 5 rfl) ?_
                                  refine me_callVi (As := [.int (nI b), .int (nI (T + m2)), .int (nI n9)]) (rest := []) hC hl.1 hM (c_X7_displacedBy l D tb X z0 n_5 bo g G F sf inp out M0 S B L P T b (T + m2) n9 hW hT hT0 (by omega) (by omega) (by omega) (by omega) (by omega)) (kv_L_189 hw rfl rfl ⟨Nat.le_of_ble_eq_true rfl, Nat.le_of_ble_eq_true rfl⟩) rfl rfl (bq_at h_b) rfl (Nat.le_of_ble_eq_true rfl) dL_refusals_380 ⟨Nat.le_of_ble_eq_true rfl, Nat.le_of_ble_eq_true rfl⟩ (fun H locs hM => ?_)
                                  refine me_evi (y := (-1)) (by unfold dispF; exact if_neg (fun z => absurd (hre.symm.trans z) (by decide))) ?_
                                  refine lv_iload hx hb dL_refusals_383 (lv_at hl 1 rfl) ?_
                                  refine lv_if_ne (tgt := 393) hx hb dL_refusals_385 (by decide) (fun c_58 => ?_) (fun c_58 => ?_)
                                  · refine lv_iconst (v := (-1)) hx hb dL_refusals_393 (by decide) ?_
                                    refine lv_icmp_ne (tgt := 401) hx hb dL_refusals_394 (by decide) (fun c_59 => ?_) (fun c_59 => ?_)
                                    · exact absurd c_59 (by decide)
                                    · refine lv_iconst (v := 1) hx hb dL_refusals_397 (by decide) ?_
                                      refine lv_goto (tgt := 402) hx hb dL_refusals_398 (by decide) ?_
                                      refine lv_istore (lv' := [(7, .int 1), (15, .int dr), (14, .int 2), (13, .int ((prF g b (nI n9)) - (g (89 + 11 * b + 2)))), (0, .ref bo), (1, .int (nI b)), (2, .int (nI n9)), (3, .int late), (4, .int (prF g b (nI n9))), (5, .int e5), (6, .int pf), (8, .int (nI (T + m2))), (9, .int dr), (10, .int kp), (11, .int (nI o)), (12, .int bf)]) hx hb dL_refusals_402 hl (by decide) rfl (fun ls hl => ?_)
                                      refine lv_iload hx hb dL_refusals_404 (lv_at hl 2 rfl) ?_
                                      refine lv_if_ne (tgt := 414) hx hb dL_refusals_406 (by decide) (fun c_60 => ?_) (fun c_60 => ?_)
                                      · refine lv_iload hx hb dL_refusals_414 (lv_at hl 9 rfl) ?_
                                        refine lv_istore (lv' := [(5, .int e5), (7, .int 1), (15, .int dr), (14, .int 2), (13, .int ((prF g b (nI n9)) - (g (89 + 11 * b + 2)))), (0, .ref bo), (1, .int (nI b)), (2, .int (nI n9)), (3, .int late), (4, .int (prF g b (nI n9))), (6, .int pf), (8, .int (nI (T + m2))), (9, .int dr), (10, .int kp), (11, .int (nI o)), (12, .int bf)]) hx hb dL_refusals_416 hl (by decide) rfl (fun ls hl => ?_)
                                        refine lv_iload hx hb dL_refusals_418 (lv_at hl 3 rfl) ?_
                                        refine lv_if_ne (tgt := 433) hx hb dL_refusals_420 (by decide) (fun c_61 => ?_) (fun c_61 => ?_)
                                        · refine lv_iload hx hb dL_refusals_433 (lv_at hl 10 rfl) ?_
                                          refine lv_istore (lv' := [(6, .int pf), (5, .int e5), (7, .int 1), (15, .int dr), (14, .int 2), (13, .int ((prF g b (nI n9)) - (g (89 + 11 * b + 2)))), (0, .ref bo), (1, .int (nI b)), (2, .int (nI n9)), (3, .int late), (4, .int (prF g b (nI n9))), (8, .int (nI (T + m2))), (9, .int dr), (10, .int kp), (11, .int (nI o)), (12, .int bf)]) hx hb dL_refusals_435 hl (by decide) rfl (fun ls hl => ?_)
                                          refine lv_iinc (v := (nI (T + m2)) + (-1)) (lv' := [(8, .int ((nI (T + m2)) + (-1))), (6, .int pf), (5, .int e5), (7, .int 1), (15, .int dr), (14, .int 2), (13, .int ((prF g b (nI n9)) - (g (89 + 11 * b + 2)))), (0, .ref bo), (1, .int (nI b)), (2, .int (nI n9)), (3, .int late), (4, .int (prF g b (nI n9))), (9, .int dr), (10, .int kp), (11, .int (nI o)), (12, .int bf)]) hx hb dL_refusals_437 hl (k := 11) rfl rfl (by decide) rfl (fun ls hl => ?_)
                                          refine lv_goto (tgt := 76) hx hb dL_refusals_440 (by decide) ?_
                                          exact ih_76 m2 (by omega) e5 pf n_5 _ _ _ (by omega) (hqE.trans (by rw [show 49 - n9 - m2 = (49 - n9 - (m2 + 1)) + 1 by omega]; exact (fv_f (F := eaE g L P b n9 T 30) (k := m2) (if_neg (fun z => absurd (hre.symm.trans z.2) (by decide)))).symm)) (hqF.trans (by rw [show 49 - n9 - m2 = (49 - n9 - (m2 + 1)) + 1 by omega]; exact (fv_f (F := eaE g L P b n9 T 0) (k := m2) (if_neg (fun z => absurd (hre.symm.trans z.2) (by decide)))).symm)) hM (lv_sub hl [7, 8, 9, 10, 11, 2, 1, 3, 0] rfl)
                                        · exact absurd c_61 (by decide)
                                      · exact absurd c_60 (by decide)
                                  · exact absurd c_58 (by decide)
                          · exact absurd c_54 (by decide)
                      · have c_9q := Int32.not_lt.mp c_9
                        refine lv_iconst (v := 1) hx hb dL_refusals_256 (by decide) ?_
                        refine lv_goto (tgt := 301) hx hb dL_refusals_257 (by decide) ?_
                        have hre : reF g L P b (T + m2) n9 = 1 := by unfold reF; exact if_pos ((m1c hlate (ovO hL0)).2 c_9)
                        refine lv_istore (lv' := [(14, .int 1), (13, .int ((prF g b (nI n9)) - (g (89 + 11 * b + 2)))), (0, .ref bo), (1, .int (nI b)), (2, .int (nI n9)), (3, .int late), (4, .int (prF g b (nI n9))), (5, .int e5), (6, .int pf), (7, .int 1), (8, .int (nI (T + m2))), (9, .int dr), (10, .int kp), (11, .int (nI o)), (12, .int bf)]) hx hb dL_refusals_301 hl (by decide) rfl (fun ls hl => ?_)
                        refine lv_iload hx hb dL_refusals_303 (lv_at hl 0 rfl) ?_
                        refine lv_iconst (v := 1) hx hb dL_refusals_305 (by decide) ?_
                        refine lv_icmp_ne (tgt := 313) hx hb dL_refusals_306 (by decide) (fun c_62 => ?_) (fun c_62 => ?_)
                        · exact absurd c_62 (by decide)
                        · refine lv_iload_n hx hb dL_refusals_309 rfl (lv_at hl 5 rfl) ?_
                          refine lv_goto (tgt := 347) hx hb dL_refusals_310 (by decide) ?_
                          refine lv_istore (lv' := [(15, .int late), (14, .int 1), (13, .int ((prF g b (nI n9)) - (g (89 + 11 * b + 2)))), (0, .ref bo), (1, .int (nI b)), (2, .int (nI n9)), (3, .int late), (4, .int (prF g b (nI n9))), (5, .int e5), (6, .int pf), (7, .int 1), (8, .int (nI (T + m2))), (9, .int dr), (10, .int kp), (11, .int (nI o)), (12, .int bf)]) hx hb dL_refusals_347 hl (by decide) rfl (fun ls hl => ?_)
                          refine lv_aload_n hx hb dL_refusals_349 rfl (lv_at hl 3 rfl) ?_
                          refine lv_iload_n hx hb dL_refusals_350 rfl (lv_at hl 4 rfl) ?_
                          refine lv_iload hx hb dL_refusals_351 (lv_at hl 11 rfl) ?_
                          refine lv_iload_n hx hb dL_refusals_353 rfl (lv_at hl 5 rfl) ?_
                          refine me_callSnp (nA := 4) (As := [.ref bo, .int (nI b), .int (nI (T + m2)), .int (nI n9)]) (rest := []) hC hl.1 hM (c_L_refused (mc := 0) (ms := 0) l D tb X z0 nS bo (nI b) (nI (T + m2)) (nI n9) rfl rfl ⟨Nat.le_of_ble_eq_true rfl, Nat.le_of_ble_eq_true rfl⟩ (bq_at h_b) (c_X7_refusal l D tb X z0 nS bo g G F sf inp out M0 S B L P T b (T + m2) n9 hW hT hT0 (by omega) (by omega) (by omega) (by omega) (by omega))) w_1239 w_1240 w_0 w_1241 (by decide +kernel) rfl rfl ⟨Nat.le_of_ble_eq_true rfl, Nat.le_of_ble_eq_true rfl⟩ rfl rfl (Nat.le_of_ble_eq_true rfl) dL_refusals_354 ⟨Nat.le_of_ble_eq_true rfl, Nat.le_of_ble_eq_true rfl⟩ (fun r_6 M_6 hP_6 H locs n_6 hM => ?_)
                          obtain ⟨rfl, rfl⟩ := hP_6
                          refine me_evi (y := 1) hre ?_
                          refine lv_iload hx hb dL_refusals_357 (lv_at hl 1 rfl) ?_
                          refine lv_icmp_ne (tgt := 401) hx hb dL_refusals_359 (by decide) (fun c_63 => ?_) (fun c_63 => ?_)
                          · exact absurd c_63 (by decide)
                          · refine lv_aload_n hx hb dL_refusals_362 rfl (lv_at hl 3 rfl) ?_
                            refine lv_iload_n hx hb dL_refusals_363 rfl (lv_at hl 4 rfl) ?_
                            refine lv_iload hx hb dL_refusals_364 (lv_at hl 11 rfl) ?_
                            refine lv_iload_n hx hb dL_refusals_366 rfl (lv_at hl 5 rfl) ?_
                            refine me_callVi (As := [.int (nI b), .int (nI (T + m2)), .int (nI n9)]) (rest := []) hC hl.1 hM (c_X7_refusalCause l D tb X z0 n_6 bo g G F sf inp out M0 S B L P T b (T + m2) n9 hW hT hT0 (by omega) (by omega) (by omega) (by omega) (by omega)) (kv_L_186 hw rfl rfl ⟨Nat.le_of_ble_eq_true rfl, Nat.le_of_ble_eq_true rfl⟩) rfl rfl (bq_at h_b) rfl (Nat.le_of_ble_eq_true rfl) dL_refusals_367 ⟨Nat.le_of_ble_eq_true rfl, Nat.le_of_ble_eq_true rfl⟩ (fun H locs hM => ?_)
                            refine me_evi (y := late) (by unfold cauF; rw [if_pos hre]; exact hlate.symm) ?_
                            refine lv_iload hx hb dL_refusals_370 (lv_at hl 0 rfl) ?_
                            refine lv_icmp_ne (tgt := 401) hx hb dL_refusals_372 (by decide) (fun c_64 => ?_) (fun c_64 => ?_)
                            · exact absurd rfl c_64
                            · refine lv_aload_n hx hb dL_refusals_375 rfl (lv_at hl 3 rfl) ?_
                              refine lv_iload_n hx hb dL_refusals_376 rfl (lv_at hl 4 rfl) ?_
                              refine lv_iload hx hb dL_refusals_377 (lv_at hl 11 rfl) ?_
                              refine lv_iload_n hx hb dL_refusals_379 rfl (lv_at hl 5 rfl) ?_
                              refine me_callVi (As := [.int (nI b), .int (nI (T + m2)), .int (nI n9)]) (rest := []) hC hl.1 hM (c_X7_displacedBy l D tb X z0 n_6 bo g G F sf inp out M0 S B L P T b (T + m2) n9 hW hT hT0 (by omega) (by omega) (by omega) (by omega) (by omega)) (kv_L_189 hw rfl rfl ⟨Nat.le_of_ble_eq_true rfl, Nat.le_of_ble_eq_true rfl⟩) rfl rfl (bq_at h_b) rfl (Nat.le_of_ble_eq_true rfl) dL_refusals_380 ⟨Nat.le_of_ble_eq_true rfl, Nat.le_of_ble_eq_true rfl⟩ (fun H locs hM => ?_)
                              refine me_evi (y := (-1)) (by unfold dispF; exact if_neg (fun z => absurd (hre.symm.trans z) (by decide))) ?_
                              refine lv_iload hx hb dL_refusals_383 (lv_at hl 1 rfl) ?_
                              refine lv_if_ne (tgt := 393) hx hb dL_refusals_385 (by decide) (fun c_65 => ?_) (fun c_65 => ?_)
                              · refine lv_iconst (v := (-1)) hx hb dL_refusals_393 (by decide) ?_
                                refine lv_icmp_ne (tgt := 401) hx hb dL_refusals_394 (by decide) (fun c_66 => ?_) (fun c_66 => ?_)
                                · exact absurd c_66 (by decide)
                                · refine lv_iconst (v := 1) hx hb dL_refusals_397 (by decide) ?_
                                  refine lv_goto (tgt := 402) hx hb dL_refusals_398 (by decide) ?_
                                  refine lv_istore (lv' := [(7, .int 1), (15, .int late), (14, .int 1), (13, .int ((prF g b (nI n9)) - (g (89 + 11 * b + 2)))), (0, .ref bo), (1, .int (nI b)), (2, .int (nI n9)), (3, .int late), (4, .int (prF g b (nI n9))), (5, .int e5), (6, .int pf), (8, .int (nI (T + m2))), (9, .int dr), (10, .int kp), (11, .int (nI o)), (12, .int bf)]) hx hb dL_refusals_402 hl (by decide) rfl (fun ls hl => ?_)
                                  refine lv_iload hx hb dL_refusals_404 (lv_at hl 2 rfl) ?_
                                  refine lv_if_ne (tgt := 414) hx hb dL_refusals_406 (by decide) (fun c_67 => ?_) (fun c_67 => ?_)
                                  · refine lv_iload hx hb dL_refusals_414 (lv_at hl 9 rfl) ?_
                                    refine lv_istore (lv' := [(5, .int e5), (7, .int 1), (15, .int late), (14, .int 1), (13, .int ((prF g b (nI n9)) - (g (89 + 11 * b + 2)))), (0, .ref bo), (1, .int (nI b)), (2, .int (nI n9)), (3, .int late), (4, .int (prF g b (nI n9))), (6, .int pf), (8, .int (nI (T + m2))), (9, .int dr), (10, .int kp), (11, .int (nI o)), (12, .int bf)]) hx hb dL_refusals_416 hl (by decide) rfl (fun ls hl => ?_)
                                    refine lv_iload hx hb dL_refusals_418 (lv_at hl 3 rfl) ?_
                                    refine lv_if_ne (tgt := 433) hx hb dL_refusals_420 (by decide) (fun c_68 => ?_) (fun c_68 => ?_)
                                    · refine lv_iload hx hb dL_refusals_433 (lv_at hl 10 rfl) ?_
                                      refine lv_istore (lv' := [(6, .int pf), (5, .int e5), (7, .int 1), (15, .int late), (14, .int 1), (13, .int ((prF g b (nI n9)) - (g (89 + 11 * b + 2)))), (0, .ref bo), (1, .int (nI b)), (2, .int (nI n9)), (3, .int late), (4, .int (prF g b (nI n9))), (8, .int (nI (T + m2))), (9, .int dr), (10, .int kp), (11, .int (nI o)), (12, .int bf)]) hx hb dL_refusals_435 hl (by decide) rfl (fun ls hl => ?_)
                                      refine lv_iinc (v := (nI (T + m2)) + (-1)) (lv' := [(8, .int ((nI (T + m2)) + (-1))), (6, .int pf), (5, .int e5), (7, .int 1), (15, .int late), (14, .int 1), (13, .int ((prF g b (nI n9)) - (g (89 + 11 * b + 2)))), (0, .ref bo), (1, .int (nI b)), (2, .int (nI n9)), (3, .int late), (4, .int (prF g b (nI n9))), (9, .int dr), (10, .int kp), (11, .int (nI o)), (12, .int bf)]) hx hb dL_refusals_437 hl (k := 11) rfl rfl (by decide) rfl (fun ls hl => ?_)
                                      refine lv_goto (tgt := 76) hx hb dL_refusals_440 (by decide) ?_
                                      exact ih_76 m2 (by omega) e5 pf n_6 _ _ _ (by omega) (hqE.trans (by rw [show 49 - n9 - m2 = (49 - n9 - (m2 + 1)) + 1 by omega]; exact (fv_f (F := eaE g L P b n9 T 30) (k := m2) (if_neg (fun z => absurd (hre.symm.trans z.2) (by decide)))).symm)) (hqF.trans (by rw [show 49 - n9 - m2 = (49 - n9 - (m2 + 1)) + 1 by omega]; exact (fv_f (F := eaE g L P b n9 T 0) (k := m2) (if_neg (fun z => absurd (hre.symm.trans z.2) (by decide)))).symm)) hM (lv_sub hl [7, 8, 9, 10, 11, 2, 1, 3, 0] rfl)
                                    · exact absurd c_68 (by decide)
                                  · exact absurd c_67 (by decide)
                              · exact absurd c_65 (by decide)
                    · have c_8q := Int32.not_lt.mp c_8
                      exact absurd (tm1 (by omega)) c_8
                  · skip
                    refine me_evi (y := nI (T + m2 + m3)) (pk_m1 (T + m2 + m3)) ?_
                    rw [show nI (T + m2 + (m3 + 1)) + (-1) = nI (T + m2 + m3) from pk_m1 (T + m2 + m3)] at hl
                    refine lv_iload hx hb dL_refusals_112 (lv_at hl 8 rfl) ?_
                    refine lv_icmp_lt (tgt := 242) hx hb dL_refusals_114 (by decide) (fun c_69 => ?_) (fun c_69 => ?_)
                    · have c_69 := (br_lt rfl rfl (by omega) (by omega)).mp c_69
                      exfalso; omega
                    · have c_69 := (not_congr (br_lt rfl rfl (by omega) (by omega))).mp c_69
                      refine lv_aload_n hx hb dL_refusals_117 rfl (lv_at hl 0 rfl) ?_
                      refine lv_aload_n hx hb dL_refusals_118 rfl (lv_at hl 0 rfl) ?_
                      refine lv_iload_n hx hb dL_refusals_119 rfl (lv_at hl 1 rfl) ?_
                      refine me_callVi (As := [.int (nI b)]) (rest := [.ref bo]) hC hl.1 hM (c_X7_streetOf l D tb X z0 nS bo g G F sf inp out M0 S B L P b hW (by omega)) (kv_L_128 hw rfl rfl ⟨Nat.le_of_ble_eq_true rfl, Nat.le_of_ble_eq_true rfl⟩) rfl rfl (bq_at h_b) rfl (Nat.le_of_ble_eq_true rfl) dL_refusals_120 ⟨Nat.le_of_ble_eq_true rfl, Nat.le_of_ble_eq_true rfl⟩ (fun H locs hM => ?_)
                      refine me_evi (y := nI (hm g b)) (hwb b hb9).1 ?_
                      refine lv_iload hx hb dL_refusals_123 (lv_at hl 13 rfl) ?_
                      refine me_callVi (As := [.int (nI (hm g b)), .int (nI (T + m2 + m3))]) (rest := []) hC hl.1 hM (c_X7_permitFor l D tb X z0 nS bo g G F sf inp out M0 S B L P T (hm g b) (T + m2 + m3) hW hT hT0 (by omega) (by omega) (by omega)) (kv_L_155 hw rfl rfl ⟨Nat.le_of_ble_eq_true rfl, Nat.le_of_ble_eq_true rfl⟩) rfl rfl (bq_at h_b) rfl (Nat.le_of_ble_eq_true rfl) dL_refusals_125 ⟨Nat.le_of_ble_eq_true rfl, Nat.le_of_ble_eq_true rfl⟩ (fun H locs hM => ?_)
                      refine lv_istore (lv' := [(14, .int (peF g P (nI (hm g b)) (nI (T + m2 + m3)))), (0, .ref bo), (1, .int (nI b)), (2, .int (nI n9)), (3, .int late), (4, .int (prF g b (nI n9))), (5, .int e5), (6, .int pf), (7, .int 1), (8, .int (nI (T + m2))), (9, .int dr), (10, .int kp), (11, .int (nI o)), (12, .int bf), (13, .int (nI (T + m2 + m3)))]) hx hb dL_refusals_128 hl (by decide) rfl (fun ls hl => ?_)
                      refine lv_aload_n hx hb dL_refusals_130 rfl (lv_at hl 1 rfl) ?_
                      refine lv_iload hx hb dL_refusals_131 (lv_at hl 14 rfl) ?_
                      refine me_callVi (As := [.int (nI (T + m2 + m3))]) (rest := []) hC hl.1 hM (c_X7_holderOf l D tb X z0 nS bo g G F sf inp out M0 S B L P T (T + m2 + m3) hW hT hT0 (by omega) (by omega)) (kv_L_165 hw rfl rfl ⟨Nat.le_of_ble_eq_true rfl, Nat.le_of_ble_eq_true rfl⟩) rfl rfl (bq_at h_b) rfl (Nat.le_of_ble_eq_true rfl) dL_refusals_133 ⟨Nat.le_of_ble_eq_true rfl, Nat.le_of_ble_eq_true rfl⟩ (fun H locs hM => ?_)
                      obtain ⟨yh, hyh⟩ : ∃ yh, hoF g L (nI (T + m2 + m3)) = yh := ⟨_, rfl⟩
                      refine me_evi (y := yh) hyh ?_
                      rcases hoC (by omega) hyh.symm with rfl | ⟨j, hj, rfl⟩
                      · skip
                        refine lv_istore (lv' := [(15, .int (-1)), (14, .int (peF g P (nI (hm g b)) (nI (T + m2 + m3)))), (0, .ref bo), (1, .int (nI b)), (2, .int (nI n9)), (3, .int late), (4, .int (prF g b (nI n9))), (5, .int e5), (6, .int pf), (7, .int 1), (8, .int (nI (T + m2))), (9, .int dr), (10, .int kp), (11, .int (nI o)), (12, .int bf), (13, .int (nI (T + m2 + m3)))]) hx hb dL_refusals_136 hl (by decide) rfl (fun ls hl => ?_)
                        refine lv_iload hx hb dL_refusals_138 (lv_at hl 0 rfl) ?_
                        refine lv_if_lt (tgt := 174) hx hb dL_refusals_140 (by decide) (fun c_70 => ?_) (fun c_70 => ?_)
                        · have c_70q := Int32.not_le.mpr c_70
                          refine lv_iconst (v := 0) hx hb dL_refusals_174 (by decide) ?_
                          refine lv_istore (lv' := [(16, .int 0), (15, .int (-1)), (14, .int (peF g P (nI (hm g b)) (nI (T + m2 + m3)))), (0, .ref bo), (1, .int (nI b)), (2, .int (nI n9)), (3, .int late), (4, .int (prF g b (nI n9))), (5, .int e5), (6, .int pf), (7, .int 1), (8, .int (nI (T + m2))), (9, .int dr), (10, .int kp), (11, .int (nI o)), (12, .int bf), (13, .int (nI (T + m2 + m3)))]) hx hb dL_refusals_175 hl (by decide) rfl (fun ls hl => ?_)
                          refine lv_iload hx hb dL_refusals_177 (lv_at hl 2 rfl) ?_
                          have jn_189 : ∀ (d9 : Int32) (_ : d9 = fv (fun j => peF g P (nI (hm g b)) (nI (T + m2 + j))) (n9 - m3) m3) (H : Heap) (locs : List Loc), me_at D z0 (sp tb (bo + 722) g (bq tb bo G F sf inp out M0)) nS s H locs → W p l e ({ frames := 14, cells := 0, slots := 0, locals := 504 } : Room) s m args below meth c H locs 0 0 (MQ below (me_Qp D z0 (fun r1 M1 => r1 = 1 ∧ M1 = sp tb (bo + 722) g (bq tb bo G F sf inp out M0))) args s 0 0 (me_A z0)) (F0 m 189 ls [.int d9]) := by
                            intro d9 hj_189 H locs hM
                            refine lv_istore (lv' := [(9, .int d9), (16, .int 0), (15, .int (-1)), (14, .int (peF g P (nI (hm g b)) (nI (T + m2 + m3)))), (0, .ref bo), (1, .int (nI b)), (2, .int (nI n9)), (3, .int late), (4, .int (prF g b (nI n9))), (5, .int e5), (6, .int pf), (7, .int 1), (8, .int (nI (T + m2))), (10, .int kp), (11, .int (nI o)), (12, .int bf), (13, .int (nI (T + m2 + m3)))]) hx hb dL_refusals_189 hl (by decide) rfl (fun ls hl => ?_)
                            refine lv_iload hx hb dL_refusals_191 (lv_at hl 2 rfl) ?_
                            refine lv_if_lt (tgt := 206) hx hb dL_refusals_193 (by decide) (fun c_71 => ?_) (fun c_71 => ?_)
                            · have c_71q := Int32.not_le.mpr c_71
                              refine lv_iload hx hb dL_refusals_206 (lv_at hl 13 rfl) ?_
                              refine lv_istore (lv' := [(10, .int kp), (9, .int d9), (16, .int 0), (15, .int (-1)), (14, .int (peF g P (nI (hm g b)) (nI (T + m2 + m3)))), (0, .ref bo), (1, .int (nI b)), (2, .int (nI n9)), (3, .int late), (4, .int (prF g b (nI n9))), (5, .int e5), (6, .int pf), (7, .int 1), (8, .int (nI (T + m2))), (11, .int (nI o)), (12, .int bf), (13, .int (nI (T + m2 + m3)))]) hx hb dL_refusals_208 hl (by decide) rfl (fun ls hl => ?_)
                              refine lv_iload hx hb dL_refusals_210 (lv_at hl 14 rfl) ?_
                              refine lv_iload hx hb dL_refusals_212 (lv_at hl 3 rfl) ?_
                              refine lv_if_lt (tgt := 228) hx hb dL_refusals_214 (by decide) (fun c_72 => ?_) (fun c_72 => ?_)
                              · have c_72q := Int32.not_le.mpr c_72
                                refine lv_iconst (v := 0) hx hb dL_refusals_228 (by decide) ?_
                                refine lv_iadd hx hb dL_refusals_229 ?_
                                refine me_evi (y := nI o) (nx_z rfl) ?_
                                refine lv_istore (lv' := [(11, .int (nI o)), (10, .int kp), (9, .int d9), (16, .int 0), (15, .int (-1)), (14, .int (peF g P (nI (hm g b)) (nI (T + m2 + m3)))), (0, .ref bo), (1, .int (nI b)), (2, .int (nI n9)), (3, .int late), (4, .int (prF g b (nI n9))), (5, .int e5), (6, .int pf), (7, .int 1), (8, .int (nI (T + m2))), (12, .int bf), (13, .int (nI (T + m2 + m3)))]) hx hb dL_refusals_230 hl (by decide) rfl (fun ls hl => ?_)
                                refine lv_iload hx hb dL_refusals_232 (lv_at hl 4 rfl) ?_
                                refine lv_istore (lv' := [(12, .int (-1)), (11, .int (nI o)), (10, .int kp), (9, .int d9), (16, .int 0), (15, .int (-1)), (14, .int (peF g P (nI (hm g b)) (nI (T + m2 + m3)))), (0, .ref bo), (1, .int (nI b)), (2, .int (nI n9)), (3, .int late), (4, .int (prF g b (nI n9))), (5, .int e5), (6, .int pf), (7, .int 1), (8, .int (nI (T + m2))), (13, .int (nI (T + m2 + m3)))]) hx hb dL_refusals_234 hl (by decide) rfl (fun ls hl => ?_)
                                refine lv_iinc (v := (nI (T + m2 + m3)) + (-1)) (lv' := [(13, .int ((nI (T + m2 + m3)) + (-1))), (12, .int (-1)), (11, .int (nI o)), (10, .int kp), (9, .int d9), (16, .int 0), (15, .int (-1)), (14, .int (peF g P (nI (hm g b)) (nI (T + m2 + m3)))), (0, .ref bo), (1, .int (nI b)), (2, .int (nI n9)), (3, .int late), (4, .int (prF g b (nI n9))), (5, .int e5), (6, .int pf), (7, .int 1), (8, .int (nI (T + m2)))]) hx hb dL_refusals_236 hl (k := 16) rfl rfl (by decide) rfl (fun ls hl => ?_)
                                refine lv_goto (tgt := 110) hx hb dL_refusals_239 (by decide) ?_
                                exact ih_110 m3 (by omega) d9 kp o (-1) _ _ _ (by omega) hj_189 (hqK.trans (by rw [show n9 - m3 = (n9 - (m3 + 1)) + 1 by omega]; exact (fv_f (F := fun j => obF g L b (nI (T + m2 + j))) (k := m3) (ob_n hyh)).symm)) (by rw [show n9 - m3 = (n9 - (m3 + 1)) + 1 by omega, rn_f (fun z => z.1 hyh), ← hqO]) (by rw [show n9 - m3 = (n9 - (m3 + 1)) + 1 by omega]; exact hyh.symm) hM (lv_sub hl [8, 9, 10, 11, 12, 13, 14, 15, 16, 4, 3, 2, 1, 0] rfl)
                              · exact absurd c_72 (by decide)
                            · exact absurd c_71 (by decide)
                          refine lv_if_lt (tgt := 187) hx hb dL_refusals_179 (by decide) (fun c_73 => ?_) (fun c_73 => ?_)
                          · have c_73q := Int32.not_le.mpr c_73
                            refine lv_iload hx hb dL_refusals_187 (lv_at hl 12 rfl) ?_
                            exact jn_189 dr (hqD.trans (by rw [show n9 - m3 = (n9 - (m3 + 1)) + 1 by omega, fv_f (F := fun j => peF g P (nI (hm g b)) (nI (T + m2 + j))) (k := m3) ((m1c rfl (peO hP0)).1 c_73)])) _ _ hM
                          · have c_73q := Int32.not_lt.mp c_73
                            refine lv_iload hx hb dL_refusals_182 (lv_at hl 2 rfl) ?_
                            refine lv_goto (tgt := 189) hx hb dL_refusals_184 (by decide) ?_
                            exact jn_189 (peF g P (nI (hm g b)) (nI (T + m2 + m3))) (by rw [show n9 - m3 = (n9 - (m3 + 1)) + 1 by omega, fv_t (F := fun j => peF g P (nI (hm g b)) (nI (T + m2 + j))) (k := m3) ((m1c rfl (peO hP0)).2 c_73)]) _ _ hM
                        · exact absurd c_70 (by decide)
                      · skip
                        refine lv_istore (lv' := [(15, .int (nI j)), (14, .int (peF g P (nI (hm g b)) (nI (T + m2 + m3)))), (0, .ref bo), (1, .int (nI b)), (2, .int (nI n9)), (3, .int late), (4, .int (prF g b (nI n9))), (5, .int e5), (6, .int pf), (7, .int 1), (8, .int (nI (T + m2))), (9, .int dr), (10, .int kp), (11, .int (nI o)), (12, .int bf), (13, .int (nI (T + m2 + m3)))]) hx hb dL_refusals_136 hl (by decide) rfl (fun ls hl => ?_)
                        refine lv_iload hx hb dL_refusals_138 (lv_at hl 0 rfl) ?_
                        refine lv_if_lt (tgt := 174) hx hb dL_refusals_140 (by decide) (fun c_74 => ?_) (fun c_74 => ?_)
                        · exact absurd c_74 (nI_pos (by omega))
                        · have c_74q := Int32.not_lt.mp c_74
                          refine lv_aload_n hx hb dL_refusals_143 rfl (lv_at hl 2 rfl) ?_
                          refine lv_iload hx hb dL_refusals_144 (lv_at hl 0 rfl) ?_
                          have how := (hwl j hj).2
                          refine me_callVi (As := [.int (nI j)]) (rest := []) hC hl.1 hM (c_X7_statusOf l D tb X z0 nS bo g G F sf inp out M0 S B L P j hW (by omega)) (kv_L_152 hw rfl rfl ⟨Nat.le_of_ble_eq_true rfl, Nat.le_of_ble_eq_true rfl⟩) rfl rfl (bq_at h_b) rfl (Nat.le_of_ble_eq_true rfl) dL_refusals_146 ⟨Nat.le_of_ble_eq_true rfl, Nat.le_of_ble_eq_true rfl⟩ (fun H locs hM => ?_)
                          have jn_175 : ∀ (v175 : Int32) (_ : v175 = b1 (cdF g b j)) (H : Heap) (locs : List Loc), me_at D z0 (sp tb (bo + 722) g (bq tb bo G F sf inp out M0)) nS s H locs → W p l e ({ frames := 14, cells := 0, slots := 0, locals := 504 } : Room) s m args below meth c H locs 0 0 (MQ below (me_Qp D z0 (fun r1 M1 => r1 = 1 ∧ M1 = sp tb (bo + 722) g (bq tb bo G F sf inp out M0))) args s 0 0 (me_A z0)) (F0 m 175 ls [.int v175]) := by
                            intro v175 hj_175 H locs hM
                            subst hj_175
                            refine lv_istore (lv' := [(16, .int (b1 (cdF g b j))), (15, .int (nI j)), (14, .int (peF g P (nI (hm g b)) (nI (T + m2 + m3)))), (0, .ref bo), (1, .int (nI b)), (2, .int (nI n9)), (3, .int late), (4, .int (prF g b (nI n9))), (5, .int e5), (6, .int pf), (7, .int 1), (8, .int (nI (T + m2))), (9, .int dr), (10, .int kp), (11, .int (nI o)), (12, .int bf), (13, .int (nI (T + m2 + m3)))]) hx hb dL_refusals_175 hl (by decide) rfl (fun ls hl => ?_)
                            refine lv_iload hx hb dL_refusals_177 (lv_at hl 2 rfl) ?_
                            have jn_189 : ∀ (d9 : Int32) (_ : d9 = fv (fun j => peF g P (nI (hm g b)) (nI (T + m2 + j))) (n9 - m3) m3) (H : Heap) (locs : List Loc), me_at D z0 (sp tb (bo + 722) g (bq tb bo G F sf inp out M0)) nS s H locs → W p l e ({ frames := 14, cells := 0, slots := 0, locals := 504 } : Room) s m args below meth c H locs 0 0 (MQ below (me_Qp D z0 (fun r1 M1 => r1 = 1 ∧ M1 = sp tb (bo + 722) g (bq tb bo G F sf inp out M0))) args s 0 0 (me_A z0)) (F0 m 189 ls [.int d9]) := by
                              intro d9 hj_189 H locs hM
                              refine lv_istore (lv' := [(9, .int d9), (16, .int (b1 (cdF g b j))), (15, .int (nI j)), (14, .int (peF g P (nI (hm g b)) (nI (T + m2 + m3)))), (0, .ref bo), (1, .int (nI b)), (2, .int (nI n9)), (3, .int late), (4, .int (prF g b (nI n9))), (5, .int e5), (6, .int pf), (7, .int 1), (8, .int (nI (T + m2))), (10, .int kp), (11, .int (nI o)), (12, .int bf), (13, .int (nI (T + m2 + m3)))]) hx hb dL_refusals_189 hl (by decide) rfl (fun ls hl => ?_)
                              refine lv_iload hx hb dL_refusals_191 (lv_at hl 2 rfl) ?_
                              refine lv_if_lt (tgt := 206) hx hb dL_refusals_193 (by decide) (fun c_75 => ?_) (fun c_75 => ?_)
                              · exact absurd c_75 (nI_pos (by omega))
                              · have c_75q := Int32.not_lt.mp c_75
                                refine lv_iload hx hb dL_refusals_196 (lv_at hl 1 rfl) ?_
                                have jn_208 : ∀ (kp9 : Int32) (_ : kp9 = fv (fun j => obF g L b (nI (T + m2 + j))) (n9 - m3) m3) (H : Heap) (locs : List Loc), me_at D z0 (sp tb (bo + 722) g (bq tb bo G F sf inp out M0)) nS s H locs → W p l e ({ frames := 14, cells := 0, slots := 0, locals := 504 } : Room) s m args below meth c H locs 0 0 (MQ below (me_Qp D z0 (fun r1 M1 => r1 = 1 ∧ M1 = sp tb (bo + 722) g (bq tb bo G F sf inp out M0))) args s 0 0 (me_A z0)) (F0 m 208 ls [.int kp9]) := by
                                  intro kp9 hj_208 H locs hM
                                  refine lv_istore (lv' := [(10, .int kp9), (9, .int d9), (16, .int (b1 (cdF g b j))), (15, .int (nI j)), (14, .int (peF g P (nI (hm g b)) (nI (T + m2 + m3)))), (0, .ref bo), (1, .int (nI b)), (2, .int (nI n9)), (3, .int late), (4, .int (prF g b (nI n9))), (5, .int e5), (6, .int pf), (7, .int 1), (8, .int (nI (T + m2))), (11, .int (nI o)), (12, .int bf), (13, .int (nI (T + m2 + m3)))]) hx hb dL_refusals_208 hl (by decide) rfl (fun ls hl => ?_)
                                  refine lv_iload hx hb dL_refusals_210 (lv_at hl 14 rfl) ?_
                                  refine lv_iload hx hb dL_refusals_212 (lv_at hl 3 rfl) ?_
                                  refine lv_if_lt (tgt := 228) hx hb dL_refusals_214 (by decide) (fun c_76 => ?_) (fun c_76 => ?_)
                                  · exact absurd c_76 (nI_pos (by omega))
                                  · have c_76q := Int32.not_lt.mp c_76
                                    refine lv_iload hx hb dL_refusals_217 (lv_at hl 3 rfl) ?_
                                    refine lv_iload hx hb dL_refusals_219 (lv_at hl 15 rfl) ?_
                                    refine lv_icmp_eq (tgt := 228) hx hb dL_refusals_221 (by decide) (fun c_77 => ?_) (fun c_77 => ?_)
                                    · refine lv_iconst (v := 0) hx hb dL_refusals_228 (by decide) ?_
                                      refine lv_iadd hx hb dL_refusals_229 ?_
                                      refine me_evi (y := nI o) (nx_z rfl) ?_
                                      refine lv_istore (lv' := [(11, .int (nI o)), (10, .int kp9), (9, .int d9), (16, .int (b1 (cdF g b j))), (15, .int (nI j)), (14, .int (peF g P (nI (hm g b)) (nI (T + m2 + m3)))), (0, .ref bo), (1, .int (nI b)), (2, .int (nI n9)), (3, .int late), (4, .int (prF g b (nI n9))), (5, .int e5), (6, .int pf), (7, .int 1), (8, .int (nI (T + m2))), (12, .int bf), (13, .int (nI (T + m2 + m3)))]) hx hb dL_refusals_230 hl (by decide) rfl (fun ls hl => ?_)
                                      refine lv_iload hx hb dL_refusals_232 (lv_at hl 4 rfl) ?_
                                      refine lv_istore (lv' := [(12, .int (nI j)), (11, .int (nI o)), (10, .int kp9), (9, .int d9), (16, .int (b1 (cdF g b j))), (15, .int (nI j)), (14, .int (peF g P (nI (hm g b)) (nI (T + m2 + m3)))), (0, .ref bo), (1, .int (nI b)), (2, .int (nI n9)), (3, .int late), (4, .int (prF g b (nI n9))), (5, .int e5), (6, .int pf), (7, .int 1), (8, .int (nI (T + m2))), (13, .int (nI (T + m2 + m3)))]) hx hb dL_refusals_234 hl (by decide) rfl (fun ls hl => ?_)
                                      refine lv_iinc (v := (nI (T + m2 + m3)) + (-1)) (lv' := [(13, .int ((nI (T + m2 + m3)) + (-1))), (12, .int (nI j)), (11, .int (nI o)), (10, .int kp9), (9, .int d9), (16, .int (b1 (cdF g b j))), (15, .int (nI j)), (14, .int (peF g P (nI (hm g b)) (nI (T + m2 + m3)))), (0, .ref bo), (1, .int (nI b)), (2, .int (nI n9)), (3, .int late), (4, .int (prF g b (nI n9))), (5, .int e5), (6, .int pf), (7, .int 1), (8, .int (nI (T + m2)))]) hx hb dL_refusals_236 hl (k := 16) rfl rfl (by decide) rfl (fun ls hl => ?_)
                                      refine lv_goto (tgt := 110) hx hb dL_refusals_239 (by decide) ?_
                                      exact ih_110 m3 (by omega) d9 kp9 o (nI j) _ _ _ (by omega) hj_189 hj_208 (by rw [show n9 - m3 = (n9 - (m3 + 1)) + 1 by omega, rn_f (fun z => z.2 (hyh.trans (c_77.trans hqB))), ← hqO]) (by rw [show n9 - m3 = (n9 - (m3 + 1)) + 1 by omega]; exact hyh.symm) hM (lv_sub hl [8, 9, 10, 11, 12, 13, 14, 15, 16, 4, 3, 2, 1, 0] rfl)
                                    · refine lv_iconst (v := 1) hx hb dL_refusals_224 (by decide) ?_
                                      refine lv_goto (tgt := 229) hx hb dL_refusals_225 (by decide) ?_
                                      refine lv_iadd hx hb dL_refusals_229 ?_
                                      refine me_evi (y := nI (o + 1)) (nx_add rfl (show (1 : Int32) = nI 1 from rfl)) ?_
                                      refine lv_istore (lv' := [(11, .int (nI (o + 1))), (10, .int kp9), (9, .int d9), (16, .int (b1 (cdF g b j))), (15, .int (nI j)), (14, .int (peF g P (nI (hm g b)) (nI (T + m2 + m3)))), (0, .ref bo), (1, .int (nI b)), (2, .int (nI n9)), (3, .int late), (4, .int (prF g b (nI n9))), (5, .int e5), (6, .int pf), (7, .int 1), (8, .int (nI (T + m2))), (12, .int bf), (13, .int (nI (T + m2 + m3)))]) hx hb dL_refusals_230 hl (by decide) rfl (fun ls hl => ?_)
                                      refine lv_iload hx hb dL_refusals_232 (lv_at hl 4 rfl) ?_
                                      refine lv_istore (lv' := [(12, .int (nI j)), (11, .int (nI (o + 1))), (10, .int kp9), (9, .int d9), (16, .int (b1 (cdF g b j))), (15, .int (nI j)), (14, .int (peF g P (nI (hm g b)) (nI (T + m2 + m3)))), (0, .ref bo), (1, .int (nI b)), (2, .int (nI n9)), (3, .int late), (4, .int (prF g b (nI n9))), (5, .int e5), (6, .int pf), (7, .int 1), (8, .int (nI (T + m2))), (13, .int (nI (T + m2 + m3)))]) hx hb dL_refusals_234 hl (by decide) rfl (fun ls hl => ?_)
                                      refine lv_iinc (v := (nI (T + m2 + m3)) + (-1)) (lv' := [(13, .int ((nI (T + m2 + m3)) + (-1))), (12, .int (nI j)), (11, .int (nI (o + 1))), (10, .int kp9), (9, .int d9), (16, .int (b1 (cdF g b j))), (15, .int (nI j)), (14, .int (peF g P (nI (hm g b)) (nI (T + m2 + m3)))), (0, .ref bo), (1, .int (nI b)), (2, .int (nI n9)), (3, .int late), (4, .int (prF g b (nI n9))), (5, .int e5), (6, .int pf), (7, .int 1), (8, .int (nI (T + m2)))]) hx hb dL_refusals_236 hl (k := 16) rfl rfl (by decide) rfl (fun ls hl => ?_)
                                      refine lv_goto (tgt := 110) hx hb dL_refusals_239 (by decide) ?_
                                      exact ih_110 m3 (by omega) d9 kp9 (o + 1) (nI j) _ _ _ (by omega) hj_189 hj_208 (by rw [show n9 - m3 = (n9 - (m3 + 1)) + 1 by omega, rn_t ⟨fun z => nI_nm1 (k := j) (by omega) (hyh.symm.trans z), fun z => c_77 (hyh.symm.trans (z.trans hqB.symm))⟩, ← hqO]) (by rw [show n9 - m3 = (n9 - (m3 + 1)) + 1 by omega]; exact hyh.symm) hM (lv_sub hl [8, 9, 10, 11, 12, 13, 14, 15, 16, 4, 3, 2, 1, 0] rfl)
                                refine lv_if_ne (tgt := 206) hx hb dL_refusals_198 (by decide) (fun c_78 => ?_) (fun c_78 => ?_)
                                · have c_78 := b1_n0.mp c_78
                                  refine lv_iload hx hb dL_refusals_206 (lv_at hl 13 rfl) ?_
                                  exact jn_208 kp (hqK.trans (by rw [show n9 - m3 = (n9 - (m3 + 1)) + 1 by omega, fv_f (F := fun j => obF g L b (nI (T + m2 + j))) (k := m3) (ob_f hL0 hj hyh c_78)])) _ _ hM
                                · have c_78 := b1_0.mp c_78
                                  refine lv_iload hx hb dL_refusals_201 (lv_at hl 2 rfl) ?_
                                  refine lv_goto (tgt := 208) hx hb dL_refusals_203 (by decide) ?_
                                  exact jn_208 (nI j) (by rw [show n9 - m3 = (n9 - (m3 + 1)) + 1 by omega, fv_t (F := fun j => obF g L b (nI (T + m2 + j))) (k := m3) (by show ¬ obF g L b (nI (T + m2 + m3)) = -1; rw [ob_t hL0 hj hyh c_78]; exact nI_nm1 (by omega))]; exact (ob_t hL0 hj hyh c_78).symm) _ _ hM
                            refine lv_if_lt (tgt := 187) hx hb dL_refusals_179 (by decide) (fun c_79 => ?_) (fun c_79 => ?_)
                            · have c_79q := Int32.not_le.mpr c_79
                              refine lv_iload hx hb dL_refusals_187 (lv_at hl 12 rfl) ?_
                              exact jn_189 dr (hqD.trans (by rw [show n9 - m3 = (n9 - (m3 + 1)) + 1 by omega, fv_f (F := fun j => peF g P (nI (hm g b)) (nI (T + m2 + j))) (k := m3) ((m1c rfl (peO hP0)).1 c_79)])) _ _ hM
                            · have c_79q := Int32.not_lt.mp c_79
                              refine lv_iload hx hb dL_refusals_182 (lv_at hl 2 rfl) ?_
                              refine lv_goto (tgt := 189) hx hb dL_refusals_184 (by decide) ?_
                              exact jn_189 (peF g P (nI (hm g b)) (nI (T + m2 + m3))) (by rw [show n9 - m3 = (n9 - (m3 + 1)) + 1 by omega, fv_t (F := fun j => peF g P (nI (hm g b)) (nI (T + m2 + j))) (k := m3) ((m1c rfl (peO hP0)).2 c_79)]) _ _ hM
                          refine lv_if_ne (tgt := 174) hx hb dL_refusals_149 (by decide) (fun c_80 => ?_) (fun c_80 => ?_)
                          · refine lv_iconst (v := 0) hx hb dL_refusals_174 (by decide) ?_
                            exact jn_175 0 (b1_f (fun z => c_80 z.1)) _ _ hM
                          · refine lv_aload_n hx hb dL_refusals_152 rfl (lv_at hl 2 rfl) ?_
                            refine lv_aload_n hx hb dL_refusals_153 rfl (lv_at hl 2 rfl) ?_
                            refine lv_iload hx hb dL_refusals_154 (lv_at hl 0 rfl) ?_
                            refine me_callVi (As := [.int (nI j)]) (rest := [.ref bo]) hC hl.1 hM (c_X7_borrowerOf l D tb X z0 nS bo g G F sf inp out M0 S B L P j hW (by omega)) (kv_L_140 hw rfl rfl ⟨Nat.le_of_ble_eq_true rfl, Nat.le_of_ble_eq_true rfl⟩) rfl rfl (bq_at h_b) rfl (Nat.le_of_ble_eq_true rfl) dL_refusals_156 ⟨Nat.le_of_ble_eq_true rfl, Nat.le_of_ble_eq_true rfl⟩ (fun H locs hM => ?_)
                            refine me_evi (y := nI (ow g j)) (hwl j hj).1 ?_
                            refine me_callVi (As := [.int (nI (ow g j))]) (rest := []) hC hl.1 hM (c_X7_illnessOf l D tb X z0 nS bo g G F sf inp out M0 S B L P (ow g j) hW (by omega)) (kv_L_131 hw rfl rfl ⟨Nat.le_of_ble_eq_true rfl, Nat.le_of_ble_eq_true rfl⟩) rfl rfl (bq_at h_b) rfl (Nat.le_of_ble_eq_true rfl) dL_refusals_159 ⟨Nat.le_of_ble_eq_true rfl, Nat.le_of_ble_eq_true rfl⟩ (fun H locs hM => ?_)
                            refine lv_aload_n hx hb dL_refusals_162 rfl (lv_at hl 2 rfl) ?_
                            refine lv_iload_n hx hb dL_refusals_163 rfl (lv_at hl 3 rfl) ?_
                            refine me_callVi (As := [.int (nI b)]) (rest := [.int (g (89 + 11 * (ow g j) + 1))]) hC hl.1 hM (c_X7_illnessOf l D tb X z0 nS bo g G F sf inp out M0 S B L P b hW (by omega)) (kv_L_131 hw rfl rfl ⟨Nat.le_of_ble_eq_true rfl, Nat.le_of_ble_eq_true rfl⟩) rfl rfl (bq_at h_b) rfl (Nat.le_of_ble_eq_true rfl) dL_refusals_164 ⟨Nat.le_of_ble_eq_true rfl, Nat.le_of_ble_eq_true rfl⟩ (fun H locs hM => ?_)
                            refine lv_icmp_ge (tgt := 174) hx hb dL_refusals_167 (by decide) (fun c_81 => ?_) (fun c_81 => ?_)
                            · have c_81q := c_81
                              have c_81 := Int32.not_lt.mpr c_81
                              refine lv_iconst (v := 0) hx hb dL_refusals_174 (by decide) ?_
                              exact jn_175 0 (b1_f (fun z => c_81 z.2)) _ _ hM
                            · have c_81q := c_81
                              have c_81 := Int32.not_le.mp c_81
                              refine lv_iconst (v := 1) hx hb dL_refusals_170 (by decide) ?_
                              refine lv_goto (tgt := 175) hx hb dL_refusals_171 (by decide) ?_
                              exact jn_175 1 (b1_t ⟨c_80, c_81⟩) _ _ hM
                exact lp_110 n9 (-1) (-1) 0 (-1) _ _ _ (Nat.le_refl _) (by rw [Nat.sub_self]; rfl) (by rw [Nat.sub_self]; rfl) (by rw [Nat.sub_self]; rfl) (by rw [Nat.sub_self]; rfl) hM (lv_sub hl [5, 6, 7, 8, 9, 10, 11, 12, 13, 4, 3, 2, 1, 0] rfl)
        exact lp_76 (49 - n9) (-1) (-1) n _ _ _ (Nat.le_refl _) (by rw [Nat.sub_self]; rfl) (by rw [Nat.sub_self]; rfl) hM (lv_sub hl [5, 6, 7, 8, 4, 3, 2, 1, 0] rfl)
      · exact absurd c_1 (by decide)
    · skip
      refine me_evi (y := nI m1) (pk_m1 m1) ?_
      rw [pk_m1] at hl
      refine lv_if_lt (tgt := 48) hx hb dL_refusals_12 (by decide) (fun c_82 => ?_) (fun c_82 => ?_)
      · exact absurd c_82 (nI_pos (by omega))
      · have c_82q := Int32.not_lt.mp c_82
        refine lv_aload_n hx hb dL_refusals_15 rfl (lv_at hl 0 rfl) ?_
        refine lv_iload hx hb dL_refusals_16 (lv_at hl 4 rfl) ?_
        refine me_callVi (As := [.int (nI m1)]) (rest := []) hC hl.1 hM (c_X7_borrowerOf l D tb X z0 n bo g G F sf inp out M0 S B L P m1 hW (by omega)) (kv_L_140 hw rfl rfl ⟨Nat.le_of_ble_eq_true rfl, Nat.le_of_ble_eq_true rfl⟩) rfl rfl (bq_at h_b) rfl (Nat.le_of_ble_eq_true rfl) dL_refusals_18 ⟨Nat.le_of_ble_eq_true rfl, Nat.le_of_ble_eq_true rfl⟩ (fun H locs hM => ?_)
        refine lv_iload_n hx hb dL_refusals_21 rfl (lv_at hl 1 rfl) ?_
        refine lv_icmp_ne (tgt := 40) hx hb dL_refusals_22 (by decide) (fun c_83 => ?_) (fun c_83 => ?_)
        · refine lv_iload_n hx hb dL_refusals_40 rfl (lv_at hl 3 rfl) ?_
          refine lv_istore_n (lv' := [(3, .int late), (0, .ref bo), (1, .int (nI b)), (2, .int (nI n9)), (4, .int (nI m1))]) hx hb dL_refusals_41 rfl hl (by decide) rfl (fun ls hl => ?_)
          refine lv_iinc (v := (nI m1) + (-1)) (lv' := [(4, .int ((nI m1) + (-1))), (3, .int late), (0, .ref bo), (1, .int (nI b)), (2, .int (nI n9))]) hx hb dL_refusals_42 hl (k := 4) rfl rfl (by decide) rfl (fun ls hl => ?_)
          refine lv_goto (tgt := 10) hx hb dL_refusals_45 (by decide) ?_
          exact ih_10 m1 (by omega) late _ _ _ (by omega) (by rw [show L - m1 = (L - (m1 + 1)) + 1 by omega]; exact hqL.trans (fi_f (P := fun k => g (261 + 5 * k) = nI b ∧ g (261 + 5 * k + 4) = 4) (k := m1) (fun z => c_83 z.1)).symm) hM (lv_sub hl [2, 3, 4, 1, 0] rfl)
        · refine lv_aload_n hx hb dL_refusals_25 rfl (lv_at hl 0 rfl) ?_
          refine lv_iload hx hb dL_refusals_26 (lv_at hl 4 rfl) ?_
          refine me_callVi (As := [.int (nI m1)]) (rest := []) hC hl.1 hM (c_X7_statusOf l D tb X z0 n bo g G F sf inp out M0 S B L P m1 hW (by omega)) (kv_L_152 hw rfl rfl ⟨Nat.le_of_ble_eq_true rfl, Nat.le_of_ble_eq_true rfl⟩) rfl rfl (bq_at h_b) rfl (Nat.le_of_ble_eq_true rfl) dL_refusals_28 ⟨Nat.le_of_ble_eq_true rfl, Nat.le_of_ble_eq_true rfl⟩ (fun H locs hM => ?_)
          refine lv_iconst (v := 4) hx hb dL_refusals_31 (by decide) ?_
          refine lv_icmp_ne (tgt := 40) hx hb dL_refusals_32 (by decide) (fun c_84 => ?_) (fun c_84 => ?_)
          · refine lv_iload_n hx hb dL_refusals_40 rfl (lv_at hl 3 rfl) ?_
            refine lv_istore_n (lv' := [(3, .int late), (0, .ref bo), (1, .int (nI b)), (2, .int (nI n9)), (4, .int (nI m1))]) hx hb dL_refusals_41 rfl hl (by decide) rfl (fun ls hl => ?_)
            refine lv_iinc (v := (nI m1) + (-1)) (lv' := [(4, .int ((nI m1) + (-1))), (3, .int late), (0, .ref bo), (1, .int (nI b)), (2, .int (nI n9))]) hx hb dL_refusals_42 hl (k := 4) rfl rfl (by decide) rfl (fun ls hl => ?_)
            refine lv_goto (tgt := 10) hx hb dL_refusals_45 (by decide) ?_
            exact ih_10 m1 (by omega) late _ _ _ (by omega) (by rw [show L - m1 = (L - (m1 + 1)) + 1 by omega]; exact hqL.trans (fi_f (P := fun k => g (261 + 5 * k) = nI b ∧ g (261 + 5 * k + 4) = 4) (k := m1) (fun z => c_84 z.2)).symm) hM (lv_sub hl [2, 3, 4, 1, 0] rfl)
          · refine lv_iload hx hb dL_refusals_35 (lv_at hl 4 rfl) ?_
            refine lv_goto (tgt := 41) hx hb dL_refusals_37 (by decide) ?_
            refine lv_istore_n (lv' := [(3, .int (nI m1)), (0, .ref bo), (1, .int (nI b)), (2, .int (nI n9)), (4, .int (nI m1))]) hx hb dL_refusals_41 rfl hl (by decide) rfl (fun ls hl => ?_)
            refine lv_iinc (v := (nI m1) + (-1)) (lv' := [(4, .int ((nI m1) + (-1))), (3, .int (nI m1)), (0, .ref bo), (1, .int (nI b)), (2, .int (nI n9))]) hx hb dL_refusals_42 hl (k := 4) rfl rfl (by decide) rfl (fun ls hl => ?_)
            refine lv_goto (tgt := 10) hx hb dL_refusals_45 (by decide) ?_
            exact ih_10 m1 (by omega) (nI m1) _ _ _ (by omega) (by rw [show L - m1 = (L - (m1 + 1)) + 1 by omega]; exact (fi_t (P := fun k => g (261 + 5 * k) = nI b ∧ g (261 + 5 * k + 4) = 4) (k := m1) ⟨c_83, c_84⟩).symm) hM (lv_sub hl [2, 3, 4, 1, 0] rfl)
  exact lp_10 L (-1) _ _ _ (Nat.le_refl _) (by rw [Nat.sub_self]; rfl) hM (lv_sub hl [2, 3, 4, 1, 0] rfl)
