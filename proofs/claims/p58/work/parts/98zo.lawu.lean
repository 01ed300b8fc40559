/-! ===== the law's body ===== -/
theorem lg_0 (x : Int64) : lg_cmp x x = 0 := by
  unfold lg_cmp
  rw [if_neg (fun z => absurd z (Int64.lt_irrefl)), if_pos rfl]
theorem tm2 {T : Nat} (h : T ≤ 20000) : nI T - 1 < nI T := by
  have e : nI T - 1 = nI T + (-1) := Int32.sub_eq_add_neg _ _
  rw [e]; exact tm1 h
section LAWU
variable {p : Program} {l : Launch} {e : Env} {s : State} {m : MethodId} {args : Array Value} {below : List Frame} {meth : Method} {c : Code} {H : Heap} {locs : List Loc} {Q : State → Prop} {ls : Array Slot} {cells slots : Nat}
variable {D : va_G} {tb : Nat → ClassId} {X : State → Prop} {z0 n b bo ra : Nat} {g f F sf inp out : Nat → Int32} {G : Nat → Nat → Int32} {M0 : me_M}
variable {S B L P T nx ct N u q : Nat} {bg : Int64} {ck : Int32}
theorem nI_le12 {B : Nat} (h : B ≤ 12) : nI B ≤ 12 := (nI_leI (b := 12) (by omega) (by omega)).mpr h
set_option maxHeartbeats 4000000 in
theorem law_u (hfl : l.stackTraces = false) (hN : ∀ U, X U → me_nest U) (hXs : ∀ U, X U → me_xs z0 U) (hCE : ∀ U, X U → me_ce U) (hra : bo + 919 ≤ ra) (hI : iv N T S B L P g) (hT9 : T ≤ 200) (hN9 : N ≤ 100000) (hS1 : 1 ≤ S) (hB1 : 1 ≤ B) (hF0 : F 0 = 0) (hnx : F 4 = nI nx) (hnx0 : nx < 10) (hct : F 5 = nI ct) (hct0 : ct ≤ 10) (hu : u < 7) (hC : me_cx ws_all p c cL_law 12 s args m RL D tb X z0) (hM : me_at D z0 (sp tb (bo + 722) g (bq tb bo G F sf inp out (me_up M0 ra (.inl (tb 0, 1, .inl f))))) n s H locs) (hl : lv_has ls 12 [(0, .ref b), (1, .ref bo), (2, .ref ra), (3, .int 1), (4, .int (nI q)), (6, .long bg), (8, .int ck), (9, .int (nI u))]) (hcell : cells ≤ 500000 ∧ slots ≤ 6000000) (kk : ∀ (g2 : Nat → Int32) (G2 : Nat → Nat → Int32) (F2 f2 : Nat → Int32) (L2 P2 T2 nx2 ct2 : Nat) (ls : Array Slot) (H : Heap) (locs : List Loc) (n2 : Nat), iv (N + 1800) T2 S B L2 P2 g2 → T2 ≤ T + 12 → F2 0 = 0 → F2 4 = nI nx2 → nx2 < 10 → F2 5 = nI ct2 → ct2 ≤ 10 → (∀ j, 12 ≤ j → G2 j = G j) → me_at D z0 (sp tb (bo + 722) g2 (bq tb bo G2 F2 sf inp out (me_up M0 ra (.inl (tb 0, 1, .inl f2))))) n2 s H locs → lv_has ls 12 [(0, .ref b), (1, .ref bo), (2, .ref ra), (3, .int 1), (4, .int (nI q)), (6, .long bg), (8, .int ck), (9, .int (nI (u + 1)))] → W p l e room_1 s m args below meth c H locs (cells + 100) (slots + 500) Q (F0 m 130 ls [])) : W p l e room_1 s m args below meth c H locs cells slots Q (F0 m 130 ls []) := by
  have hx := hC.1
  have hb := hC.2.1
  have hw := hC.2.2.2.2.1
  have hW := hI.1
  have hT := hI.2.1
  have hT0 : T ≤ 10000 := by omega
  have hq_ := hW
  obtain ⟨hS, hS0, hB, hB0, hL, hL0, hP, hP0, hwb, hwl⟩ := hq_
  refine lv_iload hx hb dL_law_130 (lv_at hl 7 rfl) ?_
  refine lv_bipush (v := 7) hx hb dL_law_132 (by decide) ?_
  refine lv_icmp_ge (tgt := 374) hx hb dL_law_134 (by decide) (fun c_1 => ?_) (fun c_1 => ?_)
  · have c_1 := (br_le (nx_c 7) rfl (by omega) (by omega)).mp c_1
    exfalso; omega
  · have c_1 := (not_congr (br_le (nx_c 7) rfl (by omega) (by omega))).mp c_1
    refine lv_iload_n hx hb dL_law_137 rfl (lv_at hl 3 rfl) ?_
    refine lv_if_eq (tgt := 374) hx hb dL_law_138 (by decide) (fun c_2 => ?_) (fun c_2 => ?_)
    · exact absurd c_2 (by decide)
    · refine lv_aload_n hx hb dL_law_141 rfl (lv_at hl 1 rfl) ?_
      refine me_callSl (As := [.ref bo]) (rest := []) hC hl.1 hM (c_L_sum l D tb X z0 n bo g G F sf inp out (me_up M0 ra (.inl (tb 0, 1, .inl f))) S B L P T hN hW hT hT0) (ks_L_239 hw rfl rfl ⟨Nat.le_of_ble_eq_true rfl, Nat.le_of_ble_eq_true rfl⟩) rfl rfl (Nat.le_of_ble_eq_true rfl) dL_law_142 ⟨by show cells + 12 ≤ 630311; omega, by show slots + 72 ≤ 7210765; omega⟩ (fun r_1 M_1 hP_1 H locs n_1 hM => ?_)
      obtain ⟨rfl, rfl⟩ := hP_1
      refine lv_lstore (lv' := [(10, .long (sumF g S B L P T)), (0, .ref b), (1, .ref bo), (2, .ref ra), (3, .int 1), (4, .int (nI q)), (6, .long bg), (8, .int ck), (9, .int (nI u))]) hx hb dL_law_145 hl (by decide) rfl (fun ls hl => ?_)
      refine lv_aload_n hx hb dL_law_147 rfl (lv_at hl 2 rfl) ?_
      refine lv_bipush (v := 12) hx hb dL_law_148 (by decide) ?_
      refine lv_aload_n hx hb dL_law_150 rfl (lv_at hl 2 rfl) ?_
      refine me_callVi (As := []) (rest := [.int 12, .ref bo]) hC hl.1 hM (c_X7_clock l D tb X z0 n_1 bo g G F sf inp out (me_up M0 ra (.inl (tb 0, 1, .inl f))) S B L P  ) (kv_L_104 hw rfl rfl ⟨Nat.le_of_ble_eq_true rfl, Nat.le_of_ble_eq_true rfl⟩) rfl rfl (bq_at h_b) rfl (Nat.le_of_ble_eq_true rfl) dL_law_151 ⟨by show (cells + 12) + 0 ≤ 630311; omega, by show (slots + 72) + 0 ≤ 7210765; omega⟩ (fun H locs hM => ?_)
      refine me_evi (y := nI T) hT ?_
      refine lv_iconst (v := 1) hx hb dL_law_154 (by decide) ?_
      refine me_callSnp (nA := 4) (As := [.ref bo, .int 12, .int (nI T), .int 1]) (rest := []) hC hl.1 hM (c_L_lent_x1 (mc := 1) (ms := 6) l D tb X z0 n_1 bo 12 (nI T) 1 hCE rfl rfl ⟨Nat.le_of_ble_eq_true rfl, Nat.le_of_ble_eq_true rfl⟩ (bq_at h_b) (c_X7_lend_x1 l D tb X z0 n_1 bo g G F sf inp out (me_up M0 ra (.inl (tb 0, 1, .inl f))) S B L P 12 (nI T) 1 hfl hXs (Or.inr (by rw [hB]; exact nI_le12 (by omega))))) w_756 w_757 w_0 w_758 (by decide +kernel) rfl rfl ⟨Nat.le_of_ble_eq_true rfl, Nat.le_of_ble_eq_true rfl⟩ rfl rfl (Nat.le_of_ble_eq_true rfl) dL_law_155 ⟨by show ((cells + 12) + 0) + 1 ≤ 630311; omega, by show ((slots + 72) + 0) + 6 ≤ 7210765; omega⟩ (fun r_2 M_2 hP_2 H locs n_2 hM => ?_)
      obtain ⟨rfl, rfl⟩ := hP_2
      refine lv_bipush (v := (-5)) hx hb dL_law_158 (by decide) ?_
      refine lv_icmp_ne (tgt := 281) hx hb dL_law_160 (by decide) (fun c_3 => ?_) (fun c_3 => ?_)
      · exact absurd c_3 (by decide)
      · refine lv_aload_n hx hb dL_law_163 rfl (lv_at hl 2 rfl) ?_
        refine lv_iconst (v := 0) hx hb dL_law_164 (by decide) ?_
        refine lv_aload_n hx hb dL_law_165 rfl (lv_at hl 2 rfl) ?_
        refine me_callVi (As := []) (rest := [.int 0, .ref bo]) hC hl.1 hM (c_X7_clock l D tb X z0 n_2 bo g G F sf inp out (me_up M0 ra (.inl (tb 0, 1, .inl f))) S B L P  ) (kv_L_104 hw rfl rfl ⟨Nat.le_of_ble_eq_true rfl, Nat.le_of_ble_eq_true rfl⟩) rfl rfl (bq_at h_b) rfl (Nat.le_of_ble_eq_true rfl) dL_law_166 ⟨by show (((cells + 12) + 0) + 1) + 0 ≤ 630311; omega, by show (((slots + 72) + 0) + 6) + 0 ≤ 7210765; omega⟩ (fun H locs hM => ?_)
        refine me_evi (y := nI T) hT ?_
        refine lv_bipush (v := 7) hx hb dL_law_169 (by decide) ?_
        refine me_callSnp (nA := 4) (As := [.ref bo, .int 0, .int (nI T), .int 7]) (rest := []) hC hl.1 hM (c_L_lent_x2 (mc := 1) (ms := 6) l D tb X z0 n_2 bo 0 (nI T) 7 hCE rfl rfl ⟨Nat.le_of_ble_eq_true rfl, Nat.le_of_ble_eq_true rfl⟩ (bq_at h_b) (c_X7_lend_x2 l D tb X z0 n_2 bo g G F sf inp out (me_up M0 ra (.inl (tb 0, 1, .inl f))) S B L P 0 (nI T) 7 hfl hXs hW (by omega) (Or.inr (by decide)))) w_756 w_757 w_0 w_758 (by decide +kernel) rfl rfl ⟨Nat.le_of_ble_eq_true rfl, Nat.le_of_ble_eq_true rfl⟩ rfl rfl (Nat.le_of_ble_eq_true rfl) dL_law_171 ⟨by show ((((cells + 12) + 0) + 1) + 0) + 1 ≤ 630311; omega, by show ((((slots + 72) + 0) + 6) + 0) + 6 ≤ 7210765; omega⟩ (fun r_3 M_3 hP_3 H locs n_3 hM => ?_)
        obtain ⟨rfl, rfl⟩ := hP_3
        refine lv_bipush (v := (-2)) hx hb dL_law_174 (by decide) ?_
        refine lv_icmp_ne (tgt := 281) hx hb dL_law_176 (by decide) (fun c_4 => ?_) (fun c_4 => ?_)
        · exact absurd c_4 (by decide)
        · refine lv_aload_n hx hb dL_law_179 rfl (lv_at hl 2 rfl) ?_
          refine lv_bipush (v := 30) hx hb dL_law_180 (by decide) ?_
          refine me_callSnp (nA := 2) (As := [.ref bo, .int 30]) (rest := []) hC hl.1 hM (c_L_cancelled_x1 (mc := 1) (ms := 6) l D tb X z0 n_3 bo 30 hCE rfl rfl ⟨Nat.le_of_ble_eq_true rfl, Nat.le_of_ble_eq_true rfl⟩ (bq_at h_b) (c_X7_cancel_x1 l D tb X z0 n_3 bo g G F sf inp out (me_up M0 ra (.inl (tb 0, 1, .inl f))) S B L P 30 hfl hXs (Or.inr (by rw [hL]; exact (nI_leI (b := 30) (by omega) (by omega)).mpr hL0)))) w_779 w_780 w_0 w_781 (by decide +kernel) rfl rfl ⟨Nat.le_of_ble_eq_true rfl, Nat.le_of_ble_eq_true rfl⟩ rfl rfl (Nat.le_of_ble_eq_true rfl) dL_law_182 ⟨by show (((((cells + 12) + 0) + 1) + 0) + 1) + 1 ≤ 630311; omega, by show (((((slots + 72) + 0) + 6) + 0) + 6) + 6 ≤ 7210765; omega⟩ (fun r_4 M_4 hP_4 H locs n_4 hM => ?_)
          obtain ⟨rfl, rfl⟩ := hP_4
          refine lv_ldc (v := (-99995)) hx hb hC.2.2.2.1 (hw _ w_793) dL_law_185 ?_
          refine lv_icmp_ne (tgt := 281) hx hb dL_law_187 (by decide) (fun c_5 => ?_) (fun c_5 => ?_)
          · exact absurd c_5 (by decide)
          · refine lv_aload_n hx hb dL_law_190 rfl (lv_at hl 2 rfl) ?_
            refine lv_iconst (v := (-1)) hx hb dL_law_191 (by decide) ?_
            refine me_callSnp (nA := 2) (As := [.ref bo, .int (-1)]) (rest := []) hC hl.1 hM (c_L_whistled_x1 (mc := 1) (ms := 6) l D tb X z0 n_4 bo (-1) hCE rfl rfl ⟨Nat.le_of_ble_eq_true rfl, Nat.le_of_ble_eq_true rfl⟩ (bq_at h_b) (c_X7_whistle_x1 l D tb X z0 n_4 bo g G F sf inp out (me_up M0 ra (.inl (tb 0, 1, .inl f))) S B L P (-1) hfl hXs (Or.inl (by decide)))) w_795 w_796 w_0 w_797 (by decide +kernel) rfl rfl ⟨Nat.le_of_ble_eq_true rfl, Nat.le_of_ble_eq_true rfl⟩ rfl rfl (Nat.le_of_ble_eq_true rfl) dL_law_192 ⟨by show ((((((cells + 12) + 0) + 1) + 0) + 1) + 1) + 1 ≤ 630311; omega, by show ((((((slots + 72) + 0) + 6) + 0) + 6) + 6) + 6 ≤ 7210765; omega⟩ (fun r_5 M_5 hP_5 H locs n_5 hM => ?_)
            obtain ⟨rfl, rfl⟩ := hP_5
            refine lv_bipush (v := (-5)) hx hb dL_law_195 (by decide) ?_
            refine lv_icmp_ne (tgt := 281) hx hb dL_law_197 (by decide) (fun c_6 => ?_) (fun c_6 => ?_)
            · exact absurd c_6 (by decide)
            · refine lv_aload_n hx hb dL_law_200 rfl (lv_at hl 2 rfl) ?_
              refine lv_bipush (v := 8) hx hb dL_law_201 (by decide) ?_
              refine lv_aload_n hx hb dL_law_203 rfl (lv_at hl 2 rfl) ?_
              refine me_callVi (As := []) (rest := [.int 8, .ref bo]) hC hl.1 hM (c_X7_clock l D tb X z0 n_5 bo g G F sf inp out (me_up M0 ra (.inl (tb 0, 1, .inl f))) S B L P  ) (kv_L_104 hw rfl rfl ⟨Nat.le_of_ble_eq_true rfl, Nat.le_of_ble_eq_true rfl⟩) rfl rfl (bq_at h_b) rfl (Nat.le_of_ble_eq_true rfl) dL_law_204 ⟨by show (((((((cells + 12) + 0) + 1) + 0) + 1) + 1) + 1) + 0 ≤ 630311; omega, by show (((((((slots + 72) + 0) + 6) + 0) + 6) + 6) + 6) + 0 ≤ 7210765; omega⟩ (fun H locs hM => ?_)
              refine me_evi (y := nI T) hT ?_
              refine lv_iconst (v := 1) hx hb dL_law_207 (by decide) ?_
              refine me_callSnp (nA := 4) (As := [.ref bo, .int 8, .int (nI T), .int 1]) (rest := []) hC hl.1 hM (c_L_permitted_x1 (mc := 1) (ms := 6) l D tb X z0 n_5 bo 8 (nI T) 1 hCE rfl rfl ⟨Nat.le_of_ble_eq_true rfl, Nat.le_of_ble_eq_true rfl⟩ (bq_at h_b) (c_X7_grantPermit_x1 l D tb X z0 n_5 bo g G F sf inp out (me_up M0 ra (.inl (tb 0, 1, .inl f))) S B L P 8 (nI T) 1 hfl hXs (Or.inr (by rw [hS]; exact (nI_leI (b := 8) (by omega) (by omega)).mpr hS0)))) w_805 w_806 w_0 w_807 (by decide +kernel) rfl rfl ⟨Nat.le_of_ble_eq_true rfl, Nat.le_of_ble_eq_true rfl⟩ rfl rfl (Nat.le_of_ble_eq_true rfl) dL_law_208 ⟨by show ((((((((cells + 12) + 0) + 1) + 0) + 1) + 1) + 1) + 0) + 1 ≤ 630311; omega, by show ((((((((slots + 72) + 0) + 6) + 0) + 6) + 6) + 6) + 0) + 6 ≤ 7210765; omega⟩ (fun r_6 M_6 hP_6 H locs n_6 hM => ?_)
              obtain ⟨rfl, rfl⟩ := hP_6
              refine lv_bipush (v := (-5)) hx hb dL_law_211 (by decide) ?_
              refine lv_icmp_ne (tgt := 281) hx hb dL_law_213 (by decide) (fun c_7 => ?_) (fun c_7 => ?_)
              · exact absurd c_7 (by decide)
              · refine lv_aload_n hx hb dL_law_216 rfl (lv_at hl 2 rfl) ?_
                refine lv_iconst (v := 0) hx hb dL_law_217 (by decide) ?_
                refine lv_aload_n hx hb dL_law_218 rfl (lv_at hl 2 rfl) ?_
                refine me_callVi (As := []) (rest := [.int 0, .ref bo]) hC hl.1 hM (c_X7_clock l D tb X z0 n_6 bo g G F sf inp out (me_up M0 ra (.inl (tb 0, 1, .inl f))) S B L P  ) (kv_L_104 hw rfl rfl ⟨Nat.le_of_ble_eq_true rfl, Nat.le_of_ble_eq_true rfl⟩) rfl rfl (bq_at h_b) rfl (Nat.le_of_ble_eq_true rfl) dL_law_219 ⟨by show (((((((((cells + 12) + 0) + 1) + 0) + 1) + 1) + 1) + 0) + 1) + 0 ≤ 630311; omega, by show (((((((((slots + 72) + 0) + 6) + 0) + 6) + 6) + 6) + 0) + 6) + 0 ≤ 7210765; omega⟩ (fun H locs hM => ?_)
                refine me_evi (y := nI T) hT ?_
                refine lv_iconst (v := 1) hx hb dL_law_222 (by decide) ?_
                refine lv_isub hx hb dL_law_223 ?_
                refine lv_iconst (v := 1) hx hb dL_law_224 (by decide) ?_
                refine me_callSnp (nA := 4) (As := [.ref bo, .int 0, .int ((nI T) - 1), .int 1]) (rest := []) hC hl.1 hM (c_L_permitted_x2 (mc := 1) (ms := 6) l D tb X z0 n_6 bo 0 ((nI T) - 1) 1 hCE rfl rfl ⟨Nat.le_of_ble_eq_true rfl, Nat.le_of_ble_eq_true rfl⟩ (bq_at h_b) (c_X7_grantPermit_x3 l D tb X z0 n_6 bo g G F sf inp out (me_up M0 ra (.inl (tb 0, 1, .inl f))) S B L P 0 ((nI T) - 1) 1 hfl hXs hW (by omega) (by omega) (by omega) (Or.inl (by rw [hT]; exact tm2 (by omega))))) w_805 w_806 w_0 w_807 (by decide +kernel) rfl rfl ⟨Nat.le_of_ble_eq_true rfl, Nat.le_of_ble_eq_true rfl⟩ rfl rfl (Nat.le_of_ble_eq_true rfl) dL_law_225 ⟨by show ((((((((((cells + 12) + 0) + 1) + 0) + 1) + 1) + 1) + 0) + 1) + 0) + 1 ≤ 630311; omega, by show ((((((((((slots + 72) + 0) + 6) + 0) + 6) + 6) + 6) + 0) + 6) + 0) + 6 ≤ 7210765; omega⟩ (fun r_7 M_7 hP_7 H locs n_7 hM => ?_)
                obtain ⟨rfl, rfl⟩ := hP_7
                refine lv_bipush (v := (-2)) hx hb dL_law_228 (by decide) ?_
                refine lv_icmp_ne (tgt := 281) hx hb dL_law_230 (by decide) (fun c_8 => ?_) (fun c_8 => ?_)
                · exact absurd c_8 (by decide)
                · refine lv_aload_n hx hb dL_law_233 rfl (lv_at hl 2 rfl) ?_
                  refine lv_bipush (v := 10) hx hb dL_law_234 (by decide) ?_
                  refine me_callSnp (nA := 2) (As := [.ref bo, .int 10]) (rest := []) hC hl.1 hM (c_L_revoked_x1 (mc := 1) (ms := 6) l D tb X z0 n_7 bo 10 hCE rfl rfl ⟨Nat.le_of_ble_eq_true rfl, Nat.le_of_ble_eq_true rfl⟩ (bq_at h_b) (c_X7_revokePermit_x1 l D tb X z0 n_7 bo g G F sf inp out (me_up M0 ra (.inl (tb 0, 1, .inl f))) S B L P 10 hfl hXs hW (Or.inr (by rw [hP]; exact (nI_leI (b := 10) (by omega) (by omega)).mpr hP0)))) w_820 w_821 w_0 w_822 (by decide +kernel) rfl rfl ⟨Nat.le_of_ble_eq_true rfl, Nat.le_of_ble_eq_true rfl⟩ rfl rfl (Nat.le_of_ble_eq_true rfl) dL_law_236 ⟨by show (((((((((((cells + 12) + 0) + 1) + 0) + 1) + 1) + 1) + 0) + 1) + 0) + 1) + 1 ≤ 630311; omega, by show (((((((((((slots + 72) + 0) + 6) + 0) + 6) + 6) + 6) + 0) + 6) + 0) + 6) + 6 ≤ 7210765; omega⟩ (fun r_8 M_8 hP_8 H locs n_8 hM => ?_)
                  obtain ⟨rfl, rfl⟩ := hP_8
                  refine lv_bipush (v := (-5)) hx hb dL_law_239 (by decide) ?_
                  refine lv_icmp_ne (tgt := 281) hx hb dL_law_241 (by decide) (fun c_9 => ?_) (fun c_9 => ?_)
                  · exact absurd c_9 (by decide)
                  · refine lv_aload_n hx hb dL_law_244 rfl (lv_at hl 2 rfl) ?_
                    refine lv_iconst (v := 0) hx hb dL_law_245 (by decide) ?_
                    refine lv_sipush (v := 1000) hx hb dL_law_246 (by decide) ?_
                    refine me_callSnp (nA := 3) (As := [.ref bo, .int 0, .int 1000]) (rest := []) hC hl.1 hM (c_L_paid_x2 (mc := 1) (ms := 6) l D tb X z0 n_8 bo 0 1000 hCE rfl rfl ⟨Nat.le_of_ble_eq_true rfl, Nat.le_of_ble_eq_true rfl⟩ (bq_at h_b) (c_X7_pay_x2 l D tb X z0 n_8 bo g G F sf inp out (me_up M0 ra (.inl (tb 0, 1, .inl f))) S B L P 0 1000 hfl hXs hW (by omega) (Or.inr (by decide)))) w_833 w_834 w_0 w_835 (by decide +kernel) rfl rfl ⟨Nat.le_of_ble_eq_true rfl, Nat.le_of_ble_eq_true rfl⟩ rfl rfl (Nat.le_of_ble_eq_true rfl) dL_law_249 ⟨by show ((((((((((((cells + 12) + 0) + 1) + 0) + 1) + 1) + 1) + 0) + 1) + 0) + 1) + 1) + 1 ≤ 630311; omega, by show ((((((((((((slots + 72) + 0) + 6) + 0) + 6) + 6) + 6) + 0) + 6) + 0) + 6) + 6) + 6 ≤ 7210765; omega⟩ (fun r_9 M_9 hP_9 H locs n_9 hM => ?_)
                    obtain ⟨rfl, rfl⟩ := hP_9
                    refine lv_ldc (v := (-99992)) hx hb hC.2.2.2.1 (hw _ w_841) dL_law_252 ?_
                    refine lv_icmp_ne (tgt := 281) hx hb dL_law_254 (by decide) (fun c_10 => ?_) (fun c_10 => ?_)
                    · exact absurd c_10 (by decide)
                    · refine lv_aload_n hx hb dL_law_257 rfl (lv_at hl 2 rfl) ?_
                      refine lv_iconst (v := 0) hx hb dL_law_258 (by decide) ?_
                      refine me_callSnp (nA := 2) (As := [.ref bo, .int 0]) (rest := []) hC hl.1 hM (c_L_advanced_x1 (mc := 1) (ms := 6) l D tb X z0 n_9 bo 0 hCE rfl rfl ⟨Nat.le_of_ble_eq_true rfl, Nat.le_of_ble_eq_true rfl⟩ (bq_at h_b) (c_X7_advance_x1 l D tb X z0 n_9 bo g G F sf inp out (me_up M0 ra (.inl (tb 0, 1, .inl f))) S B L P 0 hfl hXs hW (Or.inl (by decide)))) w_842 w_843 w_0 w_844 (by decide +kernel) rfl rfl ⟨Nat.le_of_ble_eq_true rfl, Nat.le_of_ble_eq_true rfl⟩ rfl rfl (Nat.le_of_ble_eq_true rfl) dL_law_259 ⟨by show (((((((((((((cells + 12) + 0) + 1) + 0) + 1) + 1) + 1) + 0) + 1) + 0) + 1) + 1) + 1) + 1 ≤ 630311; omega, by show (((((((((((((slots + 72) + 0) + 6) + 0) + 6) + 6) + 6) + 0) + 6) + 0) + 6) + 6) + 6) + 6 ≤ 7210765; omega⟩ (fun r_10 M_10 hP_10 H locs n_10 hM => ?_)
                      obtain ⟨rfl, rfl⟩ := hP_10
                      refine lv_bipush (v := (-2)) hx hb dL_law_262 (by decide) ?_
                      refine lv_icmp_ne (tgt := 281) hx hb dL_law_264 (by decide) (fun c_11 => ?_) (fun c_11 => ?_)
                      · exact absurd c_11 (by decide)
                      · refine lv_aload_n hx hb dL_law_267 rfl (lv_at hl 2 rfl) ?_
                        refine me_callSl (As := [.ref bo]) (rest := []) hC hl.1 hM (c_L_sum l D tb X z0 n_10 bo g G F sf inp out (me_up M0 ra (.inl (tb 0, 1, .inl f))) S B L P T hN hW hT hT0) (ks_L_239 hw rfl rfl ⟨Nat.le_of_ble_eq_true rfl, Nat.le_of_ble_eq_true rfl⟩) rfl rfl (Nat.le_of_ble_eq_true rfl) dL_law_268 ⟨by show ((((((((((((((cells + 12) + 0) + 1) + 0) + 1) + 1) + 1) + 0) + 1) + 0) + 1) + 1) + 1) + 1) + 12 ≤ 630311; omega, by show ((((((((((((((slots + 72) + 0) + 6) + 0) + 6) + 6) + 6) + 0) + 6) + 0) + 6) + 6) + 6) + 6) + 72 ≤ 7210765; omega⟩ (fun r_11 M_11 hP_11 H locs n_11 hM => ?_)
                        obtain ⟨rfl, rfl⟩ := hP_11
                        refine lv_lload hx hb dL_law_271 (lv_at hl 0 rfl) ?_
                        refine W.lcmp hx hb dL_law_273 ?_
                        refine me_evi (y := 0) (lg_0 _) ?_
                        refine lv_if_ne (tgt := 281) hx hb dL_law_274 (by decide) (fun c_12 => ?_) (fun c_12 => ?_)
                        · exact absurd c_12 (by decide)
                        · refine lv_iconst (v := 1) hx hb dL_law_277 (by decide) ?_
                          refine lv_goto (tgt := 282) hx hb dL_law_278 (by decide) ?_
                          refine lv_istore_n (lv' := [(3, .int 1), (10, .long (sumF g S B L P T)), (0, .ref b), (1, .ref bo), (2, .ref ra), (4, .int (nI q)), (6, .long bg), (8, .int ck), (9, .int (nI u))]) hx hb dL_law_282 rfl hl (by decide) rfl (fun ls hl => ?_)
                          refine lv_iload_n hx hb dL_law_283 rfl (lv_at hl 0 rfl) ?_
                          refine lv_if_eq (tgt := 330) hx hb dL_law_284 (by decide) (fun c_13 => ?_) (fun c_13 => ?_)
                          · exact absurd c_13 (by decide)
                          · refine lv_aload_n hx hb dL_law_287 rfl (lv_at hl 3 rfl) ?_
                            refine lv_aload_n hx hb dL_law_288 rfl (lv_at hl 4 rfl) ?_
                            refine me_callSp (As := [.ref bo, .ref ra]) (rest := []) hC hl.1 hM (c_L_act l D tb X z0 n_11 bo g G F sf inp out M0 S B L P T nx ct hN ra f hfl hXs hCE hW hT hT0 (by omega) hnx hnx0 hct hct0 hS1 hB1 hra (iv_a0 hI) (iv_a1 hI (by omega) (by omega)) (iv_a3 hI (by omega)) (iv_a4 hI) (iv_a5 hI (by omega)) (iv_a6 (by omega)) (fun n h1 h2 => (iv_pa (by omega) hB1 n T _ hI (by omega)).2.1) (iv_a8 hI (by omega)) (fun n h1 h2 => pa_4 hB1 (by omega) n T _ hI (by omega)) (iv_a10 hI (by omega) (by omega) hB1) (iv_ho1 hI (by omega) (by omega) hB1).2) (ks_L_243 hw rfl rfl ⟨Nat.le_of_ble_eq_true rfl, Nat.le_of_ble_eq_true rfl⟩) rfl rfl (Nat.le_of_ble_eq_true rfl) dL_law_289 ⟨by show (((((((((((((((cells + 12) + 0) + 1) + 0) + 1) + 1) + 1) + 0) + 1) + 0) + 1) + 1) + 1) + 1) + 12) + 8 ≤ 630311; omega, by show (((((((((((((((slots + 72) + 0) + 6) + 0) + 6) + 6) + 6) + 0) + 6) + 0) + 6) + 6) + 6) + 6) + 72) + 60 ≤ 7210765; omega⟩ (fun r_12 M_12 hP_12 H locs n_12 hM => ?_)
                            obtain ⟨g2, L2, P2, T2, f2, rfl, hst, rfl⟩ := hP_12
                            obtain ⟨hI2, hTa, hTb⟩ := iv_stp hI (by omega) (by omega) hB1 hst
                            have hW2 := hI2.1
                            have hT2 := hI2.2.1
                            have hT3 : T2 ≤ 10000 := by omega
                            obtain ⟨G2, hG2⟩ : ∃ z, recG G g S B L P nx = z := ⟨_, rfl⟩
                            obtain ⟨F2, hF2⟩ : ∃ z, recF F nx ct = z := ⟨_, rfl⟩
                            rw [hG2, hF2] at hM
                            have hq2_ := hW2
                            obtain ⟨-, -, hB2, -, hL2, hL20, -, hP20, -, -⟩ := hq2_
                            have hF4 : F2 4 = nI ((nx + 1) % 10) := by rw [← hF2]; unfold recF; rw [upd_n (by omega), upd_s]
                            have hF5 : F2 5 = nI (min (ct + 1) 10) := by rw [← hF2]; unfold recF; rw [upd_s]
                            have hF02 : F2 0 = 0 := by rw [← hF2]; unfold recF; rw [upd_n (by omega), upd_n (by omega)]; exact hF0
                            have hGo : ∀ j, 12 ≤ j → G2 j = G j := fun j hj => by rw [← hG2]; exact updG_n (by omega)
                            refine lv_if_eq (tgt := 330) hx hb dL_law_292 (by decide) (fun c_14 => ?_) (fun c_14 => ?_)
                            · exact absurd c_14 (by decide)
                            · refine lv_aload_n hx hb dL_law_295 rfl (lv_at hl 3 rfl) ?_
                              refine me_callSp (As := [.ref bo]) (rest := []) hC hl.1 hM (c_L_horizon l D tb X z0 n_12 bo g2 G2 F2 sf inp out (me_up M0 ra (.inl (tb 0, 1, .inl f2))) S B L2 P2 T2 hN hW2 hT2 hT3 hI2.2.2.2.1 (iv_tw hI2 (by omega)) (iv_h1 hI2 (by omega)) (iv_h2 hI2 (by omega)) (iv_h3 hI2) (iv_h4 hI2) (iv_hN1 hI2 (by omega)) (iv_hN2 hI2) (iv_hN3 hI2)) (ks_L_247 hw rfl rfl ⟨Nat.le_of_ble_eq_true rfl, Nat.le_of_ble_eq_true rfl⟩) rfl rfl (Nat.le_of_ble_eq_true rfl) dL_law_296 ⟨by show ((((((((((((((((cells + 12) + 0) + 1) + 0) + 1) + 1) + 1) + 0) + 1) + 0) + 1) + 1) + 1) + 1) + 12) + 8) + 0 ≤ 630311; omega, by show ((((((((((((((((slots + 72) + 0) + 6) + 0) + 6) + 6) + 6) + 0) + 6) + 0) + 6) + 6) + 6) + 6) + 72) + 60) + 0 ≤ 7210765; omega⟩ (fun r_13 M_13 hP_13 H locs n_13 hM => ?_)
                              obtain ⟨rfl, rfl⟩ := hP_13
                              refine lv_if_eq (tgt := 330) hx hb dL_law_299 (by decide) (fun c_15 => ?_) (fun c_15 => ?_)
                              · exact absurd c_15 (by decide)
                              · refine lv_aload_n hx hb dL_law_302 rfl (lv_at hl 3 rfl) ?_
                                refine lv_aload_n hx hb dL_law_303 rfl (lv_at hl 4 rfl) ?_
                                refine me_callSp (As := [.ref ra]) (rest := [.ref bo]) hC hl.1 hM (c_L_next l D tb X z0 n_13 ra f2 (sp tb (bo + 722) g2 (bq tb bo G2 F2 sf inp out (me_up M0 ra (.inl (tb 0, 1, .inl f2))))) (bq_some hra (me_up_s _ _ _))) (ks_L_79 hw rfl rfl ⟨Nat.le_of_ble_eq_true rfl, Nat.le_of_ble_eq_true rfl⟩) rfl rfl (Nat.le_of_ble_eq_true rfl) dL_law_304 ⟨by show (((((((((((((((((cells + 12) + 0) + 1) + 0) + 1) + 1) + 1) + 0) + 1) + 0) + 1) + 1) + 1) + 1) + 12) + 8) + 0) + 0 ≤ 630311; omega, by show (((((((((((((((((slots + 72) + 0) + 6) + 0) + 6) + 6) + 6) + 0) + 6) + 0) + 6) + 6) + 6) + 6) + 72) + 60) + 0) + 0 ≤ 7210765; omega⟩ (fun r_14 M_14 hP_14 H locs n_14 hM => ?_)
                                obtain ⟨v_14, f_14, rfl, hv_14, rfl⟩ := hP_14
                                have hM := hM.eq (bq_upo hra)
                                refine lv_aload_n hx hb dL_law_307 rfl (lv_at hl 3 rfl) ?_
                                refine me_callVi (As := []) (rest := [.int (nI v_14), .ref bo]) hC hl.1 hM (c_X7_borrowerCount l D tb X z0 n_14 bo g2 G2 F2 sf inp out (me_up M0 ra (.inl (tb 0, 1, .inl f_14))) S B L2 P2  ) (kv_L_125 hw rfl rfl ⟨Nat.le_of_ble_eq_true rfl, Nat.le_of_ble_eq_true rfl⟩) rfl rfl (bq_at h_b) rfl (Nat.le_of_ble_eq_true rfl) dL_law_308 ⟨by show ((((((((((((((((((cells + 12) + 0) + 1) + 0) + 1) + 1) + 1) + 0) + 1) + 0) + 1) + 1) + 1) + 1) + 12) + 8) + 0) + 0) + 0 ≤ 630311; omega, by show ((((((((((((((((((slots + 72) + 0) + 6) + 0) + 6) + 6) + 6) + 0) + 6) + 0) + 6) + 6) + 6) + 6) + 72) + 60) + 0) + 0) + 0 ≤ 7210765; omega⟩ (fun H locs hM => ?_)
                                refine me_evi (y := nI B) hW2.2.2.1 ?_
                                refine lv_irem hx hb dL_law_311 (nI_ne0 (by omega) (by omega)) ?_
                                have hmd_ := Nat.mod_lt v_14 (show 0 < B by omega)
                                refine me_evi (y := nI (v_14 % B)) (nx_rem B rfl (by omega) (by omega) (by omega)) ?_
                                refine lv_iconst (v := 1) hx hb dL_law_312 (by decide) ?_
                                refine lv_aload_n hx hb dL_law_313 rfl (lv_at hl 4 rfl) ?_
                                refine me_callSp (As := [.ref ra]) (rest := [.int 1, .int (nI (v_14 % B)), .ref bo]) hC hl.1 hM (c_L_next l D tb X z0 n_14 ra f_14 (sp tb (bo + 722) g2 (bq tb bo G2 F2 sf inp out (me_up M0 ra (.inl (tb 0, 1, .inl f_14))))) (bq_some hra (me_up_s _ _ _))) (ks_L_79 hw rfl rfl ⟨Nat.le_of_ble_eq_true rfl, Nat.le_of_ble_eq_true rfl⟩) rfl rfl (Nat.le_of_ble_eq_true rfl) dL_law_314 ⟨by show (((((((((((((((((((cells + 12) + 0) + 1) + 0) + 1) + 1) + 1) + 0) + 1) + 0) + 1) + 1) + 1) + 1) + 12) + 8) + 0) + 0) + 0) + 0 ≤ 630311; omega, by show (((((((((((((((((((slots + 72) + 0) + 6) + 0) + 6) + 6) + 6) + 0) + 6) + 0) + 6) + 6) + 6) + 6) + 72) + 60) + 0) + 0) + 0) + 0 ≤ 7210765; omega⟩ (fun r_15 M_15 hP_15 H locs n_15 hM => ?_)
                                obtain ⟨v_15, f_15, rfl, hv_15, rfl⟩ := hP_15
                                have hM := hM.eq (bq_upo hra)
                                refine lv_iconst (v := 4) hx hb dL_law_317 (by decide) ?_
                                refine lv_irem hx hb dL_law_318 (by decide) ?_
                                refine me_evi (y := nI (v_15 % 4)) (nx_rem 4 rfl (by omega) (by omega) (by omega)) ?_
                                refine lv_iadd hx hb dL_law_319 ?_
                                refine me_evi (y := nI (1 + (v_15 % 4))) (nx_add (show (1 : Int32) = nI 1 from rfl) rfl) ?_
                                refine me_callSp (As := [.ref bo, .int (nI (v_14 % B)), .int (nI (1 + (v_15 % 4)))]) (rest := []) hC hl.1 hM (c_L_refusals l D tb X z0 n_15 bo g2 G2 F2 sf inp out (me_up M0 ra (.inl (tb 0, 1, .inl f_15))) S B L2 P2 T2 hN (v_14 % B) (1 + (v_15 % 4)) hW2 hT2 hT3 (by omega) (by omega) (by omega) (iv_rn hI2 (by omega) (by omega)) (iv_hlka hI2 (by omega) (by omega) (by omega))) (ks_L_251 hw rfl rfl ⟨Nat.le_of_ble_eq_true rfl, Nat.le_of_ble_eq_true rfl⟩) rfl rfl (Nat.le_of_ble_eq_true rfl) dL_law_320 ⟨by show ((((((((((((((((((((cells + 12) + 0) + 1) + 0) + 1) + 1) + 1) + 0) + 1) + 0) + 1) + 1) + 1) + 1) + 12) + 8) + 0) + 0) + 0) + 0) + 0 ≤ 630311; omega, by show ((((((((((((((((((((slots + 72) + 0) + 6) + 0) + 6) + 6) + 6) + 0) + 6) + 0) + 6) + 6) + 6) + 6) + 72) + 60) + 0) + 0) + 0) + 0) + 0 ≤ 7210765; omega⟩ (fun r_16 M_16 hP_16 H locs n_16 hM => ?_)
                                obtain ⟨rfl, rfl⟩ := hP_16
                                refine lv_if_eq (tgt := 330) hx hb dL_law_323 (by decide) (fun c_16 => ?_) (fun c_16 => ?_)
                                · exact absurd c_16 (by decide)
                                · refine lv_iconst (v := 1) hx hb dL_law_326 (by decide) ?_
                                  refine lv_goto (tgt := 331) hx hb dL_law_327 (by decide) ?_
                                  refine lv_istore_n (lv' := [(3, .int 1), (10, .long (sumF g S B L P T)), (0, .ref b), (1, .ref bo), (2, .ref ra), (4, .int (nI q)), (6, .long bg), (8, .int ck), (9, .int (nI u))]) hx hb dL_law_331 rfl hl (by decide) rfl (fun ls hl => ?_)
                                  refine lv_iload_n hx hb dL_law_332 rfl (lv_at hl 0 rfl) ?_
                                  refine lv_if_eq (tgt := 368) hx hb dL_law_333 (by decide) (fun c_17 => ?_) (fun c_17 => ?_)
                                  · exact absurd c_17 (by decide)
                                  · refine lv_aload_n hx hb dL_law_336 rfl (lv_at hl 4 rfl) ?_
                                    refine me_callSp (As := [.ref ra]) (rest := []) hC hl.1 hM (c_L_next l D tb X z0 n_16 ra f_15 (sp tb (bo + 722) g2 (bq tb bo G2 F2 sf inp out (me_up M0 ra (.inl (tb 0, 1, .inl f_15))))) (bq_some hra (me_up_s _ _ _))) (ks_L_79 hw rfl rfl ⟨Nat.le_of_ble_eq_true rfl, Nat.le_of_ble_eq_true rfl⟩) rfl rfl (Nat.le_of_ble_eq_true rfl) dL_law_337 ⟨by show (((((((((((((((((((((cells + 12) + 0) + 1) + 0) + 1) + 1) + 1) + 0) + 1) + 0) + 1) + 1) + 1) + 1) + 12) + 8) + 0) + 0) + 0) + 0) + 0) + 0 ≤ 630311; omega, by show (((((((((((((((((((((slots + 72) + 0) + 6) + 0) + 6) + 6) + 6) + 0) + 6) + 0) + 6) + 6) + 6) + 6) + 72) + 60) + 0) + 0) + 0) + 0) + 0) + 0 ≤ 7210765; omega⟩ (fun r_17 M_17 hP_17 H locs n_17 hM => ?_)
                                    obtain ⟨v_17, f_17, rfl, hv_17, rfl⟩ := hP_17
                                    have hM := hM.eq (bq_upo hra)
                                    refine lv_iconst (v := 4) hx hb dL_law_340 (by decide) ?_
                                    refine lv_irem hx hb dL_law_341 (by decide) ?_
                                    refine me_evi (y := nI (v_17 % 4)) (nx_rem 4 rfl (by omega) (by omega) (by omega)) ?_
                                    refine lv_if_ne (tgt := 368) hx hb dL_law_342 (by decide) (fun c_18 => ?_) (fun c_18 => ?_)
                                    · have c_18 := (not_congr (br_eq rfl (show (0 : Int32) = nI 0 from rfl) (by omega) (by omega))).mp c_18
                                      refine lv_iinc (v := nI (u + 1)) (lv' := [(9, .int (nI (u + 1))), (3, .int 1), (10, .long (sumF g S B L P T)), (0, .ref b), (1, .ref bo), (2, .ref ra), (4, .int (nI q)), (6, .long bg), (8, .int ck)]) hx hb dL_law_368 hl (k := 8) rfl (nx_add rfl rfl) (by decide) rfl (fun ls hl => ?_)
                                      refine lv_goto (tgt := 130) hx hb dL_law_371 (by decide) ?_
                                      exact W.widen (by omega) (by omega) (kk g2 G2 F2 f_17 L2 P2 T2 ((nx + 1) % 10) (min (ct + 1) 10) ls H locs n_17 hI2 hTb hF02 hF4 (by omega) hF5 (by omega) hGo hM (lv_sub hl [3, 4, 5, 1, 6, 7, 8, 0] rfl))
                                    · have c_18 := (br_eq rfl (show (0 : Int32) = nI 0 from rfl) (by omega) (by omega)).mp c_18
                                      have hbz := hI.2.2.2.2.2.2.2.2.1
                                      have hGa : ag S B L P (G2 (1 + nx)) g := by rw [← hG2, show recG G g S B L P nx (1 + nx) = cpF g S B L P (G (1 + nx)) from updG_s _ _ _]; exact iv_cp hI _
                                      have hGw := ag_wf hGa hW
                                      have hF5m : F2 5 - 1 = nI (min (ct + 1) 10 - 1) := by rw [hF5]; exact nx_sub rfl (show (1 : Int32) = nI 1 from rfl) (by omega)
                                      refine lv_aload_n hx hb dL_law_345 rfl (lv_at hl 3 rfl) ?_
                                      refine me_callSnp (nA := 1) (As := [.ref bo]) (rest := []) hC hl.1 hM (c_L_undone (mc := 0) (ms := 0) l D tb X z0 n_17 bo rfl rfl ⟨Nat.le_of_ble_eq_true rfl, Nat.le_of_ble_eq_true rfl⟩ (bq_at h_b) (c_X7_undo l D tb X z0 n_17 bo g2 G2 F2 sf inp out (me_up M0 ra (.inl (tb 0, 1, .inl f_17))) S B L2 P2 ((nx + 1) % 10) nx (min (ct + 1) 10) S B L P hW2 hF4 (by omega) hF5 (by omega) (by omega) (by omega) hGw)) w_743 w_744 w_0 w_745 (by decide +kernel) rfl rfl ⟨Nat.le_of_ble_eq_true rfl, Nat.le_of_ble_eq_true rfl⟩ rfl rfl (Nat.le_of_ble_eq_true rfl) dL_law_346 ⟨by show ((((((((((((((((((((((cells + 12) + 0) + 1) + 0) + 1) + 1) + 1) + 0) + 1) + 0) + 1) + 1) + 1) + 1) + 12) + 8) + 0) + 0) + 0) + 0) + 0) + 0) + 0 ≤ 630311; omega, by show ((((((((((((((((((((((slots + 72) + 0) + 6) + 0) + 6) + 6) + 6) + 0) + 6) + 0) + 6) + 6) + 6) + 6) + 72) + 60) + 0) + 0) + 0) + 0) + 0) + 0) + 0 ≤ 7210765; omega⟩ (fun r_18 M_18 hP_18 H locs n_18 hM => ?_)
                                      obtain ⟨rfl, rfl⟩ := hP_18
                                      have hA3 := ag_cp (g := g2) hGa hW hbz
                                      obtain ⟨g3, hg3⟩ : ∃ z, (cpF (G2 (1 + nx)) S B L P g2) = z := ⟨_, rfl⟩
                                      obtain ⟨F3, hF3⟩ : ∃ z, (upd (upd F2 4 (nI nx)) 5 (F2 5 - 1)) = z := ⟨_, rfl⟩
                                      rw [hg3, hF3] at hM
                                      rw [hg3] at hA3
                                      have hI3 := iv_ag hA3 hI
                                      have hW3 := hI3.1
                                      have hT4 := hI3.2.1
                                      have hs3 := iv_sum hA3 hI (by omega)
                                      refine lv_if_lt (tgt := 366) hx hb dL_law_349 (by decide) (fun c_19 => ?_) (fun c_19 => ?_)
                                      · have c_19 := (br_lt hF5m (show (0 : Int32) = nI 0 from rfl) (by omega) (by omega)).mp c_19
                                        exfalso; omega
                                      · have c_19 := (not_congr (br_lt hF5m (show (0 : Int32) = nI 0 from rfl) (by omega) (by omega))).mp c_19
                                        refine lv_aload_n hx hb dL_law_352 rfl (lv_at hl 3 rfl) ?_
                                        refine me_callSl (As := [.ref bo]) (rest := []) hC hl.1 hM (c_L_sum l D tb X z0 n_18 bo g3 G2 F3 sf inp out (me_up M0 ra (.inl (tb 0, 1, .inl f_17))) S B L P T hN hW3 hT4 hT0) (ks_L_239 hw rfl rfl ⟨Nat.le_of_ble_eq_true rfl, Nat.le_of_ble_eq_true rfl⟩) rfl rfl (Nat.le_of_ble_eq_true rfl) dL_law_353 ⟨by show (((((((((((((((((((((((cells + 12) + 0) + 1) + 0) + 1) + 1) + 1) + 0) + 1) + 0) + 1) + 1) + 1) + 1) + 12) + 8) + 0) + 0) + 0) + 0) + 0) + 0) + 0) + 12 ≤ 630311; omega, by show (((((((((((((((((((((((slots + 72) + 0) + 6) + 0) + 6) + 6) + 6) + 0) + 6) + 0) + 6) + 6) + 6) + 6) + 72) + 60) + 0) + 0) + 0) + 0) + 0) + 0) + 0) + 72 ≤ 7210765; omega⟩ (fun r_19 M_19 hP_19 H locs n_19 hM => ?_)
                                        obtain ⟨rfl, rfl⟩ := hP_19
                                        refine lv_lload hx hb dL_law_356 (lv_at hl 1 rfl) ?_
                                        refine W.lcmp hx hb dL_law_358 ?_
                                        refine me_evi (y := 0) (by rw [hs3]; exact lg_0 _) ?_
                                        refine lv_if_ne (tgt := 366) hx hb dL_law_359 (by decide) (fun c_20 => ?_) (fun c_20 => ?_)
                                        · exact absurd c_20 (by decide)
                                        · refine lv_iconst (v := 1) hx hb dL_law_362 (by decide) ?_
                                          refine lv_goto (tgt := 367) hx hb dL_law_363 (by decide) ?_
                                          refine lv_istore_n (lv' := [(3, .int 1), (10, .long (sumF g S B L P T)), (0, .ref b), (1, .ref bo), (2, .ref ra), (4, .int (nI q)), (6, .long bg), (8, .int ck), (9, .int (nI u))]) hx hb dL_law_367 rfl hl (by decide) rfl (fun ls hl => ?_)
                                          refine lv_iinc (v := nI (u + 1)) (lv' := [(9, .int (nI (u + 1))), (3, .int 1), (10, .long (sumF g S B L P T)), (0, .ref b), (1, .ref bo), (2, .ref ra), (4, .int (nI q)), (6, .long bg), (8, .int ck)]) hx hb dL_law_368 hl (k := 8) rfl (nx_add rfl rfl) (by decide) rfl (fun ls hl => ?_)
                                          refine lv_goto (tgt := 130) hx hb dL_law_371 (by decide) ?_
                                          exact W.widen (by omega) (by omega) (kk g3 G2 F3 f_17 L P T nx (min (ct + 1) 10 - 1) ls H locs n_19 (iv_mono hI3 (by omega)) (by omega) (by rw [← hF3, upd_n (by omega), upd_n (by omega)]; exact hF02) (by rw [← hF3, upd_n (by omega), upd_s]) (by omega) (by rw [← hF3, upd_s]; exact hF5m) (by omega) hGo hM (lv_sub hl [3, 4, 5, 1, 6, 7, 8, 0] rfl))
end LAWU
