theorem ks_sh : ∀ i, i < 12 → nI (ks_len.getD i 0) >>> ((0 : Int32) &&& 31) = nI (ks_len.getD i 0) := by decide +kernel
set_option maxHeartbeats 4000000 in
theorem c_J0_coder_7d493 (l : Launch) (D : va_G) (tb : Nat → ClassId) (X : State → Prop) (z0 n : Nat) (kK kV : Nat → Nat) (M : me_M) (i : Nat)  (hKS : ∀ U, X U → me_ks kK kV z0 U) (hi : i < 12) : Met l yJ0_coder_7d493 (.code yJ0_coder_7d493 cJ0_coder_7d493 1 (some .byte) :: ws_all) ({ frames := 0, cells := 0, slots := 0, locals := 0 } : Room) (me_Pc [.ref (kK i)] D tb X z0 (M) n) (me_Qi D z0 0 (M) n) 0 0 (me_A z0) := by
  refine me_open (by decide) (Nat.le_of_ble_eq_true rfl) ?_
  intro p e s m args below meth c ls hC hr hlk hnm hM hl
  have hl : lv_has ls 1 [(0, .ref (kK i))] := hl
  have hx := hC.1
  have hb := hC.2.1
  have hw := hC.2.2.2.2.1
  refine va_gets hx hb (hKS s hC.2.2.2.2.2.1.2).2.1 hM.2.2.2.2 hC.2.2.2.1 (hw _ w_259) (fun _ h => h) dJ0_coder_7d493_0 ?_
  refine lv_if_eq (tgt := 13) hx hb dJ0_coder_7d493_3 (by decide) (fun c_1 => ?_) (fun c_1 => ?_)
  · exact absurd c_1 (by decide)
  · refine lv_aload_n hx hb dJ0_coder_7d493_6 rfl (lv_at hl 0 rfl) ?_
    refine vk_getf hx hb ((hKS s hC.2.2.2.2.2.1.2).1.1 _ hi).2.1 hM.2.2.2.2 hC.2.2.2.1 (hw _ w_1091) (fun _ h => h) dJ0_coder_7d493_7 ?_
    refine lv_goto (tgt := 14) hx hb dJ0_coder_7d493_10 (by decide) ?_
    exact me_tret hC hr hlk hM (by first | rfl | simp [c_1]) (by decide) (rfl) (rfl) dJ0_coder_7d493_14
set_option maxHeartbeats 4000000 in
theorem c_J0_isLatin1_aae02 (l : Launch) (D : va_G) (tb : Nat → ClassId) (X : State → Prop) (z0 n : Nat) (kK kV : Nat → Nat) (M : me_M) (i : Nat)  (hKS : ∀ U, X U → me_ks kK kV z0 U) (hi : i < 12) : Met l yJ0_isLatin1_aae02 (.code yJ0_isLatin1_aae02 cJ0_isLatin1_aae02 1 (some .boolean) :: ws_all) ({ frames := 0, cells := 0, slots := 0, locals := 0 } : Room) (me_Pc [.ref (kK i)] D tb X z0 (M) n) (me_Qi D z0 1 (M) n) 0 0 (me_A z0) := by
  refine me_open (by decide) (Nat.le_of_ble_eq_true rfl) ?_
  intro p e s m args below meth c ls hC hr hlk hnm hM hl
  have hl : lv_has ls 1 [(0, .ref (kK i))] := hl
  have hx := hC.1
  have hb := hC.2.1
  have hw := hC.2.2.2.2.1
  refine va_gets hx hb (hKS s hC.2.2.2.2.2.1.2).2.1 hM.2.2.2.2 hC.2.2.2.1 (hw _ w_259) (fun _ h => h) dJ0_isLatin1_aae02_0 ?_
  refine lv_if_eq (tgt := 17) hx hb dJ0_isLatin1_aae02_3 (by decide) (fun c_1 => ?_) (fun c_1 => ?_)
  · exact absurd c_1 (by decide)
  · refine lv_aload_n hx hb dJ0_isLatin1_aae02_6 rfl (lv_at hl 0 rfl) ?_
    refine vk_getf hx hb ((hKS s hC.2.2.2.2.2.1.2).1.1 _ hi).2.1 hM.2.2.2.2 hC.2.2.2.1 (hw _ w_1091) (fun _ h => h) dJ0_isLatin1_aae02_7 ?_
    refine lv_if_ne (tgt := 17) hx hb dJ0_isLatin1_aae02_10 (by decide) (fun c_2 => ?_) (fun c_2 => ?_)
    · exact absurd c_2 (by decide)
    · refine lv_iconst (v := 1) hx hb dJ0_isLatin1_aae02_13 (by decide) ?_
      refine lv_goto (tgt := 18) hx hb dJ0_isLatin1_aae02_14 (by decide) ?_
      exact me_zret hC hr hlk hM (by first | rfl | simp [c_1, c_2]) (by first | decide | simp) (rfl) (rfl) dJ0_isLatin1_aae02_18
set_option maxHeartbeats 4000000 in
theorem c_J0_length_8abf5 (l : Launch) (D : va_G) (tb : Nat → ClassId) (X : State → Prop) (z0 n : Nat) (kK kV : Nat → Nat) (M : me_M) (i : Nat)  (hKS : ∀ U, X U → me_ks kK kV z0 U) (hi : i < 12) : Met l yJ0_length_8abf5 (.code yJ0_length_8abf5 cJ0_length_8abf5 1 (some .int) :: ws_all) ({ frames := 1, cells := 0, slots := 0, locals := 20 } : Room) (me_Pc [.ref (kK i)] D tb X z0 (M) n) (me_Qi D z0 (nI (ks_len.getD i 0)) (M) n) 0 0 (me_A z0) := by
  refine me_open (by decide) (Nat.le_of_ble_eq_true rfl) ?_
  intro p e s m args below meth c ls hC hr hlk hnm hM hl
  have hl : lv_has ls 1 [(0, .ref (kK i))] := hl
  have hx := hC.1
  have hb := hC.2.1
  have hw := hC.2.2.2.2.1
  refine lv_aload_n hx hb dJ0_length_8abf5_0 rfl (lv_at hl 0 rfl) ?_
  refine vk_getf hx hb ((hKS s hC.2.2.2.2.2.1.2).1.1 _ hi).2.2.1 hM.2.2.2.2 hC.2.2.2.1 (hw _ w_1090) (fun _ h => h) dJ0_length_8abf5_1 ?_
  refine va_tlen hx hb ((hKS s hC.2.2.2.2.2.1.2).1.1 _ hi).2.2.2 hM.2.2.2.2 (v := nI (ks_len.getD i 0)) rfl dJ0_length_8abf5_4 ?_
  refine lv_aload_n hx hb dJ0_length_8abf5_5 rfl (lv_at hl 0 rfl) ?_
  refine me_callVri (As := []) (rest := [.int (nI (ks_len.getD i 0))]) hC hl.1 hM (c_J0_coder_7d493 l D tb X z0 n kK kV M i hKS hi) (kv_J0_335 hw rfl rfl ⟨Nat.le_of_ble_eq_true rfl, Nat.le_of_ble_eq_true rfl⟩) rfl (vk_recv (hKS s hC.2.2.2.2.2.1.2).1 hi hM.2.2.2.2) rfl (Nat.le_of_ble_eq_true rfl) dJ0_length_8abf5_6 ⟨Nat.le_of_ble_eq_true rfl, Nat.le_of_ble_eq_true rfl⟩ (fun H locs hM => ?_)
  refine lv_ishr hx hb dJ0_length_8abf5_9 ?_
  exact me_iret hC hr hlk hM (ks_sh i hi) (rfl) (rfl) dJ0_length_8abf5_10
set_option maxHeartbeats 4000000 in
theorem c_J3_checkIndex_n (l : Launch) (D : va_G) (tb : Nat → ClassId) (X : State → Prop) (z0 n : Nat) (M : me_M) (k N : Nat)  (hk : k < N) (hN : N < 2 ^ 31) : Met l yJ3_checkIndex_8e157 (.code yJ3_checkIndex_8e157 cJ3_checkIndex_8e157 3 (some .int) :: ws_all) ({ frames := 0, cells := 0, slots := 0, locals := 0 } : Room) (me_Pc [.int (nI k), .int (nI N), .null] D tb X z0 (M) n) (me_Qi D z0 (nI k) (M) n) 0 0 (me_A z0) := by
  refine me_open (by decide) (Nat.le_of_ble_eq_true rfl) ?_
  intro p e s m args below meth c ls hC hr hlk hnm hM hl
  have hl : lv_has ls 3 [(0, .int (nI k)), (1, .int (nI N)), (2, .null)] := hl
  have hx := hC.1
  have hb := hC.2.1
  have hw := hC.2.2.2.2.1
  refine lv_iload_n hx hb dJ3_checkIndex_8e157_0 rfl (lv_at hl 0 rfl) ?_
  refine lv_if_lt (tgt := 9) hx hb dJ3_checkIndex_8e157_1 (by decide) (fun c_1 => ?_) (fun c_1 => ?_)
  · have c_1 := (br_lt rfl (show (0 : Int32) = nI 0 from rfl) (by omega) (by omega)).mp c_1
    exfalso; omega
  · have c_1 := (not_congr (br_lt rfl (show (0 : Int32) = nI 0 from rfl) (by omega) (by omega))).mp c_1
    refine lv_iload_n hx hb dJ3_checkIndex_8e157_4 rfl (lv_at hl 0 rfl) ?_
    refine lv_iload_n hx hb dJ3_checkIndex_8e157_5 rfl (lv_at hl 1 rfl) ?_
    refine lv_icmp_lt (tgt := 16) hx hb dJ3_checkIndex_8e157_6 (by decide) (fun c_2 => ?_) (fun c_2 => ?_)
    · have c_2 := (br_lt rfl rfl (by omega) (by omega)).mp c_2
      refine lv_iload_n hx hb dJ3_checkIndex_8e157_16 rfl (lv_at hl 0 rfl) ?_
      exact me_iret hC hr hlk hM (by first | rfl | simp [c_1, c_2]) (rfl) (rfl) dJ3_checkIndex_8e157_17
    · have c_2 := (not_congr (br_lt rfl rfl (by omega) (by omega))).mp c_2
      exfalso; omega
set_option maxHeartbeats 4000000 in
theorem c_J3_checkIndex_r (l : Launch) (D : va_G) (tb : Nat → ClassId) (X : State → Prop) (z0 n : Nat) (M : me_M) (k N : Nat) (q : Nat)  (hk : k < N) (hN : N < 2 ^ 31) : Met l yJ3_checkIndex_8e157 (.code yJ3_checkIndex_8e157 cJ3_checkIndex_8e157 3 (some .int) :: ws_all) ({ frames := 0, cells := 0, slots := 0, locals := 0 } : Room) (me_Pc [.int (nI k), .int (nI N), .ref q] D tb X z0 (M) n) (me_Qi D z0 (nI k) (M) n) 0 0 (me_A z0) := by
  refine me_open (by decide) (Nat.le_of_ble_eq_true rfl) ?_
  intro p e s m args below meth c ls hC hr hlk hnm hM hl
  have hl : lv_has ls 3 [(0, .int (nI k)), (1, .int (nI N)), (2, .ref q)] := hl
  have hx := hC.1
  have hb := hC.2.1
  have hw := hC.2.2.2.2.1
  refine lv_iload_n hx hb dJ3_checkIndex_8e157_0 rfl (lv_at hl 0 rfl) ?_
  refine lv_if_lt (tgt := 9) hx hb dJ3_checkIndex_8e157_1 (by decide) (fun c_1 => ?_) (fun c_1 => ?_)
  · have c_1 := (br_lt rfl (show (0 : Int32) = nI 0 from rfl) (by omega) (by omega)).mp c_1
    exfalso; omega
  · have c_1 := (not_congr (br_lt rfl (show (0 : Int32) = nI 0 from rfl) (by omega) (by omega))).mp c_1
    refine lv_iload_n hx hb dJ3_checkIndex_8e157_4 rfl (lv_at hl 0 rfl) ?_
    refine lv_iload_n hx hb dJ3_checkIndex_8e157_5 rfl (lv_at hl 1 rfl) ?_
    refine lv_icmp_lt (tgt := 16) hx hb dJ3_checkIndex_8e157_6 (by decide) (fun c_2 => ?_) (fun c_2 => ?_)
    · have c_2 := (br_lt rfl rfl (by omega) (by omega)).mp c_2
      refine lv_iload_n hx hb dJ3_checkIndex_8e157_16 rfl (lv_at hl 0 rfl) ?_
      exact me_iret hC hr hlk hM (by first | rfl | simp [c_1, c_2]) (rfl) (rfl) dJ3_checkIndex_8e157_17
    · have c_2 := (not_congr (br_lt rfl rfl (by omega) (by omega))).mp c_2
      exfalso; omega
theorem c_J3_checkIndex_8e157 (l : Launch) (D : va_G) (tb : Nat → ClassId) (X : State → Prop) (z0 n : Nat) (M : me_M) (k N : Nat) (v : Value) (hv : v = .null ∨ ∃ q, v = .ref q) (hk : k < N) (hN : N < 2 ^ 31) : Met l yJ3_checkIndex_8e157 (.code yJ3_checkIndex_8e157 cJ3_checkIndex_8e157 3 (some .int) :: ws_all) ({ frames := 0, cells := 0, slots := 0, locals := 0 } : Room) (me_Pc [.int (nI k), .int (nI N), v] D tb X z0 (M) n) (me_Qi D z0 (nI k) (M) n) 0 0 (me_A z0) := by
  rcases hv with rfl | ⟨q, rfl⟩
  · exact c_J3_checkIndex_n l D tb X z0 n M k N hk hN
  · exact c_J3_checkIndex_r l D tb X z0 n M k N q hk hN
set_option maxHeartbeats 4000000 in
theorem c_J0_checkIndex_df160 (l : Launch) (D : va_G) (tb : Nat → ClassId) (X : State → Prop) (z0 n : Nat) (kK kV : Nat → Nat) (M : me_M) (k N : Nat)  (hKS : ∀ U, X U → me_ks kK kV z0 U) (hk : k < N) (hN : N < 2 ^ 31) : Met l yJ0_checkIndex_df160 (.code yJ0_checkIndex_df160 cJ0_checkIndex_df160 2 none :: ws_all) ({ frames := 1, cells := 0, slots := 0, locals := 22 } : Room) (me_Pc [.int (nI k), .int (nI N)] D tb X z0 (M) n) (me_Qv D z0 (M) n) 0 0 (me_A z0) := by
  refine me_open (by decide) (Nat.le_of_ble_eq_true rfl) ?_
  intro p e s m args below meth c ls hC hr hlk hnm hM hl
  have hl : lv_has ls 2 [(0, .int (nI k)), (1, .int (nI N))] := hl
  have hx := hC.1
  have hb := hC.2.1
  have hw := hC.2.2.2.2.1
  refine lv_iload_n hx hb dJ0_checkIndex_df160_0 rfl (lv_at hl 0 rfl) ?_
  refine lv_iload_n hx hb dJ0_checkIndex_df160_1 rfl (lv_at hl 1 rfl) ?_
  obtain ⟨vS, hvq, hvS⟩ := (hKS s hC.2.2.2.2.2.1.2).2.2.1
  refine va_gets hx hb hvS hM.2.2.2.2 hC.2.2.2.1 (hw _ w_275) (fun _ h => h) dJ0_checkIndex_df160_2 ?_
  refine me_callSi (As := [.int (nI k), .int (nI N), vS]) (rest := []) hC hl.1 hM (c_J3_checkIndex_8e157 l D tb X z0 n M k N vS hvq (by omega) (by omega)) (ks_J0_1059 hw rfl rfl ⟨Nat.le_of_ble_eq_true rfl, Nat.le_of_ble_eq_true rfl⟩) rfl rfl (Nat.le_of_ble_eq_true rfl) dJ0_checkIndex_df160_5 ⟨Nat.le_of_ble_eq_true rfl, Nat.le_of_ble_eq_true rfl⟩ (fun H locs hM => ?_)
  refine lv_pop hx hb dJ0_checkIndex_df160_8 rfl ?_
  exact me_vret hC hr hlk hM (rfl) (rfl) dJ0_checkIndex_df160_9
set_option maxHeartbeats 4000000 in
theorem c_J1_charAt_3b067 (l : Launch) (D : va_G) (tb : Nat → ClassId) (X : State → Prop) (z0 n : Nat) (kK kV : Nat → Nat) (M : me_M) (i : Nat) (k : Nat)  (hKS : ∀ U, X U → me_ks kK kV z0 U) (hi : i < 12) (hk : k < ks_len.getD i 0) : Met l yJ1_charAt_3b067 (.code yJ1_charAt_3b067 cJ1_charAt_3b067 2 (some .char) :: ws_all) ({ frames := 2, cells := 0, slots := 0, locals := 43 } : Room) (me_Pc [.ref (kV i), .int (nI k)] D tb X z0 (M) n) (me_Qi D z0 (ks_c i k) (M) n) 0 0 (me_A z0) := by
  refine me_open (by decide) (Nat.le_of_ble_eq_true rfl) ?_
  intro p e s m args below meth c ls hC hr hlk hnm hM hl
  have hl : lv_has ls 2 [(0, .ref (kV i)), (1, .int (nI k))] := hl
  have hx := hC.1
  have hb := hC.2.1
  have hw := hC.2.2.2.2.1
  have hsm := ks_small i hi
  refine lv_iload_n hx hb dJ1_charAt_3b067_0 rfl (lv_at hl 1 rfl) ?_
  refine lv_aload_n hx hb dJ1_charAt_3b067_1 rfl (lv_at hl 0 rfl) ?_
  refine va_tlen hx hb ((hKS s hC.2.2.2.2.2.1.2).1.1 _ hi).2.2.2 hM.2.2.2.2 (v := nI (ks_len.getD i 0)) rfl dJ1_charAt_3b067_2 ?_
  refine me_callSv (As := [.int (nI k), .int (nI (ks_len.getD i 0))]) (rest := []) hC hl.1 hM (c_J0_checkIndex_df160 l D tb X z0 n kK kV M k (ks_len.getD i 0) hKS (by omega) (by omega)) (ks_J1_9 hw rfl rfl ⟨Nat.le_of_ble_eq_true rfl, Nat.le_of_ble_eq_true rfl⟩) rfl rfl (Nat.le_of_ble_eq_true rfl) dJ1_charAt_3b067_3 ⟨Nat.le_of_ble_eq_true rfl, Nat.le_of_ble_eq_true rfl⟩ (fun H locs hM => ?_)
  refine lv_aload_n hx hb dJ1_charAt_3b067_6 rfl (lv_at hl 0 rfl) ?_
  refine lv_iload_n hx hb dJ1_charAt_3b067_7 rfl (lv_at hl 1 rfl) ?_
  refine va_tb hx hb ((hKS s hC.2.2.2.2.2.1.2).1.1 _ hi).2.2.2 hM.2.2.2.2 (i := nI k) (by exact vp_in_nI (by omega) (by omega)) (v := .int (ks_c i k)) (by rw [nI_clamp (by omega)]; rfl) dJ1_charAt_3b067_8 ?_
  refine lv_sipush (v := 255) hx hb dJ1_charAt_3b067_9 (by decide) ?_
  refine lv_iand hx hb dJ1_charAt_3b067_12 ?_
  refine lv_i2c (v := (((ks_c i k) &&& 255).toUInt32 % 65536).toInt32) hx hb dJ1_charAt_3b067_13 rfl ?_
  exact me_tret hC hr hlk hM ((ks_asc i hi k hk).1) (by rw [(ks_asc i hi k hk).1]; exact (ks_asc i hi k hk).2.1) (rfl) (rfl) dJ1_charAt_3b067_14
set_option maxHeartbeats 4000000 in
theorem c_J0_charAt_5068e (l : Launch) (D : va_G) (tb : Nat → ClassId) (X : State → Prop) (z0 n : Nat) (kK kV : Nat → Nat) (M : me_M) (i : Nat) (k : Nat)  (hKS : ∀ U, X U → me_ks kK kV z0 U) (hi : i < 12) (hk : k < ks_len.getD i 0) : Met l yJ0_charAt_5068e (.code yJ0_charAt_5068e cJ0_charAt_5068e 2 (some .char) :: ws_all) ({ frames := 3, cells := 0, slots := 0, locals := 64 } : Room) (me_Pc [.ref (kK i), .int (nI k)] D tb X z0 (M) n) (me_Qi D z0 (ks_c i k) (M) n) 0 0 (me_A z0) := by
  refine me_open (by decide) (Nat.le_of_ble_eq_true rfl) ?_
  intro p e s m args below meth c ls hC hr hlk hnm hM hl
  have hl : lv_has ls 2 [(0, .ref (kK i)), (1, .int (nI k))] := hl
  have hx := hC.1
  have hb := hC.2.1
  have hw := hC.2.2.2.2.1
  refine lv_aload_n hx hb dJ0_charAt_5068e_0 rfl (lv_at hl 0 rfl) ?_
  refine me_callVri (As := []) (rest := []) hC hl.1 hM (c_J0_isLatin1_aae02 l D tb X z0 n kK kV M i hKS hi) (kv_J0_492 hw rfl rfl ⟨Nat.le_of_ble_eq_true rfl, Nat.le_of_ble_eq_true rfl⟩) rfl (vk_recv (hKS s hC.2.2.2.2.2.1.2).1 hi hM.2.2.2.2) rfl (Nat.le_of_ble_eq_true rfl) dJ0_charAt_5068e_1 ⟨Nat.le_of_ble_eq_true rfl, Nat.le_of_ble_eq_true rfl⟩ (fun H locs hM => ?_)
  refine lv_if_eq (tgt := 16) hx hb dJ0_charAt_5068e_4 (by decide) (fun c_1 => ?_) (fun c_1 => ?_)
  · exact absurd c_1 (by decide)
  · refine lv_aload_n hx hb dJ0_charAt_5068e_7 rfl (lv_at hl 0 rfl) ?_
    refine vk_getf hx hb ((hKS s hC.2.2.2.2.2.1.2).1.1 _ hi).2.2.1 hM.2.2.2.2 hC.2.2.2.1 (hw _ w_1090) (fun _ h => h) dJ0_charAt_5068e_8 ?_
    refine lv_iload_n hx hb dJ0_charAt_5068e_11 rfl (lv_at hl 1 rfl) ?_
    refine me_callSi (As := [.ref (kV i), .int (nI k)]) (rest := []) hC hl.1 hM (c_J1_charAt_3b067 l D tb X z0 n kK kV M i k hKS hi (by omega)) (ks_J0_495 hw rfl rfl ⟨Nat.le_of_ble_eq_true rfl, Nat.le_of_ble_eq_true rfl⟩) rfl rfl (Nat.le_of_ble_eq_true rfl) dJ0_charAt_5068e_12 ⟨Nat.le_of_ble_eq_true rfl, Nat.le_of_ble_eq_true rfl⟩ (fun H locs hM => ?_)
    exact me_tret hC hr hlk hM (by first | rfl | simp [c_1]) ((ks_asc i hi k hk).2.1) (rfl) (rfl) dJ0_charAt_5068e_15
