section SBQ
variable {tb : Nat → ClassId} {M : me_M} {b v cap k q : Nat} {f : Nat → Int32} {x y : va_E}
theorem sb_new (h1 : q ≠ b) (h2 : q ≠ v) : me_up (sbV tb M b v cap k f) q x = sbV tb (me_up M q x) b v cap k f := by
  unfold sbV; rw [up_comm (fun z => h2 z.symm), up_comm (a := b) (fun z => h1 z.symm)]
theorem sb_out (h1 : q ≠ b) (h2 : q ≠ v) : sbV tb M b v cap k f q = M q := by unfold sbV; rw [me_up_n h2, me_up_n h1]
theorem sb_upq (h1 : q ≠ b) (h2 : q ≠ v) : me_up (sbV tb (me_up M q x) b v cap k f) q y = sbV tb (me_up M q y) b v cap k f := by rw [sb_new h1 h2, me_up_up]
theorem sb_upr {r : Nat} {z : va_E} (h1 : q ≠ b) (h2 : q ≠ v) (h3 : r ≠ q) : me_up (sbV tb (me_up (me_up M q x) r z) b v cap k f) q y = sbV tb (me_up (me_up M q y) r z) b v cap k f := by rw [sb_new h1 h2, up_comm h3, me_up_up]
theorem tx_id {t : Nat → Int32} : tx k (tx k t) = tx k t := by
  funext i; unfold tx
  by_cases h : i < k
  · rw [if_pos h, if_pos h]
  · rw [if_neg h, if_neg h]
end SBQ
set_option maxHeartbeats 4000000 in
theorem c_J7_checkLength_df160 (l : Launch) (D : va_G) (tb : Nat → ClassId) (X : State → Prop) (z0 n : Nat) (M : me_M) (k : Nat)  (hk9 : k < 2 ^ 30) : Met l yJ7_checkLength_df160 (.code yJ7_checkLength_df160 cJ7_checkLength_df160 2 none :: ws_all) ({ frames := 0, cells := 0, slots := 0, locals := 0 } : Room) (me_Pc [.int 0, .int (nI k)] D tb X z0 (M) n) (me_Qv D z0 (M) n) 0 0 (me_A z0) := by
  refine me_open (by decide) (Nat.le_of_ble_eq_true rfl) ?_
  intro p e s m args below meth c ls hC hr hlk hnm hM hl
  have hl : lv_has ls 2 [(0, .int 0), (1, .int (nI k))] := hl
  have hx := hC.1
  have hb := hC.2.1
  have hw := hC.2.2.2.2.1
  refine lv_iload_n hx hb dJ7_checkLength_df160_0 rfl (lv_at hl 1 rfl) ?_
  refine lv_iload_n hx hb dJ7_checkLength_df160_1 rfl (lv_at hl 0 rfl) ?_
  refine lv_icmp_ge (tgt := 37) hx hb dJ7_checkLength_df160_2 (by decide) (fun c_1 => ?_) (fun c_1 => ?_)
  · have c_1 := (br_le (show (0 : Int32) = nI 0 from rfl) rfl (by omega) (by omega)).mp c_1
    exact me_vret hC hr hlk hM (rfl) (rfl) dJ7_checkLength_df160_37
  · have c_1 := (not_congr (br_le (show (0 : Int32) = nI 0 from rfl) rfl (by omega) (by omega))).mp c_1
    exfalso; omega
set_option maxHeartbeats 4000000 in
theorem c_J7_copyOfRangeByte_39247 (l : Launch) (D : va_G) (tb : Nat → ClassId) (X : State → Prop) (z0 n : Nat) (v cap k : Nat) (t : Nat → Int32) (M : me_M)  (hv : M v = some (.inl (tb 1, cap, .inl (tx k t)))) (hvn : v < n) (hkc : k ≤ cap) (hcap : cap ≤ 198) (hft : sb_Fit t) : Met l yJ7_copyOfRangeByte_39247 (.code yJ7_copyOfRangeByte_39247 cJ7_copyOfRangeByte_39247 5 (Option.some (Jvm.ClassFile.FieldType.array Jvm.ClassFile.FieldType.byte)) :: ws_all) ({ frames := 1, cells := 1, slots := 198, locals := 44 } : Room) (me_Pc [.ref v, .int 0, .int (nI k)] D tb X z0 (M) n) (me_Qr D z0 n (me_up M n (.inl (tb 1, k, .inl (tx k t)))) (n + 1)) 1 198 (me_A z0) := by
  refine me_open (by decide) (Nat.le_of_ble_eq_true rfl) ?_
  intro p e s m args below meth c ls hC hr hlk hnm hM hl
  have hl : lv_has ls 5 [(0, .ref v), (1, .int 0), (2, .int (nI k))] := hl
  have hx := hC.1
  have hb := hC.2.1
  have hw := hC.2.2.2.2.1
  have hfit : sb_Fit (tx k t) := tx_fit hft
  refine lv_iload_n hx hb dJ7_copyOfRangeByte_39247_0 rfl (lv_at hl 1 rfl) ?_
  refine lv_iload_n hx hb dJ7_copyOfRangeByte_39247_1 rfl (lv_at hl 2 rfl) ?_
  refine me_callSv (As := [.int 0, .int (nI k)]) (rest := []) hC hl.1 hM (c_J7_checkLength_df160 l D tb X z0 n (M) k (by omega)) (ks_J7_343 hw rfl rfl ⟨Nat.le_of_ble_eq_true rfl, Nat.le_of_ble_eq_true rfl⟩) rfl rfl (Nat.le_of_ble_eq_true rfl) dJ7_copyOfRangeByte_39247_2 ⟨Nat.le_of_ble_eq_true rfl, Nat.le_of_ble_eq_true rfl⟩ (fun H locs hM => ?_)
  refine lv_iload_n hx hb dJ7_copyOfRangeByte_39247_5 rfl (lv_at hl 2 rfl) ?_
  refine lv_iload_n hx hb dJ7_copyOfRangeByte_39247_6 rfl (lv_at hl 1 rfl) ?_
  refine lv_isub hx hb dJ7_copyOfRangeByte_39247_7 ?_
  refine me_evi (y := nI k) (by first | exact Int32.sub_zero _ | simp) ?_
  refine lv_istore_n (lv' := [(3, .int (nI k)), (0, .ref v), (1, .int 0), (2, .int (nI k))]) hx hb dJ7_copyOfRangeByte_39247_8 rfl hl (by decide) rfl (fun ls hl => ?_)
  refine lv_iload_n hx hb dJ7_copyOfRangeByte_39247_9 rfl (lv_at hl 0 rfl) ?_
  refine me_newa (atype := .byte) (N' := k) (a0 := (k, .inl (fun _ => 0))) (k := 1) (M2 := me_up M n (.inl (tb 1, k, .inl (fun _ => 0)))) hC hM w_331 rfl (fun _ => rfl) (nI_pos (by omega)) (nI_clamp (by omega)) (by show k * 1 ≤ _; omega) (Nat.le_of_ble_eq_true rfl) (by show 0 + k ≤ 198; omega) rfl dJ7_copyOfRangeByte_39247_10 (fun H hM => ?_)
  refine lv_astore (lv' := [(4, .ref n), (3, .int (nI k)), (0, .ref v), (1, .int 0), (2, .int (nI k))]) hx hb dJ7_copyOfRangeByte_39247_12 hl (by decide) rfl (fun ls hl => ?_)
  refine lv_aload_n hx hb dJ7_copyOfRangeByte_39247_14 rfl (lv_at hl 2 rfl) ?_
  refine lv_iload_n hx hb dJ7_copyOfRangeByte_39247_15 rfl (lv_at hl 3 rfl) ?_
  refine lv_aload hx hb dJ7_copyOfRangeByte_39247_16 (lv_at hl 0 rfl) ?_
  refine lv_iconst (v := 0) hx hb dJ7_copyOfRangeByte_39247_18 (by decide) ?_
  refine lv_aload_n hx hb dJ7_copyOfRangeByte_39247_19 rfl (lv_at hl 2 rfl) ?_
  refine me_alen (t0 := 1) hC hM ((me_up_n (by omega)).trans hv) rfl dJ7_copyOfRangeByte_39247_20 ?_
  refine lv_iload_n hx hb dJ7_copyOfRangeByte_39247_21 rfl (lv_at hl 3 rfl) ?_
  refine lv_isub hx hb dJ7_copyOfRangeByte_39247_22 ?_
  refine me_evi (y := nI cap) (by first | exact Int32.sub_zero _ | simp) ?_
  refine lv_iload_n hx hb dJ7_copyOfRangeByte_39247_23 rfl (lv_at hl 1 rfl) ?_
  refine va_mmin hx hb (hC.2.2.1.trans hl.1.symm) hC.2.2.2.1 (hw _ w_919) (hw _ w_404) (hw _ w_13) (hw _ w_405) (Nat.le_of_ble_eq_true rfl) (Nat.le_of_ble_eq_true rfl) (by first | omega | exact Nat.le_of_ble_eq_true rfl) (by first | omega | exact Nat.le_of_ble_eq_true rfl | (show 0 + k ≤ 198; omega)) dJ7_copyOfRangeByte_39247_24 ?_
  refine me_evi (y := nI k) (if h : k < cap then if_pos ((nI_ltI (by omega) (by omega)).mpr h) else (if_neg (fun z => h ((nI_ltI (by omega) (by omega)).mp z))).trans (congrArg nI (by omega))) ?_
  refine me_acopy hC hl.1 hM w_920 w_922 w_921 w_18 ((me_up_n (by omega)).trans hv) (me_up_s _ _ _) (by omega) (by omega) (by omega) hfit (M2 := me_up M n (.inl (tb 1, k, .inl (va_cpy (tx k t) (fun _ => 0) 0 0 k)))) (me_up_up _ _ _ _) (Nat.le_of_ble_eq_true rfl) (Nat.le_of_ble_eq_true rfl) dJ7_copyOfRangeByte_39247_27 (fun H locs hM => ?_)
  refine lv_aload hx hb dJ7_copyOfRangeByte_39247_30 (lv_at hl 0 rfl) ?_
  refine W.widen (k := 1) (n := 198) (by omega) (by omega) ?_
  exact me_aret hC hr (by first | exact Or.inl ⟨_, rfl⟩ | exact Or.inr ⟨_, rfl⟩) hlk hM (by rw [tx_cpy (Nat.le_refl k)]) (rfl) dJ7_copyOfRangeByte_39247_32
set_option maxHeartbeats 4000000 in
theorem c_J7_copyOfRange_39247 (l : Launch) (D : va_G) (tb : Nat → ClassId) (X : State → Prop) (z0 n : Nat) (kO kT v cap k : Nat) (t : Nat → Int32) (M : me_M)  (hKD : ∀ U, X U → me_kd kO kT z0 U) (hv : M v = some (.inl (tb 1, cap, .inl (tx k t)))) (hvn : v < n) (hkc : k ≤ cap) (hcap : cap ≤ 198) (hft : sb_Fit t) : Met l yJ7_copyOfRange_39247 (.code yJ7_copyOfRange_39247 cJ7_copyOfRange_39247 3 (Option.some (Jvm.ClassFile.FieldType.array Jvm.ClassFile.FieldType.byte)) :: ws_all) ({ frames := 2, cells := 1, slots := 198, locals := 68 } : Room) (me_Pc [.ref v, .int 0, .int (nI k)] D tb X z0 (M) n) (me_Qr D z0 n (me_up M n (.inl (tb 1, k, .inl (tx k t)))) (n + 1)) 1 198 (me_A z0) := by
  refine me_open (by decide) (Nat.le_of_ble_eq_true rfl) ?_
  intro p e s m args below meth c ls hC hr hlk hnm hM hl
  have hl : lv_has ls 3 [(0, .ref v), (1, .int 0), (2, .int (nI k))] := hl
  have hx := hC.1
  have hb := hC.2.1
  have hw := hC.2.2.2.2.1
  refine lv_iload_n hx hb dJ7_copyOfRange_39247_0 rfl (lv_at hl 1 rfl) ?_
  refine lv_if_ne (tgt := 10) hx hb dJ7_copyOfRange_39247_1 (by decide) (fun c_1 => ?_) (fun c_1 => ?_)
  · exact absurd c_1 (by decide)
  · refine lv_iload_n hx hb dJ7_copyOfRange_39247_4 rfl (lv_at hl 2 rfl) ?_
    refine lv_aload_n hx hb dJ7_copyOfRange_39247_5 rfl (lv_at hl 0 rfl) ?_
    refine me_alen (t0 := 1) hC hM hv rfl dJ7_copyOfRange_39247_6 ?_
    refine lv_icmp_eq (tgt := 17) hx hb dJ7_copyOfRange_39247_7 (by decide) (fun c_2 => ?_) (fun c_2 => ?_)
    · have c_2 := (br_eq rfl rfl (by omega) (by omega)).mp c_2
      refine lv_aload_n hx hb dJ7_copyOfRange_39247_17 rfl (lv_at hl 0 rfl) ?_
      refine me_clone hC hl.1 hM w_912 w_913 w_914 w_915 (hw _ w_916) (hKD s hC.2.2.2.2.2.1.2).2.2.2.2.2.2.2.2 hv (tx_fit hft) (M2 := me_up M n (.inl (tb 1, cap, .inl (tx k t)))) rfl (Nat.le_of_ble_eq_true rfl) (Nat.le_of_ble_eq_true rfl) (Nat.le_of_ble_eq_true rfl) (by show 0 + cap ≤ 198; omega) dJ7_copyOfRange_39247_18 (fun H hM => ?_)
      refine me_castb hC hM w_918 (me_up_s _ _ _) dJ7_copyOfRange_39247_21 ?_
      refine W.widen (k := 1) (n := 198) (by omega) (by omega) ?_
      exact me_aret hC hr (by first | exact Or.inl ⟨_, rfl⟩ | exact Or.inr ⟨_, rfl⟩) hlk hM (by rw [c_2]) (rfl) dJ7_copyOfRange_39247_24
    · have c_2 := (not_congr (br_eq rfl rfl (by omega) (by omega))).mp c_2
      refine lv_aload_n hx hb dJ7_copyOfRange_39247_10 rfl (lv_at hl 0 rfl) ?_
      refine lv_iload_n hx hb dJ7_copyOfRange_39247_11 rfl (lv_at hl 1 rfl) ?_
      refine lv_iload_n hx hb dJ7_copyOfRange_39247_12 rfl (lv_at hl 2 rfl) ?_
      refine me_callSr (As := [.ref v, .int 0, .int (nI k)]) (rest := []) hC hl.1 hM (c_J7_copyOfRangeByte_39247 l D tb X z0 n v cap k t M hv hvn hkc hcap hft) (ks_J7_339 hw rfl rfl ⟨Nat.le_of_ble_eq_true rfl, Nat.le_of_ble_eq_true rfl⟩) rfl rfl (Nat.le_of_ble_eq_true rfl) dJ7_copyOfRange_39247_13 ⟨Nat.le_of_ble_eq_true rfl, Nat.le_of_ble_eq_true rfl⟩ (fun H locs hM => ?_)
      exact me_aret hC hr (by first | exact Or.inl ⟨_, rfl⟩ | exact Or.inr ⟨_, rfl⟩) hlk hM (rfl) (rfl) dJ7_copyOfRange_39247_16
set_option maxHeartbeats 4000000 in
theorem c_J0_init_db425 (l : Launch) (D : va_G) (tb : Nat → ClassId) (X : State → Prop) (z0 n : Nat) (kK kV : Nat → Nat) (kO kT : Nat) (b v cap k q : Nat) (t : Nat → Int32) (M : me_M)  (hKS : ∀ U, X U → me_ks kK kV z0 U) (hKD : ∀ U, X U → me_kd kO kT z0 U) (hbv : b < v) (hvq : v < q) (hqn : q < n) (hkc : k ≤ cap) (hcap : cap ≤ 198) (hft : sb_Fit t) : Met l yJ0_init_db425 (.code yJ0_init_db425 cJ0_init_db425 5 none :: ws_all) ({ frames := 3, cells := 1, slots := 198, locals := 90 } : Room) (me_Pc [.ref q, .ref b, .null] D tb X z0 (sbV tb (me_up M q (.inr (8, [.null, .int 0, .int 0, .int 0]))) b v cap k (tx k t)) n) (me_Qv D z0 (sbV tb (me_up (me_up M q (.inr (8, [.ref n, .int 0, .int 0, .int 0]))) n (.inl (tb 1, k, .inl (tx k t)))) b v cap k (tx k t)) (n + 1)) 1 198 (me_A z0) := by
  refine me_open (by decide) (Nat.le_of_ble_eq_true rfl) ?_
  intro p e s m args below meth c ls hC hr hlk hnm hM hl
  have hl : lv_has ls 5 [(0, .ref q), (1, .ref b), (2, .null)] := hl
  have hx := hC.1
  have hb := hC.2.1
  have hw := hC.2.2.2.2.1
  refine lv_aload_n hx hb dJ0_init_db425_0 rfl (lv_at hl 0 rfl) ?_
  refine W.objInit hx hb hC.2.2.2.1 (hw _ w_1043) (hw _ w_32) (hw _ w_33) rfl (by rw [hC.2.2.1]; exact hl.1) rfl dJ0_init_db425_1 (Nat.le_of_ble_eq_true rfl) (Nat.le_of_ble_eq_true rfl) ?_
  refine W.eq (g2 := F0 m 4 ls []) rfl ?_
  refine lv_aload_n hx hb dJ0_init_db425_4 rfl (lv_at hl 1 rfl) ?_
  refine me_callUr (As := []) (rest := []) hC hl.1 hM (c_J5_getValue_6d5f1 l D tb X z0 n b v cap k (tx k t) (me_up M q (.inr (8, [.null, .int 0, .int 0, .int 0]))) (by omega)) (ku_J0_552 hw rfl rfl ⟨Nat.le_of_ble_eq_true rfl, Nat.le_of_ble_eq_true rfl⟩ (hw _ w_1047)) rfl rfl (sb_o (by omega)) rfl (Nat.le_of_ble_eq_true rfl) dJ0_init_db425_5 ⟨Nat.le_of_ble_eq_true rfl, Nat.le_of_ble_eq_true rfl⟩ (fun H locs hM => ?_)
  refine lv_astore_n (lv' := [(3, .ref v), (0, .ref q), (1, .ref b), (2, .null)]) hx hb dJ0_init_db425_8 rfl hl (by decide) rfl (fun ls hl => ?_)
  refine lv_aload_n hx hb dJ0_init_db425_9 rfl (lv_at hl 2 rfl) ?_
  refine me_callOi (As := []) (rest := []) hC hl.1 hM (c_J4_length_8abf5 l D tb X z0 n b v cap k (tx k t) (me_up M q (.inr (8, [.null, .int 0, .int 0, .int 0]))) (by omega)) (ku_J0_549 hw rfl rfl ⟨Nat.le_of_ble_eq_true rfl, Nat.le_of_ble_eq_true rfl⟩ (hw _ w_1052)) rfl rfl (sb_o (by omega)) rfl (Nat.le_of_ble_eq_true rfl) dJ0_init_db425_10 ⟨Nat.le_of_ble_eq_true rfl, Nat.le_of_ble_eq_true rfl⟩ (fun H locs hM => ?_)
  refine lv_istore (lv' := [(4, .int (nI k)), (3, .ref v), (0, .ref q), (1, .ref b), (2, .null)]) hx hb dJ0_init_db425_13 hl (by decide) rfl (fun ls hl => ?_)
  refine lv_aload_n hx hb dJ0_init_db425_15 rfl (lv_at hl 3 rfl) ?_
  refine me_callUi (As := []) (rest := []) hC hl.1 hM (c_J5_isLatin1_aae02 l D tb X z0 n kK kV b v cap k (tx k t) (me_up M q (.inr (8, [.null, .int 0, .int 0, .int 0]))) hKS (by omega)) (ku_J0_1047 hw rfl rfl ⟨Nat.le_of_ble_eq_true rfl, Nat.le_of_ble_eq_true rfl⟩ (hw _ w_926)) rfl rfl (sb_o (by omega)) rfl (Nat.le_of_ble_eq_true rfl) dJ0_init_db425_16 ⟨Nat.le_of_ble_eq_true rfl, Nat.le_of_ble_eq_true rfl⟩ (fun H locs hM => ?_)
  refine lv_if_eq (tgt := 41) hx hb dJ0_init_db425_19 (by decide) (fun c_1 => ?_) (fun c_1 => ?_)
  · exact absurd c_1 (by decide)
  · refine lv_aload_n hx hb dJ0_init_db425_22 rfl (lv_at hl 2 rfl) ?_
    refine lv_iconst (v := 0) hx hb dJ0_init_db425_23 (by decide) ?_
    refine fp_J0_15 hC hM hnm ((sb_out (by omega) (by omega)).trans (me_up_s _ _ _)) (Nat.le_of_ble_eq_true rfl) (by first | rfl | decide) (by first | rfl | decide) (M2 := sbV tb (me_up M q (.inr (8, [.null, .int 0, .int 0, .int 0]))) b v cap k (tx k t)) (sb_upq (by omega) (by omega)) dJ0_init_db425_24 (fun H locs hM => ?_)
    refine lv_aload_n hx hb dJ0_init_db425_27 rfl (lv_at hl 2 rfl) ?_
    refine lv_aload_n hx hb dJ0_init_db425_28 rfl (lv_at hl 1 rfl) ?_
    refine lv_iconst (v := 0) hx hb dJ0_init_db425_29 (by decide) ?_
    refine lv_iload hx hb dJ0_init_db425_30 (lv_at hl 0 rfl) ?_
    refine me_callSr (As := [.ref v, .int 0, .int (nI k)]) (rest := [.ref q]) hC hl.1 hM (c_J7_copyOfRange_39247 l D tb X z0 n kO kT v cap k t (sbV tb (me_up M q (.inr (8, [.null, .int 0, .int 0, .int 0]))) b v cap k (tx k t)) hKD sb_a (by omega) (by omega) (by omega) hft) (ks_J0_54 hw rfl rfl ⟨Nat.le_of_ble_eq_true rfl, Nat.le_of_ble_eq_true rfl⟩) rfl rfl (Nat.le_of_ble_eq_true rfl) dJ0_init_db425_32 ⟨Nat.le_of_ble_eq_true rfl, Nat.le_of_ble_eq_true rfl⟩ (fun H locs hM => ?_)
    have hM := hM.eq (sb_new (by omega) (by omega))
    refine fp_J0_9 hC hM hnm ((sb_out (by omega) (by omega)).trans ((me_up_n (by omega)).trans (me_up_s _ _ _))) (Nat.le_of_ble_eq_true rfl) (M2 := sbV tb (me_up (me_up M q (.inr (8, [.ref n, .int 0, .int 0, .int 0]))) n (.inl (tb 1, k, .inl (tx k t)))) b v cap k (tx k t)) (sb_upr (by omega) (by omega) (by omega)) dJ0_init_db425_35 (fun H locs hM => ?_)
    refine lv_goto (tgt := 97) hx hb dJ0_init_db425_38 (by decide) ?_
    exact me_vret hC hr hlk hM (rfl) (rfl) dJ0_init_db425_97
set_option maxHeartbeats 4000000 in
theorem c_J0_init_81219 (l : Launch) (D : va_G) (tb : Nat → ClassId) (X : State → Prop) (z0 n : Nat) (kK kV : Nat → Nat) (kO kT : Nat) (b v cap k q : Nat) (t : Nat → Int32) (M : me_M)  (hKS : ∀ U, X U → me_ks kK kV z0 U) (hKD : ∀ U, X U → me_kd kO kT z0 U) (hbv : b < v) (hvq : v < q) (hqn : q < n) (hkc : k ≤ cap) (hcap : cap ≤ 198) (hft : sb_Fit t) : Met l yJ0_init_81219 (.code yJ0_init_81219 cJ0_init_81219 2 none :: ws_all) ({ frames := 4, cells := 1, slots := 198, locals := 114 } : Room) (me_Pc [.ref q, .ref b] D tb X z0 (sbV tb (me_up M q (.inr (8, [.null, .int 0, .int 0, .int 0]))) b v cap k (tx k t)) n) (me_Qv D z0 (sbV tb (me_up (me_up M q (.inr (8, [.ref n, .int 0, .int 0, .int 0]))) n (.inl (tb 1, k, .inl (tx k t)))) b v cap k (tx k t)) (n + 1)) 1 198 (me_A z0) := by
  refine me_open (by decide) (Nat.le_of_ble_eq_true rfl) ?_
  intro p e s m args below meth c ls hC hr hlk hnm hM hl
  have hl : lv_has ls 2 [(0, .ref q), (1, .ref b)] := hl
  have hx := hC.1
  have hb := hC.2.1
  have hw := hC.2.2.2.2.1
  refine lv_aload_n hx hb dJ0_init_81219_0 rfl (lv_at hl 0 rfl) ?_
  refine lv_aload_n hx hb dJ0_init_81219_1 rfl (lv_at hl 1 rfl) ?_
  refine lv_null hx hb dJ0_init_81219_2 ?_
  refine me_callIv (As := [.ref b, .null]) (rest := []) hC hl.1 hM (c_J0_init_db425 l D tb X z0 n kK kV kO kT b v cap k q t M hKS hKD hbv hvq hqn hkc hcap hft) (ki_J0_489 hw rfl rfl ⟨Nat.le_of_ble_eq_true rfl, Nat.le_of_ble_eq_true rfl⟩) rfl rfl (Nat.le_of_ble_eq_true rfl) dJ0_init_81219_3 ⟨Nat.le_of_ble_eq_true rfl, Nat.le_of_ble_eq_true rfl⟩ (fun H locs hM => ?_)
  exact me_vret hC hr hlk hM (rfl) (rfl) dJ0_init_81219_6
set_option maxHeartbeats 4000000 in
theorem c_J4_toString_0e30d (l : Launch) (D : va_G) (tb : Nat → ClassId) (X : State → Prop) (z0 n : Nat) (kK kV : Nat → Nat) (kO kT : Nat) (b v cap k : Nat) (t : Nat → Int32) (M : me_M)  (hKS : ∀ U, X U → me_ks kK kV z0 U) (hKD : ∀ U, X U → me_kd kO kT z0 U) (hbv : b < v) (hvn : v < n) (hkc : k ≤ cap) (hcap : cap ≤ 198) (hft : sb_Fit t) : Met l yJ4_toString_0e30d (.code yJ4_toString_0e30d cJ4_toString_0e30d 1 (Option.some (Jvm.ClassFile.FieldType.object "java/lang/String")) :: ws_all) ({ frames := 5, cells := 2, slots := 202, locals := 135 } : Room) (me_Pc [.ref b] D tb X z0 (sbV tb M b v cap k (tx k t)) n) (me_Qr D z0 n (sbV tb (me_up (me_up M n (.inr (8, [.ref (n + 1), .int 0, .int 0, .int 0]))) (n + 1) (.inl (tb 1, k, .inl (tx k t)))) b v cap k (tx k t)) (n + 1 + 1)) 2 202 (me_A z0) := by
  refine me_open (by decide) (Nat.le_of_ble_eq_true rfl) ?_
  intro p e s m args below meth c ls hC hr hlk hnm hM hl
  have hl : lv_has ls 1 [(0, .ref b)] := hl
  have hx := hC.1
  have hb := hC.2.1
  have hw := hC.2.2.2.2.1
  refine me_new (C := RJ0) (T := TJ0) (N := 4) (ci := 8) (fs := [.null, .int 0, .int 0, .int 0]) (M2 := sbV tb (me_up M n (.inr (8, [.null, .int 0, .int 0, .int 0]))) b v cap k (tx k t)) hC hM in_J0 tyJ0 tyJ0_ok w_1035 w_1036 w_9 rfl (fun j hj => by rcases (show j = 0 ∨ j = 1 ∨ j = 2 ∨ j = 3 by omega) with rfl | rfl | rfl | rfl <;> rfl) (Nat.le_of_ble_eq_true rfl) (Nat.le_of_ble_eq_true rfl) (sb_new (by omega) (by omega)) dJ4_toString_0e30d_0 (fun H hM => ?_)
  refine lv_dup hx hb dJ4_toString_0e30d_3 rfl ?_
  refine lv_aload_n hx hb dJ4_toString_0e30d_4 rfl (lv_at hl 0 rfl) ?_
  refine me_callIv (As := [.ref b]) (rest := [.ref n]) hC hl.1 hM (c_J0_init_81219 l D tb X z0 (n + 1) kK kV kO kT b v cap k n t M hKS hKD hbv (by omega) (by omega) hkc hcap hft) (ki_J4_137 hw rfl rfl ⟨Nat.le_of_ble_eq_true rfl, Nat.le_of_ble_eq_true rfl⟩) rfl rfl (Nat.le_of_ble_eq_true rfl) dJ4_toString_0e30d_5 ⟨Nat.le_of_ble_eq_true rfl, Nat.le_of_ble_eq_true rfl⟩ (fun H locs hM => ?_)
  exact me_aret hC hr (by first | exact Or.inl ⟨_, rfl⟩ | exact Or.inr ⟨_, rfl⟩) hlk hM (rfl) (rfl) dJ4_toString_0e30d_8
set_option maxHeartbeats 4000000 in
theorem c_S_coder (l : Launch) (D : va_G) (tb : Nat → ClassId) (X : State → Prop) (z0 n : Nat) (kK kV : Nat → Nat) (q v k : Nat) (f : Nat → Int32) (M : me_M)  (hKS : ∀ U, X U → me_ks kK kV z0 U) (hq : M q = some (.inr (8, [.ref v, .int 0, .int 0, .int 0]))) (hv : M v = some (.inl (tb 1, k, .inl f))) (hk9 : k < 2 ^ 30) : Met l yJ0_coder_7d493 (.code yJ0_coder_7d493 cJ0_coder_7d493 1 (some .byte) :: ws_all) ({ frames := 0, cells := 0, slots := 0, locals := 0 } : Room) (me_Pc [.ref q] D tb X z0 (M) n) (me_Qi D z0 0 (M) n) 0 0 (me_A z0) := by
  refine me_open (by decide) (Nat.le_of_ble_eq_true rfl) ?_
  intro p e s m args below meth c ls hC hr hlk hnm hM hl
  have hl : lv_has ls 1 [(0, .ref q)] := hl
  have hx := hC.1
  have hb := hC.2.1
  have hw := hC.2.2.2.2.1
  refine va_gets hx hb (hKS s hC.2.2.2.2.2.1.2).2.1 hM.2.2.2.2 hC.2.2.2.1 (hw _ w_259) (fun _ h => h) dJ0_coder_7d493_0 ?_
  refine lv_if_eq (tgt := 13) hx hb dJ0_coder_7d493_3 (by decide) (fun c_1 => ?_) (fun c_1 => ?_)
  · exact absurd c_1 (by decide)
  · refine lv_aload_n hx hb dJ0_coder_7d493_6 rfl (lv_at hl 0 rfl) ?_
    refine fg_J0_15 hC hM hq rfl dJ0_coder_7d493_7 ?_
    refine lv_goto (tgt := 14) hx hb dJ0_coder_7d493_10 (by decide) ?_
    exact me_tret hC hr hlk hM (by first | rfl | simp [c_1]) (by decide) (rfl) (rfl) dJ0_coder_7d493_14
set_option maxHeartbeats 4000000 in
theorem c_S_isLatin1 (l : Launch) (D : va_G) (tb : Nat → ClassId) (X : State → Prop) (z0 n : Nat) (kK kV : Nat → Nat) (q v k : Nat) (f : Nat → Int32) (M : me_M)  (hKS : ∀ U, X U → me_ks kK kV z0 U) (hq : M q = some (.inr (8, [.ref v, .int 0, .int 0, .int 0]))) (hv : M v = some (.inl (tb 1, k, .inl f))) (hk9 : k < 2 ^ 30) : Met l yJ0_isLatin1_aae02 (.code yJ0_isLatin1_aae02 cJ0_isLatin1_aae02 1 (some .boolean) :: ws_all) ({ frames := 0, cells := 0, slots := 0, locals := 0 } : Room) (me_Pc [.ref q] D tb X z0 (M) n) (me_Qi D z0 1 (M) n) 0 0 (me_A z0) := by
  refine me_open (by decide) (Nat.le_of_ble_eq_true rfl) ?_
  intro p e s m args below meth c ls hC hr hlk hnm hM hl
  have hl : lv_has ls 1 [(0, .ref q)] := hl
  have hx := hC.1
  have hb := hC.2.1
  have hw := hC.2.2.2.2.1
  refine va_gets hx hb (hKS s hC.2.2.2.2.2.1.2).2.1 hM.2.2.2.2 hC.2.2.2.1 (hw _ w_259) (fun _ h => h) dJ0_isLatin1_aae02_0 ?_
  refine lv_if_eq (tgt := 17) hx hb dJ0_isLatin1_aae02_3 (by decide) (fun c_1 => ?_) (fun c_1 => ?_)
  · exact absurd c_1 (by decide)
  · refine lv_aload_n hx hb dJ0_isLatin1_aae02_6 rfl (lv_at hl 0 rfl) ?_
    refine fg_J0_15 hC hM hq rfl dJ0_isLatin1_aae02_7 ?_
    refine lv_if_ne (tgt := 17) hx hb dJ0_isLatin1_aae02_10 (by decide) (fun c_2 => ?_) (fun c_2 => ?_)
    · exact absurd c_2 (by decide)
    · refine lv_iconst (v := 1) hx hb dJ0_isLatin1_aae02_13 (by decide) ?_
      refine lv_goto (tgt := 18) hx hb dJ0_isLatin1_aae02_14 (by decide) ?_
      exact me_zret hC hr hlk hM (by first | rfl | simp [c_1, c_2]) (by first | decide | simp) (rfl) (rfl) dJ0_isLatin1_aae02_18
set_option maxHeartbeats 4000000 in
theorem c_S_length (l : Launch) (D : va_G) (tb : Nat → ClassId) (X : State → Prop) (z0 n : Nat) (kK kV : Nat → Nat) (q v k : Nat) (f : Nat → Int32) (M : me_M)  (hKS : ∀ U, X U → me_ks kK kV z0 U) (hq : M q = some (.inr (8, [.ref v, .int 0, .int 0, .int 0]))) (hv : M v = some (.inl (tb 1, k, .inl f))) (hk9 : k < 2 ^ 30) : Met l yJ0_length_8abf5 (.code yJ0_length_8abf5 cJ0_length_8abf5 1 (some .int) :: ws_all) ({ frames := 1, cells := 0, slots := 0, locals := 20 } : Room) (me_Pc [.ref q] D tb X z0 (M) n) (me_Qi D z0 (nI k) (M) n) 0 0 (me_A z0) := by
  refine me_open (by decide) (Nat.le_of_ble_eq_true rfl) ?_
  intro p e s m args below meth c ls hC hr hlk hnm hM hl
  have hl : lv_has ls 1 [(0, .ref q)] := hl
  have hx := hC.1
  have hb := hC.2.1
  have hw := hC.2.2.2.2.1
  refine lv_aload_n hx hb dJ0_length_8abf5_0 rfl (lv_at hl 0 rfl) ?_
  refine fg_J0_9 hC hM hq rfl dJ0_length_8abf5_1 ?_
  refine me_alen (t0 := 1) hC hM hv rfl dJ0_length_8abf5_4 ?_
  refine lv_aload_n hx hb dJ0_length_8abf5_5 rfl (lv_at hl 0 rfl) ?_
  refine me_callVi (As := []) (rest := [.int (nI k)]) hC hl.1 hM (c_S_coder l D tb X z0 n kK kV q v k f M hKS hq hv hk9) (kv_J0_335 hw rfl rfl ⟨Nat.le_of_ble_eq_true rfl, Nat.le_of_ble_eq_true rfl⟩) rfl rfl hq rfl (Nat.le_of_ble_eq_true rfl) dJ0_length_8abf5_6 ⟨Nat.le_of_ble_eq_true rfl, Nat.le_of_ble_eq_true rfl⟩ (fun H locs hM => ?_)
  refine lv_ishr hx hb dJ0_length_8abf5_9 ?_
  refine me_evi (y := nI k) (sb_shr0 _) ?_
  exact me_iret hC hr hlk hM (by first | rfl | simp []) (rfl) (rfl) dJ0_length_8abf5_10
set_option maxHeartbeats 4000000 in
theorem c_S1_charAt (l : Launch) (D : va_G) (tb : Nat → ClassId) (X : State → Prop) (z0 n : Nat) (kK kV : Nat → Nat) (q v k : Nat) (f : Nat → Int32) (M : me_M) (i : Nat)  (hKS : ∀ U, X U → me_ks kK kV z0 U) (hq : M q = some (.inr (8, [.ref v, .int 0, .int 0, .int 0]))) (hv : M v = some (.inl (tb 1, k, .inl f))) (hk9 : k < 2 ^ 30) (hi : i < k) (hch : ((f i &&& 255).toUInt32 % 65536).toInt32 = f i) (hnr : narrow .char (.int (f i)) = .int (f i)) : Met l yJ1_charAt_3b067 (.code yJ1_charAt_3b067 cJ1_charAt_3b067 2 (some .char) :: ws_all) ({ frames := 2, cells := 0, slots := 0, locals := 43 } : Room) (me_Pc [.ref v, .int (nI i)] D tb X z0 (M) n) (me_Qi D z0 (f i) (M) n) 0 0 (me_A z0) := by
  refine me_open (by decide) (Nat.le_of_ble_eq_true rfl) ?_
  intro p e s m args below meth c ls hC hr hlk hnm hM hl
  have hl : lv_has ls 2 [(0, .ref v), (1, .int (nI i))] := hl
  have hx := hC.1
  have hb := hC.2.1
  have hw := hC.2.2.2.2.1
  refine lv_iload_n hx hb dJ1_charAt_3b067_0 rfl (lv_at hl 1 rfl) ?_
  refine lv_aload_n hx hb dJ1_charAt_3b067_1 rfl (lv_at hl 0 rfl) ?_
  refine me_alen (t0 := 1) hC hM hv rfl dJ1_charAt_3b067_2 ?_
  refine me_callSv (As := [.int (nI i), .int (nI k)]) (rest := []) hC hl.1 hM (c_J0_checkIndex_df160 l D tb X z0 n kK kV M i k hKS (by omega) (by omega)) (ks_J1_9 hw rfl rfl ⟨Nat.le_of_ble_eq_true rfl, Nat.le_of_ble_eq_true rfl⟩) rfl rfl (Nat.le_of_ble_eq_true rfl) dJ1_charAt_3b067_3 ⟨Nat.le_of_ble_eq_true rfl, Nat.le_of_ble_eq_true rfl⟩ (fun H locs hM => ?_)
  refine lv_aload_n hx hb dJ1_charAt_3b067_6 rfl (lv_at hl 0 rfl) ?_
  refine lv_iload_n hx hb dJ1_charAt_3b067_7 rfl (lv_at hl 1 rfl) ?_
  refine me_bald (k := i) hC hM hv rfl (by omega) (by first | decide | omega) dJ1_charAt_3b067_8 ?_
  refine lv_sipush (v := 255) hx hb dJ1_charAt_3b067_9 (by decide) ?_
  refine lv_iand hx hb dJ1_charAt_3b067_12 ?_
  refine lv_i2c (v := (((f i) &&& 255).toUInt32 % 65536).toInt32) hx hb dJ1_charAt_3b067_13 rfl ?_
  exact me_tret hC hr hlk hM (hch) (by rw [hch]; exact hnr) (rfl) (rfl) dJ1_charAt_3b067_14
set_option maxHeartbeats 4000000 in
theorem c_S_charAt (l : Launch) (D : va_G) (tb : Nat → ClassId) (X : State → Prop) (z0 n : Nat) (kK kV : Nat → Nat) (q v k : Nat) (f : Nat → Int32) (M : me_M) (i : Nat)  (hKS : ∀ U, X U → me_ks kK kV z0 U) (hq : M q = some (.inr (8, [.ref v, .int 0, .int 0, .int 0]))) (hv : M v = some (.inl (tb 1, k, .inl f))) (hk9 : k < 2 ^ 30) (hi : i < k) (hch : ((f i &&& 255).toUInt32 % 65536).toInt32 = f i) (hnr : narrow .char (.int (f i)) = .int (f i)) : Met l yJ0_charAt_5068e (.code yJ0_charAt_5068e cJ0_charAt_5068e 2 (some .char) :: ws_all) ({ frames := 3, cells := 0, slots := 0, locals := 64 } : Room) (me_Pc [.ref q, .int (nI i)] D tb X z0 (M) n) (me_Qi D z0 (f i) (M) n) 0 0 (me_A z0) := by
  refine me_open (by decide) (Nat.le_of_ble_eq_true rfl) ?_
  intro p e s m args below meth c ls hC hr hlk hnm hM hl
  have hl : lv_has ls 2 [(0, .ref q), (1, .int (nI i))] := hl
  have hx := hC.1
  have hb := hC.2.1
  have hw := hC.2.2.2.2.1
  refine lv_aload_n hx hb dJ0_charAt_5068e_0 rfl (lv_at hl 0 rfl) ?_
  refine me_callVi (As := []) (rest := []) hC hl.1 hM (c_S_isLatin1 l D tb X z0 n kK kV q v k f M hKS hq hv hk9) (kv_J0_492 hw rfl rfl ⟨Nat.le_of_ble_eq_true rfl, Nat.le_of_ble_eq_true rfl⟩) rfl rfl hq rfl (Nat.le_of_ble_eq_true rfl) dJ0_charAt_5068e_1 ⟨Nat.le_of_ble_eq_true rfl, Nat.le_of_ble_eq_true rfl⟩ (fun H locs hM => ?_)
  refine lv_if_eq (tgt := 16) hx hb dJ0_charAt_5068e_4 (by decide) (fun c_1 => ?_) (fun c_1 => ?_)
  · exact absurd c_1 (by decide)
  · refine lv_aload_n hx hb dJ0_charAt_5068e_7 rfl (lv_at hl 0 rfl) ?_
    refine fg_J0_9 hC hM hq rfl dJ0_charAt_5068e_8 ?_
    refine lv_iload_n hx hb dJ0_charAt_5068e_11 rfl (lv_at hl 1 rfl) ?_
    refine me_callSi (As := [.ref v, .int (nI i)]) (rest := []) hC hl.1 hM (c_S1_charAt l D tb X z0 n kK kV q v k f M i hKS hq hv hk9 hi hch hnr) (ks_J0_495 hw rfl rfl ⟨Nat.le_of_ble_eq_true rfl, Nat.le_of_ble_eq_true rfl⟩) rfl rfl (Nat.le_of_ble_eq_true rfl) dJ0_charAt_5068e_12 ⟨Nat.le_of_ble_eq_true rfl, Nat.le_of_ble_eq_true rfl⟩ (fun H locs hM => ?_)
    exact me_tret hC hr hlk hM (by first | rfl | simp [c_1]) (hnr) (rfl) (rfl) dJ0_charAt_5068e_15
