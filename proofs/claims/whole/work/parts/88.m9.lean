set_option maxHeartbeats 4000000 in
theorem c_X8_spellsKey (l : Launch) (D : va_G) (tb : Nat → ClassId) (X : State → Prop) (z0 n : Nat) (mo : Nat) (F w av od sv sl nz ip ot : Nat → Int32) (M0 : me_M) (k : Nat)  (hk : k < 12) : Met l yX8_spellsKey (.code yX8_spellsKey cX8_spellsKey 3 none :: ws_all) ({ frames := 0, cells := 0, slots := 0, locals := 0 } : Room) (me_Pc [.ref mo, .int (nI k)] D tb X z0 (mq tb mo F w av od sv sl nz ip ot M0) n) (me_Qv D z0 (mq tb mo F w av od sv (cq sl (ksl k) 0 6) nz ip ot M0) n) 0 0 (me_A z0) := by
  refine me_open (by decide) (Nat.le_of_ble_eq_true rfl) ?_
  intro p e s m args below meth c ls hC hr hlk hnm hM hl
  have hl : lv_has ls 3 [(0, .ref mo), (1, .int (nI k))] := hl
  have hx := hC.1
  have hb := hC.2.1
  have hw := hC.2.2.2.2.1
  refine lv_iconst (v := 0) hx hb dX8_spellsKey_0 (by decide) ?_
  refine lv_istore_n (lv' := [(2, .int 0), (0, .ref mo), (1, .int (nI k))]) hx hb dX8_spellsKey_1 rfl hl (by decide) rfl (fun ls hl => ?_)
  have lp_2 : ∀ (r : Nat) (i : Nat) (H : Heap) (locs : List Loc) (ls : Array Slot), (i + r = 6) → me_at D z0 (mq tb mo F w av od sv (cq sl (ksl k) 0 i) nz ip ot M0) n s H locs → lv_has ls 3 [(0, .ref mo), (1, .int (nI k)), (2, .int (nI i))] → W p l e (({ frames := 0, cells := 0, slots := 0, locals := 0 } : Room)) s m args below meth c H locs 0 0 (MQ below (me_Qv D z0 (mq tb mo F w av od sv (cq sl (ksl k) 0 6) nz ip ot M0) n) args s 0 0 (me_A z0)) (F0 m 2 ls []) := by
    intro r
    refine Nat.strongRecOn r ?_
    intro r ih_2 i H locs ls hi hM hl
    refine lv_iload_n hx hb dX8_spellsKey_2 rfl (lv_at hl 2 rfl) ?_
    refine lv_bipush (v := 6) hx hb dX8_spellsKey_3 (by decide) ?_
    refine lv_icmp_ge (tgt := 31) hx hb dX8_spellsKey_5 (by decide) (fun c_1 => ?_) (fun c_1 => ?_)
    · have c_1 := (br_le (nx_c 6) rfl (by omega) (by omega)).mp c_1
      exact me_vret hC hr hlk hM (by rw [show i = 6 by omega]) (rfl) dX8_spellsKey_31
    · have c_1 := (not_congr (br_le (nx_c 6) rfl (by omega) (by omega))).mp c_1
      obtain ⟨r1, rfl⟩ : ∃ r1, r = r1 + 1 := ⟨r - 1, by omega⟩
      refine lv_aload_n hx hb dX8_spellsKey_8 rfl (lv_at hl 0 rfl) ?_
      refine fg_X8_25 hC hM mq_F rfl dX8_spellsKey_9 ?_
      refine lv_iload_n hx hb dX8_spellsKey_12 rfl (lv_at hl 2 rfl) ?_
      refine lv_aload_n hx hb dX8_spellsKey_13 rfl (lv_at hl 0 rfl) ?_
      refine fg_X8_7 hC hM mq_F rfl dX8_spellsKey_14 ?_
      refine lv_bipush (v := 8) hx hb dX8_spellsKey_17 (by decide) ?_
      refine lv_iload_n hx hb dX8_spellsKey_19 rfl (lv_at hl 1 rfl) ?_
      refine lv_imul hx hb dX8_spellsKey_20 ?_
      refine lv_iload_n hx hb dX8_spellsKey_21 rfl (lv_at hl 2 rfl) ?_
      refine lv_iadd hx hb dX8_spellsKey_22 ?_
      refine me_iald (k := 8 * k + i) hC hM mq_ky (nx_add (nx_mul (nx_c 8) rfl) rfl) (by omega) (by decide) dX8_spellsKey_23 ?_
      refine me_iast (k := i) (M2 := mq tb mo F w av od sv (upd (cq sl (ksl k) 0 i) (i) (kyF (8 * k + i))) nz ip ot M0) hC hM mq_sl rfl (by omega) (by decide) mq_w_sl dX8_spellsKey_24 (fun H locs hM => ?_)
      refine lv_iinc (v := nI (i + 1)) (lv' := [(2, .int (nI (i + 1))), (0, .ref mo), (1, .int (nI k))]) hx hb dX8_spellsKey_25 hl (k := 2) rfl (nx_add rfl rfl) (by decide) rfl (fun ls hl => ?_)
      refine lv_goto (tgt := 2) hx hb dX8_spellsKey_28 (by decide) ?_
      exact ih_2 r1 (by omega) (i + 1) _ _ _ (by omega) (hM.eq (by rw [← cq_s0])) (lv_sub hl [1, 2, 0] rfl)
  exact lp_2 6 0 _ _ _ (by omega) (hM.eq (by rw [cq_0])) (lv_sub hl [1, 2, 0] rfl)
theorem mq_start {tb : Nat → ClassId} {mo : Nat} {M0 : me_M} : me_up (me_up (me_up (me_up (me_up (me_up (me_up (me_up (me_up (me_up (me_up (me_up (me_up (me_up (me_up (me_up (me_up (me_up (me_up M0 mo (.inr (8, [.null, .int 0, .null, .null, .null, .int 0, .null, .int 0, .null, .null, .null, .int 0, .null, .int 0, .int 0, .int 0, .int 0, .int 0, .int 0, .int 0, .int 0, .int 0, .int 0]))) (mo + 1) (.inl (tb 0, 96, .inl (kyP 96)))) mo (.inr (8, [.ref (mo + 1), .int 0, .null, .null, .null, .int 0, .null, .int 0, .null, .null, .null, .int 0, .null, .int 0, .int 0, .int 0, .int 0, .int 0, .int 0, .int 0, .int 0, .int 0, .int 0]))) (mo + 2) (.inl (tb 0, 411, .inl (fun _ => 0)))) mo (.inr (8, [.ref (mo + 1), .int 0, .ref (mo + 2), .null, .null, .int 0, .null, .int 0, .null, .null, .null, .int 0, .null, .int 0, .int 0, .int 0, .int 0, .int 0, .int 0, .int 0, .int 0, .int 0, .int 0]))) (mo + 3) (.inl (tb 0, 411, .inl (fun _ => 0)))) mo (.inr (8, [.ref (mo + 1), .int 0, .ref (mo + 2), .ref (mo + 3), .null, .int 0, .null, .int 0, .null, .null, .null, .int 0, .null, .int 0, .int 0, .int 0, .int 0, .int 0, .int 0, .int 0, .int 0, .int 0, .int 0]))) (mo + 4) (.inl (tb 0, 4110, .inl (fun _ => 0)))) mo (.inr (8, [.ref (mo + 1), .int 0, .ref (mo + 2), .ref (mo + 3), .ref (mo + 4), .int 0, .null, .int 0, .null, .null, .null, .int 0, .null, .int 0, .int 0, .int 0, .int 0, .int 0, .int 0, .int 0, .int 0, .int 0, .int 0]))) (mo + 5) (.inl (tb 0, 822, .inl (fun _ => 0)))) mo (.inr (8, [.ref (mo + 1), .int 0, .ref (mo + 2), .ref (mo + 3), .ref (mo + 4), .int 0, .ref (mo + 5), .int 0, .null, .null, .null, .int 0, .null, .int 0, .int 0, .int 0, .int 0, .int 0, .int 0, .int 0, .int 0, .int 0, .int 0]))) (mo + 6) (.inl (tb 0, 6, .inl (fun _ => 0)))) mo (.inr (8, [.ref (mo + 1), .int 0, .ref (mo + 2), .ref (mo + 3), .ref (mo + 4), .int 0, .ref (mo + 5), .int 0, .ref (mo + 6), .null, .null, .int 0, .null, .int 0, .int 0, .int 0, .int 0, .int 0, .int 0, .int 0, .int 0, .int 0, .int 0]))) (mo + 7) (.inl (tb 0, 8, .inl (fun _ => 0)))) mo (.inr (8, [.ref (mo + 1), .int 0, .ref (mo + 2), .ref (mo + 3), .ref (mo + 4), .int 0, .ref (mo + 5), .int 0, .ref (mo + 6), .ref (mo + 7), .null, .int 0, .null, .int 0, .int 0, .int 0, .int 0, .int 0, .int 0, .int 0, .int 0, .int 0, .int 0]))) (mo + 8) (.inl (tb 1, 700, .inl (fun _ => 0)))) mo (.inr (8, [.ref (mo + 1), .int 0, .ref (mo + 2), .ref (mo + 3), .ref (mo + 4), .int 0, .ref (mo + 5), .int 0, .ref (mo + 6), .ref (mo + 7), .ref (mo + 8), .int 0, .null, .int 0, .int 0, .int 0, .int 0, .int 0, .int 0, .int 0, .int 0, .int 0, .int 0]))) (mo + 9) (.inl (tb 1, 40, .inl (fun _ => 0)))) mo (.inr (8, [.ref (mo + 1), .int 0, .ref (mo + 2), .ref (mo + 3), .ref (mo + 4), .int 0, .ref (mo + 5), .int 0, .ref (mo + 6), .ref (mo + 7), .ref (mo + 8), .int 0, .ref (mo + 9), .int 0, .int 0, .int 0, .int 0, .int 0, .int 0, .int 0, .int 0, .int 0, .int 0])) = mq tb mo zz zz zz zz zz zz zz zz zz M0 := by
  funext q
  by_cases h0 : q = mo
  · subst h0; simp [me_up, mq, ky_96]
  by_cases h1 : q = mo + 1
  · subst h1; simp [me_up, mq, ky_96]
  by_cases h2 : q = mo + 2
  · subst h2; simp [me_up, mq, ky_96]
  by_cases h3 : q = mo + 3
  · subst h3; simp [me_up, mq, ky_96]
  by_cases h4 : q = mo + 4
  · subst h4; simp [me_up, mq, ky_96]
  by_cases h5 : q = mo + 5
  · subst h5; simp [me_up, mq, ky_96]
  by_cases h6 : q = mo + 6
  · subst h6; simp [me_up, mq, ky_96]
  by_cases h7 : q = mo + 7
  · subst h7; simp [me_up, mq, ky_96]
  by_cases h8 : q = mo + 8
  · subst h8; simp [me_up, mq, ky_96]
  by_cases h9 : q = mo + 9
  · subst h9; simp [me_up, mq, ky_96]
  simp [me_up, mq, h0, h1, h2, h3, h4, h5, h6, h7, h8, h9]
set_option maxHeartbeats 4000000 in
theorem c_X8_init (l : Launch) (D : va_G) (tb : Nat → ClassId) (X : State → Prop) (z0 n : Nat) (mo : Nat) (M0 : me_M)  (hn : n = mo + 1) : Met l yX8_init (.code yX8_init cX8_init 2 none :: ws_all) ({ frames := 8, cells := 9, slots := 6604, locals := 175 } : Room) (me_Pc [.ref mo] D tb X z0 (me_up M0 mo (.inr (8, [.null, .int 0, .null, .null, .null, .int 0, .null, .int 0, .null, .null, .null, .int 0, .null, .int 0, .int 0, .int 0, .int 0, .int 0, .int 0, .int 0, .int 0, .int 0, .int 0]))) n) (me_Qv D z0 (mq tb mo (upd zz 6 (-1)) iwZ.1 zz zz zz isE iwZ.2 zz zz M0) (mo + 10)) 9 6604 (me_A z0) := by
  refine me_open (by decide) (Nat.le_of_ble_eq_true rfl) ?_
  intro p e s m args below meth c ls hC hr hlk hnm hM hl
  have hl : lv_has ls 2 [(0, .ref mo)] := hl
  have hx := hC.1
  have hb := hC.2.1
  have hw := hC.2.2.2.2.1
  subst hn
  refine lv_aload_n hx hb dX8_init_0 rfl (lv_at hl 0 rfl) ?_
  refine W.objInit hx hb hC.2.2.2.1 (hw _ w_1308) (hw _ w_33) (hw _ w_34) rfl (by rw [hC.2.2.1]; exact hl.1) rfl dX8_init_1 (Nat.le_of_ble_eq_true rfl) (Nat.le_of_ble_eq_true rfl) ?_
  refine W.eq (g2 := F0 m 4 ls []) rfl ?_
  refine lv_aload_n hx hb dX8_init_4 rfl (lv_at hl 0 rfl) ?_
  refine lv_bipush (v := 96) hx hb dX8_init_5 (by decide) ?_
  refine me_newa (atype := .int) (N' := 96) (a0 := (96, .inl (fun _ => 0))) (k := 0) (M2 := me_up (me_up M0 mo (.inr (8, [.null, .int 0, .null, .null, .null, .int 0, .null, .int 0, .null, .null, .null, .int 0, .null, .int 0, .int 0, .int 0, .int 0, .int 0, .int 0, .int 0, .int 0, .int 0, .int 0]))) (mo + 1) (.inl (tb 0, 96, .inl (fun _ => 0)))) hC hM w_1490 rfl (fun _ => rfl) (by decide) (by decide) (by decide) (Nat.le_of_ble_eq_true rfl) (Nat.le_of_ble_eq_true rfl) rfl dX8_init_7 (fun H hM => ?_)
  have hM := hM.eq (M2 := me_up (me_up M0 mo (.inr (8, [.null, .int 0, .null, .null, .null, .int 0, .null, .int 0, .null, .null, .null, .int 0, .null, .int 0, .int 0, .int 0, .int 0, .int 0, .int 0, .int 0, .int 0, .int 0, .int 0]))) (mo + 1) (.inl (tb 0, 96, .inl (kyP 0)))) (by rw [ky_0])
  refine lv_dup hx hb dX8_init_9 rfl ?_
  refine lv_iconst (v := 0) hx hb dX8_init_10 (by decide) ?_
  refine lv_bipush (v := 98) hx hb dX8_init_11 (by decide) ?_
  refine me_iast (k := 0) (M2 := me_up (me_up M0 mo (.inr (8, [.null, .int 0, .null, .null, .null, .int 0, .null, .int 0, .null, .null, .null, .int 0, .null, .int 0, .int 0, .int 0, .int 0, .int 0, .int 0, .int 0, .int 0, .int 0, .int 0]))) (mo + 1) (.inl (tb 0, 96, .inl (kyP 1)))) hC hM (me_up_s _ _ _) (show (0 : Int32) = nI 0 from rfl) (by omega) (by decide) (ky_st (k := 0) (by decide)) dX8_init_13 (fun H locs hM => ?_)
  refine lv_dup hx hb dX8_init_14 rfl ?_
  refine lv_iconst (v := 1) hx hb dX8_init_15 (by decide) ?_
  refine lv_bipush (v := 117) hx hb dX8_init_16 (by decide) ?_
  refine me_iast (k := 1) (M2 := me_up (me_up M0 mo (.inr (8, [.null, .int 0, .null, .null, .null, .int 0, .null, .int 0, .null, .null, .null, .int 0, .null, .int 0, .int 0, .int 0, .int 0, .int 0, .int 0, .int 0, .int 0, .int 0, .int 0]))) (mo + 1) (.inl (tb 0, 96, .inl (kyP 2)))) hC hM (me_up_s _ _ _) (show (1 : Int32) = nI 1 from rfl) (by omega) (by decide) (ky_st (k := 1) (by decide)) dX8_init_18 (fun H locs hM => ?_)
  refine lv_dup hx hb dX8_init_19 rfl ?_
  refine lv_iconst (v := 2) hx hb dX8_init_20 (by decide) ?_
  refine lv_bipush (v := 114) hx hb dX8_init_21 (by decide) ?_
  refine me_iast (k := 2) (M2 := me_up (me_up M0 mo (.inr (8, [.null, .int 0, .null, .null, .null, .int 0, .null, .int 0, .null, .null, .null, .int 0, .null, .int 0, .int 0, .int 0, .int 0, .int 0, .int 0, .int 0, .int 0, .int 0, .int 0]))) (mo + 1) (.inl (tb 0, 96, .inl (kyP 3)))) hC hM (me_up_s _ _ _) (nx_c 2) (by omega) (by decide) (ky_st (k := 2) (by decide)) dX8_init_23 (fun H locs hM => ?_)
  refine lv_dup hx hb dX8_init_24 rfl ?_
  refine lv_iconst (v := 3) hx hb dX8_init_25 (by decide) ?_
  refine lv_bipush (v := 101) hx hb dX8_init_26 (by decide) ?_
  refine me_iast (k := 3) (M2 := me_up (me_up M0 mo (.inr (8, [.null, .int 0, .null, .null, .null, .int 0, .null, .int 0, .null, .null, .null, .int 0, .null, .int 0, .int 0, .int 0, .int 0, .int 0, .int 0, .int 0, .int 0, .int 0, .int 0]))) (mo + 1) (.inl (tb 0, 96, .inl (kyP 4)))) hC hM (me_up_s _ _ _) (nx_c 3) (by omega) (by decide) (ky_st (k := 3) (by decide)) dX8_init_28 (fun H locs hM => ?_)
  refine lv_dup hx hb dX8_init_29 rfl ?_
  refine lv_iconst (v := 4) hx hb dX8_init_30 (by decide) ?_
  refine lv_bipush (v := 97) hx hb dX8_init_31 (by decide) ?_
  refine me_iast (k := 4) (M2 := me_up (me_up M0 mo (.inr (8, [.null, .int 0, .null, .null, .null, .int 0, .null, .int 0, .null, .null, .null, .int 0, .null, .int 0, .int 0, .int 0, .int 0, .int 0, .int 0, .int 0, .int 0, .int 0, .int 0]))) (mo + 1) (.inl (tb 0, 96, .inl (kyP 5)))) hC hM (me_up_s _ _ _) (nx_c 4) (by omega) (by decide) (ky_st (k := 4) (by decide)) dX8_init_33 (fun H locs hM => ?_)
  refine lv_dup hx hb dX8_init_34 rfl ?_
  refine lv_iconst (v := 5) hx hb dX8_init_35 (by decide) ?_
  refine lv_bipush (v := 117) hx hb dX8_init_36 (by decide) ?_
  refine me_iast (k := 5) (M2 := me_up (me_up M0 mo (.inr (8, [.null, .int 0, .null, .null, .null, .int 0, .null, .int 0, .null, .null, .null, .int 0, .null, .int 0, .int 0, .int 0, .int 0, .int 0, .int 0, .int 0, .int 0, .int 0, .int 0]))) (mo + 1) (.inl (tb 0, 96, .inl (kyP 6)))) hC hM (me_up_s _ _ _) (nx_c 5) (by omega) (by decide) (ky_st (k := 5) (by decide)) dX8_init_38 (fun H locs hM => ?_)
  refine lv_dup hx hb dX8_init_39 rfl ?_
  refine lv_bipush (v := 6) hx hb dX8_init_40 (by decide) ?_
  refine lv_iconst (v := 0) hx hb dX8_init_42 (by decide) ?_
  refine me_iast (k := 6) (M2 := me_up (me_up M0 mo (.inr (8, [.null, .int 0, .null, .null, .null, .int 0, .null, .int 0, .null, .null, .null, .int 0, .null, .int 0, .int 0, .int 0, .int 0, .int 0, .int 0, .int 0, .int 0, .int 0, .int 0]))) (mo + 1) (.inl (tb 0, 96, .inl (kyP 7)))) hC hM (me_up_s _ _ _) (nx_c 6) (by omega) (by decide) (ky_st (k := 6) (by decide)) dX8_init_43 (fun H locs hM => ?_)
  refine lv_dup hx hb dX8_init_44 rfl ?_
  refine lv_bipush (v := 7) hx hb dX8_init_45 (by decide) ?_
  refine lv_iconst (v := 0) hx hb dX8_init_47 (by decide) ?_
  refine me_iast (k := 7) (M2 := me_up (me_up M0 mo (.inr (8, [.null, .int 0, .null, .null, .null, .int 0, .null, .int 0, .null, .null, .null, .int 0, .null, .int 0, .int 0, .int 0, .int 0, .int 0, .int 0, .int 0, .int 0, .int 0, .int 0]))) (mo + 1) (.inl (tb 0, 96, .inl (kyP 8)))) hC hM (me_up_s _ _ _) (nx_c 7) (by omega) (by decide) (ky_st (k := 7) (by decide)) dX8_init_48 (fun H locs hM => ?_)
  refine lv_dup hx hb dX8_init_49 rfl ?_
  refine lv_bipush (v := 8) hx hb dX8_init_50 (by decide) ?_
  refine lv_bipush (v := 115) hx hb dX8_init_52 (by decide) ?_
  refine me_iast (k := 8) (M2 := me_up (me_up M0 mo (.inr (8, [.null, .int 0, .null, .null, .null, .int 0, .null, .int 0, .null, .null, .null, .int 0, .null, .int 0, .int 0, .int 0, .int 0, .int 0, .int 0, .int 0, .int 0, .int 0, .int 0]))) (mo + 1) (.inl (tb 0, 96, .inl (kyP 9)))) hC hM (me_up_s _ _ _) (nx_c 8) (by omega) (by decide) (ky_st (k := 8) (by decide)) dX8_init_54 (fun H locs hM => ?_)
  refine lv_dup hx hb dX8_init_55 rfl ?_
  refine lv_bipush (v := 9) hx hb dX8_init_56 (by decide) ?_
  refine lv_bipush (v := 116) hx hb dX8_init_58 (by decide) ?_
  refine me_iast (k := 9) (M2 := me_up (me_up M0 mo (.inr (8, [.null, .int 0, .null, .null, .null, .int 0, .null, .int 0, .null, .null, .null, .int 0, .null, .int 0, .int 0, .int 0, .int 0, .int 0, .int 0, .int 0, .int 0, .int 0, .int 0]))) (mo + 1) (.inl (tb 0, 96, .inl (kyP 10)))) hC hM (me_up_s _ _ _) (nx_c 9) (by omega) (by decide) (ky_st (k := 9) (by decide)) dX8_init_60 (fun H locs hM => ?_)
  refine lv_dup hx hb dX8_init_61 rfl ?_
  refine lv_bipush (v := 10) hx hb dX8_init_62 (by decide) ?_
  refine lv_bipush (v := 114) hx hb dX8_init_64 (by decide) ?_
  refine me_iast (k := 10) (M2 := me_up (me_up M0 mo (.inr (8, [.null, .int 0, .null, .null, .null, .int 0, .null, .int 0, .null, .null, .null, .int 0, .null, .int 0, .int 0, .int 0, .int 0, .int 0, .int 0, .int 0, .int 0, .int 0, .int 0]))) (mo + 1) (.inl (tb 0, 96, .inl (kyP 11)))) hC hM (me_up_s _ _ _) (nx_c 10) (by omega) (by decide) (ky_st (k := 10) (by decide)) dX8_init_66 (fun H locs hM => ?_)
  refine lv_dup hx hb dX8_init_67 rfl ?_
  refine lv_bipush (v := 11) hx hb dX8_init_68 (by decide) ?_
  refine lv_bipush (v := 101) hx hb dX8_init_70 (by decide) ?_
  refine me_iast (k := 11) (M2 := me_up (me_up M0 mo (.inr (8, [.null, .int 0, .null, .null, .null, .int 0, .null, .int 0, .null, .null, .null, .int 0, .null, .int 0, .int 0, .int 0, .int 0, .int 0, .int 0, .int 0, .int 0, .int 0, .int 0]))) (mo + 1) (.inl (tb 0, 96, .inl (kyP 12)))) hC hM (me_up_s _ _ _) (nx_c 11) (by omega) (by decide) (ky_st (k := 11) (by decide)) dX8_init_72 (fun H locs hM => ?_)
  refine lv_dup hx hb dX8_init_73 rfl ?_
  refine lv_bipush (v := 12) hx hb dX8_init_74 (by decide) ?_
  refine lv_bipush (v := 101) hx hb dX8_init_76 (by decide) ?_
  refine me_iast (k := 12) (M2 := me_up (me_up M0 mo (.inr (8, [.null, .int 0, .null, .null, .null, .int 0, .null, .int 0, .null, .null, .null, .int 0, .null, .int 0, .int 0, .int 0, .int 0, .int 0, .int 0, .int 0, .int 0, .int 0, .int 0]))) (mo + 1) (.inl (tb 0, 96, .inl (kyP 13)))) hC hM (me_up_s _ _ _) (nx_c 12) (by omega) (by decide) (ky_st (k := 12) (by decide)) dX8_init_78 (fun H locs hM => ?_)
  refine lv_dup hx hb dX8_init_79 rfl ?_
  refine lv_bipush (v := 13) hx hb dX8_init_80 (by decide) ?_
  refine lv_bipush (v := 116) hx hb dX8_init_82 (by decide) ?_
  refine me_iast (k := 13) (M2 := me_up (me_up M0 mo (.inr (8, [.null, .int 0, .null, .null, .null, .int 0, .null, .int 0, .null, .null, .null, .int 0, .null, .int 0, .int 0, .int 0, .int 0, .int 0, .int 0, .int 0, .int 0, .int 0, .int 0]))) (mo + 1) (.inl (tb 0, 96, .inl (kyP 14)))) hC hM (me_up_s _ _ _) (nx_c 13) (by omega) (by decide) (ky_st (k := 13) (by decide)) dX8_init_84 (fun H locs hM => ?_)
  refine lv_dup hx hb dX8_init_85 rfl ?_
  refine lv_bipush (v := 14) hx hb dX8_init_86 (by decide) ?_
  refine lv_iconst (v := 0) hx hb dX8_init_88 (by decide) ?_
  refine me_iast (k := 14) (M2 := me_up (me_up M0 mo (.inr (8, [.null, .int 0, .null, .null, .null, .int 0, .null, .int 0, .null, .null, .null, .int 0, .null, .int 0, .int 0, .int 0, .int 0, .int 0, .int 0, .int 0, .int 0, .int 0, .int 0]))) (mo + 1) (.inl (tb 0, 96, .inl (kyP 15)))) hC hM (me_up_s _ _ _) (nx_c 14) (by omega) (by decide) (ky_st (k := 14) (by decide)) dX8_init_89 (fun H locs hM => ?_)
  refine lv_dup hx hb dX8_init_90 rfl ?_
  refine lv_bipush (v := 15) hx hb dX8_init_91 (by decide) ?_
  refine lv_iconst (v := 0) hx hb dX8_init_93 (by decide) ?_
  refine me_iast (k := 15) (M2 := me_up (me_up M0 mo (.inr (8, [.null, .int 0, .null, .null, .null, .int 0, .null, .int 0, .null, .null, .null, .int 0, .null, .int 0, .int 0, .int 0, .int 0, .int 0, .int 0, .int 0, .int 0, .int 0, .int 0]))) (mo + 1) (.inl (tb 0, 96, .inl (kyP 16)))) hC hM (me_up_s _ _ _) (nx_c 15) (by omega) (by decide) (ky_st (k := 15) (by decide)) dX8_init_94 (fun H locs hM => ?_)
  refine lv_dup hx hb dX8_init_95 rfl ?_
  refine lv_bipush (v := 16) hx hb dX8_init_96 (by decide) ?_
  refine lv_bipush (v := 98) hx hb dX8_init_98 (by decide) ?_
  refine me_iast (k := 16) (M2 := me_up (me_up M0 mo (.inr (8, [.null, .int 0, .null, .null, .null, .int 0, .null, .int 0, .null, .null, .null, .int 0, .null, .int 0, .int 0, .int 0, .int 0, .int 0, .int 0, .int 0, .int 0, .int 0, .int 0]))) (mo + 1) (.inl (tb 0, 96, .inl (kyP 17)))) hC hM (me_up_s _ _ _) (nx_c 16) (by omega) (by decide) (ky_st (k := 16) (by decide)) dX8_init_100 (fun H locs hM => ?_)
  refine lv_dup hx hb dX8_init_101 rfl ?_
  refine lv_bipush (v := 17) hx hb dX8_init_102 (by decide) ?_
  refine lv_bipush (v := 111) hx hb dX8_init_104 (by decide) ?_
  refine me_iast (k := 17) (M2 := me_up (me_up M0 mo (.inr (8, [.null, .int 0, .null, .null, .null, .int 0, .null, .int 0, .null, .null, .null, .int 0, .null, .int 0, .int 0, .int 0, .int 0, .int 0, .int 0, .int 0, .int 0, .int 0, .int 0]))) (mo + 1) (.inl (tb 0, 96, .inl (kyP 18)))) hC hM (me_up_s _ _ _) (nx_c 17) (by omega) (by decide) (ky_st (k := 17) (by decide)) dX8_init_106 (fun H locs hM => ?_)
  refine lv_dup hx hb dX8_init_107 rfl ?_
  refine lv_bipush (v := 18) hx hb dX8_init_108 (by decide) ?_
  refine lv_bipush (v := 114) hx hb dX8_init_110 (by decide) ?_
  refine me_iast (k := 18) (M2 := me_up (me_up M0 mo (.inr (8, [.null, .int 0, .null, .null, .null, .int 0, .null, .int 0, .null, .null, .null, .int 0, .null, .int 0, .int 0, .int 0, .int 0, .int 0, .int 0, .int 0, .int 0, .int 0, .int 0]))) (mo + 1) (.inl (tb 0, 96, .inl (kyP 19)))) hC hM (me_up_s _ _ _) (nx_c 18) (by omega) (by decide) (ky_st (k := 18) (by decide)) dX8_init_112 (fun H locs hM => ?_)
  refine lv_dup hx hb dX8_init_113 rfl ?_
  refine lv_bipush (v := 19) hx hb dX8_init_114 (by decide) ?_
  refine lv_bipush (v := 114) hx hb dX8_init_116 (by decide) ?_
  refine me_iast (k := 19) (M2 := me_up (me_up M0 mo (.inr (8, [.null, .int 0, .null, .null, .null, .int 0, .null, .int 0, .null, .null, .null, .int 0, .null, .int 0, .int 0, .int 0, .int 0, .int 0, .int 0, .int 0, .int 0, .int 0, .int 0]))) (mo + 1) (.inl (tb 0, 96, .inl (kyP 20)))) hC hM (me_up_s _ _ _) (nx_c 19) (by omega) (by decide) (ky_st (k := 19) (by decide)) dX8_init_118 (fun H locs hM => ?_)
  refine lv_dup hx hb dX8_init_119 rfl ?_
  refine lv_bipush (v := 20) hx hb dX8_init_120 (by decide) ?_
  refine lv_bipush (v := 111) hx hb dX8_init_122 (by decide) ?_
  refine me_iast (k := 20) (M2 := me_up (me_up M0 mo (.inr (8, [.null, .int 0, .null, .null, .null, .int 0, .null, .int 0, .null, .null, .null, .int 0, .null, .int 0, .int 0, .int 0, .int 0, .int 0, .int 0, .int 0, .int 0, .int 0, .int 0]))) (mo + 1) (.inl (tb 0, 96, .inl (kyP 21)))) hC hM (me_up_s _ _ _) (nx_c 20) (by omega) (by decide) (ky_st (k := 20) (by decide)) dX8_init_124 (fun H locs hM => ?_)
  refine lv_dup hx hb dX8_init_125 rfl ?_
  refine lv_bipush (v := 21) hx hb dX8_init_126 (by decide) ?_
  refine lv_bipush (v := 119) hx hb dX8_init_128 (by decide) ?_
  refine me_iast (k := 21) (M2 := me_up (me_up M0 mo (.inr (8, [.null, .int 0, .null, .null, .null, .int 0, .null, .int 0, .null, .null, .null, .int 0, .null, .int 0, .int 0, .int 0, .int 0, .int 0, .int 0, .int 0, .int 0, .int 0, .int 0]))) (mo + 1) (.inl (tb 0, 96, .inl (kyP 22)))) hC hM (me_up_s _ _ _) (nx_c 21) (by omega) (by decide) (ky_st (k := 21) (by decide)) dX8_init_130 (fun H locs hM => ?_)
  refine lv_dup hx hb dX8_init_131 rfl ?_
  refine lv_bipush (v := 22) hx hb dX8_init_132 (by decide) ?_
  refine lv_bipush (v := 101) hx hb dX8_init_134 (by decide) ?_
  refine me_iast (k := 22) (M2 := me_up (me_up M0 mo (.inr (8, [.null, .int 0, .null, .null, .null, .int 0, .null, .int 0, .null, .null, .null, .int 0, .null, .int 0, .int 0, .int 0, .int 0, .int 0, .int 0, .int 0, .int 0, .int 0, .int 0]))) (mo + 1) (.inl (tb 0, 96, .inl (kyP 23)))) hC hM (me_up_s _ _ _) (nx_c 22) (by omega) (by decide) (ky_st (k := 22) (by decide)) dX8_init_136 (fun H locs hM => ?_)
  refine lv_dup hx hb dX8_init_137 rfl ?_
  refine lv_bipush (v := 23) hx hb dX8_init_138 (by decide) ?_
  refine lv_bipush (v := 114) hx hb dX8_init_140 (by decide) ?_
  refine me_iast (k := 23) (M2 := me_up (me_up M0 mo (.inr (8, [.null, .int 0, .null, .null, .null, .int 0, .null, .int 0, .null, .null, .null, .int 0, .null, .int 0, .int 0, .int 0, .int 0, .int 0, .int 0, .int 0, .int 0, .int 0, .int 0]))) (mo + 1) (.inl (tb 0, 96, .inl (kyP 24)))) hC hM (me_up_s _ _ _) (nx_c 23) (by omega) (by decide) (ky_st (k := 23) (by decide)) dX8_init_142 (fun H locs hM => ?_)
  refine lv_dup hx hb dX8_init_143 rfl ?_
  refine lv_bipush (v := 24) hx hb dX8_init_144 (by decide) ?_
  refine lv_bipush (v := 112) hx hb dX8_init_146 (by decide) ?_
  refine me_iast (k := 24) (M2 := me_up (me_up M0 mo (.inr (8, [.null, .int 0, .null, .null, .null, .int 0, .null, .int 0, .null, .null, .null, .int 0, .null, .int 0, .int 0, .int 0, .int 0, .int 0, .int 0, .int 0, .int 0, .int 0, .int 0]))) (mo + 1) (.inl (tb 0, 96, .inl (kyP 25)))) hC hM (me_up_s _ _ _) (nx_c 24) (by omega) (by decide) (ky_st (k := 24) (by decide)) dX8_init_148 (fun H locs hM => ?_)
  refine lv_dup hx hb dX8_init_149 rfl ?_
  refine lv_bipush (v := 25) hx hb dX8_init_150 (by decide) ?_
  refine lv_bipush (v := 101) hx hb dX8_init_152 (by decide) ?_
  refine me_iast (k := 25) (M2 := me_up (me_up M0 mo (.inr (8, [.null, .int 0, .null, .null, .null, .int 0, .null, .int 0, .null, .null, .null, .int 0, .null, .int 0, .int 0, .int 0, .int 0, .int 0, .int 0, .int 0, .int 0, .int 0, .int 0]))) (mo + 1) (.inl (tb 0, 96, .inl (kyP 26)))) hC hM (me_up_s _ _ _) (nx_c 25) (by omega) (by decide) (ky_st (k := 25) (by decide)) dX8_init_154 (fun H locs hM => ?_)
  refine lv_dup hx hb dX8_init_155 rfl ?_
  refine lv_bipush (v := 26) hx hb dX8_init_156 (by decide) ?_
  refine lv_bipush (v := 114) hx hb dX8_init_158 (by decide) ?_
  refine me_iast (k := 26) (M2 := me_up (me_up M0 mo (.inr (8, [.null, .int 0, .null, .null, .null, .int 0, .null, .int 0, .null, .null, .null, .int 0, .null, .int 0, .int 0, .int 0, .int 0, .int 0, .int 0, .int 0, .int 0, .int 0, .int 0]))) (mo + 1) (.inl (tb 0, 96, .inl (kyP 27)))) hC hM (me_up_s _ _ _) (nx_c 26) (by omega) (by decide) (ky_st (k := 26) (by decide)) dX8_init_160 (fun H locs hM => ?_)
  refine lv_dup hx hb dX8_init_161 rfl ?_
  refine lv_bipush (v := 27) hx hb dX8_init_162 (by decide) ?_
  refine lv_bipush (v := 109) hx hb dX8_init_164 (by decide) ?_
  refine me_iast (k := 27) (M2 := me_up (me_up M0 mo (.inr (8, [.null, .int 0, .null, .null, .null, .int 0, .null, .int 0, .null, .null, .null, .int 0, .null, .int 0, .int 0, .int 0, .int 0, .int 0, .int 0, .int 0, .int 0, .int 0, .int 0]))) (mo + 1) (.inl (tb 0, 96, .inl (kyP 28)))) hC hM (me_up_s _ _ _) (nx_c 27) (by omega) (by decide) (ky_st (k := 27) (by decide)) dX8_init_166 (fun H locs hM => ?_)
  refine lv_dup hx hb dX8_init_167 rfl ?_
  refine lv_bipush (v := 28) hx hb dX8_init_168 (by decide) ?_
  refine lv_bipush (v := 105) hx hb dX8_init_170 (by decide) ?_
  refine me_iast (k := 28) (M2 := me_up (me_up M0 mo (.inr (8, [.null, .int 0, .null, .null, .null, .int 0, .null, .int 0, .null, .null, .null, .int 0, .null, .int 0, .int 0, .int 0, .int 0, .int 0, .int 0, .int 0, .int 0, .int 0, .int 0]))) (mo + 1) (.inl (tb 0, 96, .inl (kyP 29)))) hC hM (me_up_s _ _ _) (nx_c 28) (by omega) (by decide) (ky_st (k := 28) (by decide)) dX8_init_172 (fun H locs hM => ?_)
  refine lv_dup hx hb dX8_init_173 rfl ?_
  refine lv_bipush (v := 29) hx hb dX8_init_174 (by decide) ?_
  refine lv_bipush (v := 116) hx hb dX8_init_176 (by decide) ?_
  refine me_iast (k := 29) (M2 := me_up (me_up M0 mo (.inr (8, [.null, .int 0, .null, .null, .null, .int 0, .null, .int 0, .null, .null, .null, .int 0, .null, .int 0, .int 0, .int 0, .int 0, .int 0, .int 0, .int 0, .int 0, .int 0, .int 0]))) (mo + 1) (.inl (tb 0, 96, .inl (kyP 30)))) hC hM (me_up_s _ _ _) (nx_c 29) (by omega) (by decide) (ky_st (k := 29) (by decide)) dX8_init_178 (fun H locs hM => ?_)
  refine lv_dup hx hb dX8_init_179 rfl ?_
  refine lv_bipush (v := 30) hx hb dX8_init_180 (by decide) ?_
  refine lv_iconst (v := 0) hx hb dX8_init_182 (by decide) ?_
  refine me_iast (k := 30) (M2 := me_up (me_up M0 mo (.inr (8, [.null, .int 0, .null, .null, .null, .int 0, .null, .int 0, .null, .null, .null, .int 0, .null, .int 0, .int 0, .int 0, .int 0, .int 0, .int 0, .int 0, .int 0, .int 0, .int 0]))) (mo + 1) (.inl (tb 0, 96, .inl (kyP 31)))) hC hM (me_up_s _ _ _) (nx_c 30) (by omega) (by decide) (ky_st (k := 30) (by decide)) dX8_init_183 (fun H locs hM => ?_)
  refine lv_dup hx hb dX8_init_184 rfl ?_
  refine lv_bipush (v := 31) hx hb dX8_init_185 (by decide) ?_
  refine lv_iconst (v := 0) hx hb dX8_init_187 (by decide) ?_
  refine me_iast (k := 31) (M2 := me_up (me_up M0 mo (.inr (8, [.null, .int 0, .null, .null, .null, .int 0, .null, .int 0, .null, .null, .null, .int 0, .null, .int 0, .int 0, .int 0, .int 0, .int 0, .int 0, .int 0, .int 0, .int 0, .int 0]))) (mo + 1) (.inl (tb 0, 96, .inl (kyP 32)))) hC hM (me_up_s _ _ _) (nx_c 31) (by omega) (by decide) (ky_st (k := 31) (by decide)) dX8_init_188 (fun H locs hM => ?_)
  refine lv_dup hx hb dX8_init_189 rfl ?_
  refine lv_bipush (v := 32) hx hb dX8_init_190 (by decide) ?_
  refine lv_bipush (v := 108) hx hb dX8_init_192 (by decide) ?_
  refine me_iast (k := 32) (M2 := me_up (me_up M0 mo (.inr (8, [.null, .int 0, .null, .null, .null, .int 0, .null, .int 0, .null, .null, .null, .int 0, .null, .int 0, .int 0, .int 0, .int 0, .int 0, .int 0, .int 0, .int 0, .int 0, .int 0]))) (mo + 1) (.inl (tb 0, 96, .inl (kyP 33)))) hC hM (me_up_s _ _ _) (nx_c 32) (by omega) (by decide) (ky_st (k := 32) (by decide)) dX8_init_194 (fun H locs hM => ?_)
  refine lv_dup hx hb dX8_init_195 rfl ?_
  refine lv_bipush (v := 33) hx hb dX8_init_196 (by decide) ?_
  refine lv_bipush (v := 101) hx hb dX8_init_198 (by decide) ?_
  refine me_iast (k := 33) (M2 := me_up (me_up M0 mo (.inr (8, [.null, .int 0, .null, .null, .null, .int 0, .null, .int 0, .null, .null, .null, .int 0, .null, .int 0, .int 0, .int 0, .int 0, .int 0, .int 0, .int 0, .int 0, .int 0, .int 0]))) (mo + 1) (.inl (tb 0, 96, .inl (kyP 34)))) hC hM (me_up_s _ _ _) (nx_c 33) (by omega) (by decide) (ky_st (k := 33) (by decide)) dX8_init_200 (fun H locs hM => ?_)
  refine lv_dup hx hb dX8_init_201 rfl ?_
  refine lv_bipush (v := 34) hx hb dX8_init_202 (by decide) ?_
  refine lv_bipush (v := 110) hx hb dX8_init_204 (by decide) ?_
  refine me_iast (k := 34) (M2 := me_up (me_up M0 mo (.inr (8, [.null, .int 0, .null, .null, .null, .int 0, .null, .int 0, .null, .null, .null, .int 0, .null, .int 0, .int 0, .int 0, .int 0, .int 0, .int 0, .int 0, .int 0, .int 0, .int 0]))) (mo + 1) (.inl (tb 0, 96, .inl (kyP 35)))) hC hM (me_up_s _ _ _) (nx_c 34) (by omega) (by decide) (ky_st (k := 34) (by decide)) dX8_init_206 (fun H locs hM => ?_)
  refine lv_dup hx hb dX8_init_207 rfl ?_
  refine lv_bipush (v := 35) hx hb dX8_init_208 (by decide) ?_
  refine lv_bipush (v := 100) hx hb dX8_init_210 (by decide) ?_
  refine me_iast (k := 35) (M2 := me_up (me_up M0 mo (.inr (8, [.null, .int 0, .null, .null, .null, .int 0, .null, .int 0, .null, .null, .null, .int 0, .null, .int 0, .int 0, .int 0, .int 0, .int 0, .int 0, .int 0, .int 0, .int 0, .int 0]))) (mo + 1) (.inl (tb 0, 96, .inl (kyP 36)))) hC hM (me_up_s _ _ _) (nx_c 35) (by omega) (by decide) (ky_st (k := 35) (by decide)) dX8_init_212 (fun H locs hM => ?_)
  refine lv_dup hx hb dX8_init_213 rfl ?_
  refine lv_bipush (v := 36) hx hb dX8_init_214 (by decide) ?_
  refine lv_iconst (v := 0) hx hb dX8_init_216 (by decide) ?_
  refine me_iast (k := 36) (M2 := me_up (me_up M0 mo (.inr (8, [.null, .int 0, .null, .null, .null, .int 0, .null, .int 0, .null, .null, .null, .int 0, .null, .int 0, .int 0, .int 0, .int 0, .int 0, .int 0, .int 0, .int 0, .int 0, .int 0]))) (mo + 1) (.inl (tb 0, 96, .inl (kyP 37)))) hC hM (me_up_s _ _ _) (nx_c 36) (by omega) (by decide) (ky_st (k := 36) (by decide)) dX8_init_217 (fun H locs hM => ?_)
  refine lv_dup hx hb dX8_init_218 rfl ?_
  refine lv_bipush (v := 37) hx hb dX8_init_219 (by decide) ?_
  refine lv_iconst (v := 0) hx hb dX8_init_221 (by decide) ?_
  refine me_iast (k := 37) (M2 := me_up (me_up M0 mo (.inr (8, [.null, .int 0, .null, .null, .null, .int 0, .null, .int 0, .null, .null, .null, .int 0, .null, .int 0, .int 0, .int 0, .int 0, .int 0, .int 0, .int 0, .int 0, .int 0, .int 0]))) (mo + 1) (.inl (tb 0, 96, .inl (kyP 38)))) hC hM (me_up_s _ _ _) (nx_c 37) (by omega) (by decide) (ky_st (k := 37) (by decide)) dX8_init_222 (fun H locs hM => ?_)
  refine lv_dup hx hb dX8_init_223 rfl ?_
  refine lv_bipush (v := 38) hx hb dX8_init_224 (by decide) ?_
  refine lv_iconst (v := 0) hx hb dX8_init_226 (by decide) ?_
  refine me_iast (k := 38) (M2 := me_up (me_up M0 mo (.inr (8, [.null, .int 0, .null, .null, .null, .int 0, .null, .int 0, .null, .null, .null, .int 0, .null, .int 0, .int 0, .int 0, .int 0, .int 0, .int 0, .int 0, .int 0, .int 0, .int 0]))) (mo + 1) (.inl (tb 0, 96, .inl (kyP 39)))) hC hM (me_up_s _ _ _) (nx_c 38) (by omega) (by decide) (ky_st (k := 38) (by decide)) dX8_init_227 (fun H locs hM => ?_)
  refine lv_dup hx hb dX8_init_228 rfl ?_
  refine lv_bipush (v := 39) hx hb dX8_init_229 (by decide) ?_
  refine lv_iconst (v := 0) hx hb dX8_init_231 (by decide) ?_
  refine me_iast (k := 39) (M2 := me_up (me_up M0 mo (.inr (8, [.null, .int 0, .null, .null, .null, .int 0, .null, .int 0, .null, .null, .null, .int 0, .null, .int 0, .int 0, .int 0, .int 0, .int 0, .int 0, .int 0, .int 0, .int 0, .int 0]))) (mo + 1) (.inl (tb 0, 96, .inl (kyP 40)))) hC hM (me_up_s _ _ _) (nx_c 39) (by omega) (by decide) (ky_st (k := 39) (by decide)) dX8_init_232 (fun H locs hM => ?_)
  refine lv_dup hx hb dX8_init_233 rfl ?_
  refine lv_bipush (v := 40) hx hb dX8_init_234 (by decide) ?_
  refine lv_bipush (v := 119) hx hb dX8_init_236 (by decide) ?_
  refine me_iast (k := 40) (M2 := me_up (me_up M0 mo (.inr (8, [.null, .int 0, .null, .null, .null, .int 0, .null, .int 0, .null, .null, .null, .int 0, .null, .int 0, .int 0, .int 0, .int 0, .int 0, .int 0, .int 0, .int 0, .int 0, .int 0]))) (mo + 1) (.inl (tb 0, 96, .inl (kyP 41)))) hC hM (me_up_s _ _ _) (nx_c 40) (by omega) (by decide) (ky_st (k := 40) (by decide)) dX8_init_238 (fun H locs hM => ?_)
  refine lv_dup hx hb dX8_init_239 rfl ?_
  refine lv_bipush (v := 41) hx hb dX8_init_240 (by decide) ?_
  refine lv_bipush (v := 104) hx hb dX8_init_242 (by decide) ?_
  refine me_iast (k := 41) (M2 := me_up (me_up M0 mo (.inr (8, [.null, .int 0, .null, .null, .null, .int 0, .null, .int 0, .null, .null, .null, .int 0, .null, .int 0, .int 0, .int 0, .int 0, .int 0, .int 0, .int 0, .int 0, .int 0, .int 0]))) (mo + 1) (.inl (tb 0, 96, .inl (kyP 42)))) hC hM (me_up_s _ _ _) (nx_c 41) (by omega) (by decide) (ky_st (k := 41) (by decide)) dX8_init_244 (fun H locs hM => ?_)
  refine lv_dup hx hb dX8_init_245 rfl ?_
  refine lv_bipush (v := 42) hx hb dX8_init_246 (by decide) ?_
  refine lv_bipush (v := 105) hx hb dX8_init_248 (by decide) ?_
  refine me_iast (k := 42) (M2 := me_up (me_up M0 mo (.inr (8, [.null, .int 0, .null, .null, .null, .int 0, .null, .int 0, .null, .null, .null, .int 0, .null, .int 0, .int 0, .int 0, .int 0, .int 0, .int 0, .int 0, .int 0, .int 0, .int 0]))) (mo + 1) (.inl (tb 0, 96, .inl (kyP 43)))) hC hM (me_up_s _ _ _) (nx_c 42) (by omega) (by decide) (ky_st (k := 42) (by decide)) dX8_init_250 (fun H locs hM => ?_)
  refine lv_dup hx hb dX8_init_251 rfl ?_
  refine lv_bipush (v := 43) hx hb dX8_init_252 (by decide) ?_
  refine lv_bipush (v := 115) hx hb dX8_init_254 (by decide) ?_
  refine me_iast (k := 43) (M2 := me_up (me_up M0 mo (.inr (8, [.null, .int 0, .null, .null, .null, .int 0, .null, .int 0, .null, .null, .null, .int 0, .null, .int 0, .int 0, .int 0, .int 0, .int 0, .int 0, .int 0, .int 0, .int 0, .int 0]))) (mo + 1) (.inl (tb 0, 96, .inl (kyP 44)))) hC hM (me_up_s _ _ _) (nx_c 43) (by omega) (by decide) (ky_st (k := 43) (by decide)) dX8_init_256 (fun H locs hM => ?_)
  refine lv_dup hx hb dX8_init_257 rfl ?_
  refine lv_bipush (v := 44) hx hb dX8_init_258 (by decide) ?_
  refine lv_bipush (v := 116) hx hb dX8_init_260 (by decide) ?_
  refine me_iast (k := 44) (M2 := me_up (me_up M0 mo (.inr (8, [.null, .int 0, .null, .null, .null, .int 0, .null, .int 0, .null, .null, .null, .int 0, .null, .int 0, .int 0, .int 0, .int 0, .int 0, .int 0, .int 0, .int 0, .int 0, .int 0]))) (mo + 1) (.inl (tb 0, 96, .inl (kyP 45)))) hC hM (me_up_s _ _ _) (nx_c 44) (by omega) (by decide) (ky_st (k := 44) (by decide)) dX8_init_262 (fun H locs hM => ?_)
  refine lv_dup hx hb dX8_init_263 rfl ?_
  refine lv_bipush (v := 45) hx hb dX8_init_264 (by decide) ?_
  refine lv_bipush (v := 108) hx hb dX8_init_266 (by decide) ?_
  refine me_iast (k := 45) (M2 := me_up (me_up M0 mo (.inr (8, [.null, .int 0, .null, .null, .null, .int 0, .null, .int 0, .null, .null, .null, .int 0, .null, .int 0, .int 0, .int 0, .int 0, .int 0, .int 0, .int 0, .int 0, .int 0, .int 0]))) (mo + 1) (.inl (tb 0, 96, .inl (kyP 46)))) hC hM (me_up_s _ _ _) (nx_c 45) (by omega) (by decide) (ky_st (k := 45) (by decide)) dX8_init_268 (fun H locs hM => ?_)
  refine lv_dup hx hb dX8_init_269 rfl ?_
  refine lv_bipush (v := 46) hx hb dX8_init_270 (by decide) ?_
  refine lv_bipush (v := 101) hx hb dX8_init_272 (by decide) ?_
  refine me_iast (k := 46) (M2 := me_up (me_up M0 mo (.inr (8, [.null, .int 0, .null, .null, .null, .int 0, .null, .int 0, .null, .null, .null, .int 0, .null, .int 0, .int 0, .int 0, .int 0, .int 0, .int 0, .int 0, .int 0, .int 0, .int 0]))) (mo + 1) (.inl (tb 0, 96, .inl (kyP 47)))) hC hM (me_up_s _ _ _) (nx_c 46) (by omega) (by decide) (ky_st (k := 46) (by decide)) dX8_init_274 (fun H locs hM => ?_)
  refine lv_dup hx hb dX8_init_275 rfl ?_
  refine lv_bipush (v := 47) hx hb dX8_init_276 (by decide) ?_
  refine lv_iconst (v := 0) hx hb dX8_init_278 (by decide) ?_
  refine me_iast (k := 47) (M2 := me_up (me_up M0 mo (.inr (8, [.null, .int 0, .null, .null, .null, .int 0, .null, .int 0, .null, .null, .null, .int 0, .null, .int 0, .int 0, .int 0, .int 0, .int 0, .int 0, .int 0, .int 0, .int 0, .int 0]))) (mo + 1) (.inl (tb 0, 96, .inl (kyP 48)))) hC hM (me_up_s _ _ _) (nx_c 47) (by omega) (by decide) (ky_st (k := 47) (by decide)) dX8_init_279 (fun H locs hM => ?_)
  refine lv_dup hx hb dX8_init_280 rfl ?_
  refine lv_bipush (v := 48) hx hb dX8_init_281 (by decide) ?_
  refine lv_bipush (v := 104) hx hb dX8_init_283 (by decide) ?_
  refine me_iast (k := 48) (M2 := me_up (me_up M0 mo (.inr (8, [.null, .int 0, .null, .null, .null, .int 0, .null, .int 0, .null, .null, .null, .int 0, .null, .int 0, .int 0, .int 0, .int 0, .int 0, .int 0, .int 0, .int 0, .int 0, .int 0]))) (mo + 1) (.inl (tb 0, 96, .inl (kyP 49)))) hC hM (me_up_s _ _ _) (nx_c 48) (by omega) (by decide) (ky_st (k := 48) (by decide)) dX8_init_285 (fun H locs hM => ?_)
  refine lv_dup hx hb dX8_init_286 rfl ?_
  refine lv_bipush (v := 49) hx hb dX8_init_287 (by decide) ?_
  refine lv_bipush (v := 111) hx hb dX8_init_289 (by decide) ?_
  refine me_iast (k := 49) (M2 := me_up (me_up M0 mo (.inr (8, [.null, .int 0, .null, .null, .null, .int 0, .null, .int 0, .null, .null, .null, .int 0, .null, .int 0, .int 0, .int 0, .int 0, .int 0, .int 0, .int 0, .int 0, .int 0, .int 0]))) (mo + 1) (.inl (tb 0, 96, .inl (kyP 50)))) hC hM (me_up_s _ _ _) (nx_c 49) (by omega) (by decide) (ky_st (k := 49) (by decide)) dX8_init_291 (fun H locs hM => ?_)
  refine lv_dup hx hb dX8_init_292 rfl ?_
  refine lv_bipush (v := 50) hx hb dX8_init_293 (by decide) ?_
  refine lv_bipush (v := 117) hx hb dX8_init_295 (by decide) ?_
  refine me_iast (k := 50) (M2 := me_up (me_up M0 mo (.inr (8, [.null, .int 0, .null, .null, .null, .int 0, .null, .int 0, .null, .null, .null, .int 0, .null, .int 0, .int 0, .int 0, .int 0, .int 0, .int 0, .int 0, .int 0, .int 0, .int 0]))) (mo + 1) (.inl (tb 0, 96, .inl (kyP 51)))) hC hM (me_up_s _ _ _) (nx_c 50) (by omega) (by decide) (ky_st (k := 50) (by decide)) dX8_init_297 (fun H locs hM => ?_)
  refine lv_dup hx hb dX8_init_298 rfl ?_
  refine lv_bipush (v := 51) hx hb dX8_init_299 (by decide) ?_
  refine lv_bipush (v := 114) hx hb dX8_init_301 (by decide) ?_
  refine me_iast (k := 51) (M2 := me_up (me_up M0 mo (.inr (8, [.null, .int 0, .null, .null, .null, .int 0, .null, .int 0, .null, .null, .null, .int 0, .null, .int 0, .int 0, .int 0, .int 0, .int 0, .int 0, .int 0, .int 0, .int 0, .int 0]))) (mo + 1) (.inl (tb 0, 96, .inl (kyP 52)))) hC hM (me_up_s _ _ _) (nx_c 51) (by omega) (by decide) (ky_st (k := 51) (by decide)) dX8_init_303 (fun H locs hM => ?_)
  refine lv_dup hx hb dX8_init_304 rfl ?_
  refine lv_bipush (v := 52) hx hb dX8_init_305 (by decide) ?_
  refine lv_bipush (v := 115) hx hb dX8_init_307 (by decide) ?_
  refine me_iast (k := 52) (M2 := me_up (me_up M0 mo (.inr (8, [.null, .int 0, .null, .null, .null, .int 0, .null, .int 0, .null, .null, .null, .int 0, .null, .int 0, .int 0, .int 0, .int 0, .int 0, .int 0, .int 0, .int 0, .int 0, .int 0]))) (mo + 1) (.inl (tb 0, 96, .inl (kyP 53)))) hC hM (me_up_s _ _ _) (nx_c 52) (by omega) (by decide) (ky_st (k := 52) (by decide)) dX8_init_309 (fun H locs hM => ?_)
  refine lv_dup hx hb dX8_init_310 rfl ?_
  refine lv_bipush (v := 53) hx hb dX8_init_311 (by decide) ?_
  refine lv_iconst (v := 0) hx hb dX8_init_313 (by decide) ?_
  refine me_iast (k := 53) (M2 := me_up (me_up M0 mo (.inr (8, [.null, .int 0, .null, .null, .null, .int 0, .null, .int 0, .null, .null, .null, .int 0, .null, .int 0, .int 0, .int 0, .int 0, .int 0, .int 0, .int 0, .int 0, .int 0, .int 0]))) (mo + 1) (.inl (tb 0, 96, .inl (kyP 54)))) hC hM (me_up_s _ _ _) (nx_c 53) (by omega) (by decide) (ky_st (k := 53) (by decide)) dX8_init_314 (fun H locs hM => ?_)
  refine lv_dup hx hb dX8_init_315 rfl ?_
  refine lv_bipush (v := 54) hx hb dX8_init_316 (by decide) ?_
  refine lv_iconst (v := 0) hx hb dX8_init_318 (by decide) ?_
  refine me_iast (k := 54) (M2 := me_up (me_up M0 mo (.inr (8, [.null, .int 0, .null, .null, .null, .int 0, .null, .int 0, .null, .null, .null, .int 0, .null, .int 0, .int 0, .int 0, .int 0, .int 0, .int 0, .int 0, .int 0, .int 0, .int 0]))) (mo + 1) (.inl (tb 0, 96, .inl (kyP 55)))) hC hM (me_up_s _ _ _) (nx_c 54) (by omega) (by decide) (ky_st (k := 54) (by decide)) dX8_init_319 (fun H locs hM => ?_)
  refine lv_dup hx hb dX8_init_320 rfl ?_
  refine lv_bipush (v := 55) hx hb dX8_init_321 (by decide) ?_
  refine lv_iconst (v := 0) hx hb dX8_init_323 (by decide) ?_
  refine me_iast (k := 55) (M2 := me_up (me_up M0 mo (.inr (8, [.null, .int 0, .null, .null, .null, .int 0, .null, .int 0, .null, .null, .null, .int 0, .null, .int 0, .int 0, .int 0, .int 0, .int 0, .int 0, .int 0, .int 0, .int 0, .int 0]))) (mo + 1) (.inl (tb 0, 96, .inl (kyP 56)))) hC hM (me_up_s _ _ _) (nx_c 55) (by omega) (by decide) (ky_st (k := 55) (by decide)) dX8_init_324 (fun H locs hM => ?_)
  refine lv_dup hx hb dX8_init_325 rfl ?_
  refine lv_bipush (v := 56) hx hb dX8_init_326 (by decide) ?_
  refine lv_bipush (v := 101) hx hb dX8_init_328 (by decide) ?_
  refine me_iast (k := 56) (M2 := me_up (me_up M0 mo (.inr (8, [.null, .int 0, .null, .null, .null, .int 0, .null, .int 0, .null, .null, .null, .int 0, .null, .int 0, .int 0, .int 0, .int 0, .int 0, .int 0, .int 0, .int 0, .int 0, .int 0]))) (mo + 1) (.inl (tb 0, 96, .inl (kyP 57)))) hC hM (me_up_s _ _ _) (nx_c 56) (by omega) (by decide) (ky_st (k := 56) (by decide)) dX8_init_330 (fun H locs hM => ?_)
  refine lv_dup hx hb dX8_init_331 rfl ?_
  refine lv_bipush (v := 57) hx hb dX8_init_332 (by decide) ?_
  refine lv_bipush (v := 108) hx hb dX8_init_334 (by decide) ?_
  refine me_iast (k := 57) (M2 := me_up (me_up M0 mo (.inr (8, [.null, .int 0, .null, .null, .null, .int 0, .null, .int 0, .null, .null, .null, .int 0, .null, .int 0, .int 0, .int 0, .int 0, .int 0, .int 0, .int 0, .int 0, .int 0, .int 0]))) (mo + 1) (.inl (tb 0, 96, .inl (kyP 58)))) hC hM (me_up_s _ _ _) (nx_c 57) (by omega) (by decide) (ky_st (k := 57) (by decide)) dX8_init_336 (fun H locs hM => ?_)
  refine lv_dup hx hb dX8_init_337 rfl ?_
  refine lv_bipush (v := 58) hx hb dX8_init_338 (by decide) ?_
  refine lv_bipush (v := 109) hx hb dX8_init_340 (by decide) ?_
  refine me_iast (k := 58) (M2 := me_up (me_up M0 mo (.inr (8, [.null, .int 0, .null, .null, .null, .int 0, .null, .int 0, .null, .null, .null, .int 0, .null, .int 0, .int 0, .int 0, .int 0, .int 0, .int 0, .int 0, .int 0, .int 0, .int 0]))) (mo + 1) (.inl (tb 0, 96, .inl (kyP 59)))) hC hM (me_up_s _ _ _) (nx_c 58) (by omega) (by decide) (ky_st (k := 58) (by decide)) dX8_init_342 (fun H locs hM => ?_)
  refine lv_dup hx hb dX8_init_343 rfl ?_
  refine lv_bipush (v := 59) hx hb dX8_init_344 (by decide) ?_
  refine lv_iconst (v := 0) hx hb dX8_init_346 (by decide) ?_
  refine me_iast (k := 59) (M2 := me_up (me_up M0 mo (.inr (8, [.null, .int 0, .null, .null, .null, .int 0, .null, .int 0, .null, .null, .null, .int 0, .null, .int 0, .int 0, .int 0, .int 0, .int 0, .int 0, .int 0, .int 0, .int 0, .int 0]))) (mo + 1) (.inl (tb 0, 96, .inl (kyP 60)))) hC hM (me_up_s _ _ _) (nx_c 59) (by omega) (by decide) (ky_st (k := 59) (by decide)) dX8_init_347 (fun H locs hM => ?_)
  refine lv_dup hx hb dX8_init_348 rfl ?_
  refine lv_bipush (v := 60) hx hb dX8_init_349 (by decide) ?_
  refine lv_iconst (v := 0) hx hb dX8_init_351 (by decide) ?_
  refine me_iast (k := 60) (M2 := me_up (me_up M0 mo (.inr (8, [.null, .int 0, .null, .null, .null, .int 0, .null, .int 0, .null, .null, .null, .int 0, .null, .int 0, .int 0, .int 0, .int 0, .int 0, .int 0, .int 0, .int 0, .int 0, .int 0]))) (mo + 1) (.inl (tb 0, 96, .inl (kyP 61)))) hC hM (me_up_s _ _ _) (nx_c 60) (by omega) (by decide) (ky_st (k := 60) (by decide)) dX8_init_352 (fun H locs hM => ?_)
  refine lv_dup hx hb dX8_init_353 rfl ?_
  refine lv_bipush (v := 61) hx hb dX8_init_354 (by decide) ?_
  refine lv_iconst (v := 0) hx hb dX8_init_356 (by decide) ?_
  refine me_iast (k := 61) (M2 := me_up (me_up M0 mo (.inr (8, [.null, .int 0, .null, .null, .null, .int 0, .null, .int 0, .null, .null, .null, .int 0, .null, .int 0, .int 0, .int 0, .int 0, .int 0, .int 0, .int 0, .int 0, .int 0, .int 0]))) (mo + 1) (.inl (tb 0, 96, .inl (kyP 62)))) hC hM (me_up_s _ _ _) (nx_c 61) (by omega) (by decide) (ky_st (k := 61) (by decide)) dX8_init_357 (fun H locs hM => ?_)
  refine lv_dup hx hb dX8_init_358 rfl ?_
  refine lv_bipush (v := 62) hx hb dX8_init_359 (by decide) ?_
  refine lv_iconst (v := 0) hx hb dX8_init_361 (by decide) ?_
  refine me_iast (k := 62) (M2 := me_up (me_up M0 mo (.inr (8, [.null, .int 0, .null, .null, .null, .int 0, .null, .int 0, .null, .null, .null, .int 0, .null, .int 0, .int 0, .int 0, .int 0, .int 0, .int 0, .int 0, .int 0, .int 0, .int 0]))) (mo + 1) (.inl (tb 0, 96, .inl (kyP 63)))) hC hM (me_up_s _ _ _) (nx_c 62) (by omega) (by decide) (ky_st (k := 62) (by decide)) dX8_init_362 (fun H locs hM => ?_)
  refine lv_dup hx hb dX8_init_363 rfl ?_
  refine lv_bipush (v := 63) hx hb dX8_init_364 (by decide) ?_
  refine lv_iconst (v := 0) hx hb dX8_init_366 (by decide) ?_
  refine me_iast (k := 63) (M2 := me_up (me_up M0 mo (.inr (8, [.null, .int 0, .null, .null, .null, .int 0, .null, .int 0, .null, .null, .null, .int 0, .null, .int 0, .int 0, .int 0, .int 0, .int 0, .int 0, .int 0, .int 0, .int 0, .int 0]))) (mo + 1) (.inl (tb 0, 96, .inl (kyP 64)))) hC hM (me_up_s _ _ _) (nx_c 63) (by omega) (by decide) (ky_st (k := 63) (by decide)) dX8_init_367 (fun H locs hM => ?_)
  refine lv_dup hx hb dX8_init_368 rfl ?_
  refine lv_bipush (v := 64) hx hb dX8_init_369 (by decide) ?_
  refine lv_bipush (v := 111) hx hb dX8_init_371 (by decide) ?_
  refine me_iast (k := 64) (M2 := me_up (me_up M0 mo (.inr (8, [.null, .int 0, .null, .null, .null, .int 0, .null, .int 0, .null, .null, .null, .int 0, .null, .int 0, .int 0, .int 0, .int 0, .int 0, .int 0, .int 0, .int 0, .int 0, .int 0]))) (mo + 1) (.inl (tb 0, 96, .inl (kyP 65)))) hC hM (me_up_s _ _ _) (nx_c 64) (by omega) (by decide) (ky_st (k := 64) (by decide)) dX8_init_373 (fun H locs hM => ?_)
  refine lv_dup hx hb dX8_init_374 rfl ?_
  refine lv_bipush (v := 65) hx hb dX8_init_375 (by decide) ?_
  refine lv_bipush (v := 97) hx hb dX8_init_377 (by decide) ?_
  refine me_iast (k := 65) (M2 := me_up (me_up M0 mo (.inr (8, [.null, .int 0, .null, .null, .null, .int 0, .null, .int 0, .null, .null, .null, .int 0, .null, .int 0, .int 0, .int 0, .int 0, .int 0, .int 0, .int 0, .int 0, .int 0, .int 0]))) (mo + 1) (.inl (tb 0, 96, .inl (kyP 66)))) hC hM (me_up_s _ _ _) (nx_c 65) (by omega) (by decide) (ky_st (k := 65) (by decide)) dX8_init_379 (fun H locs hM => ?_)
  refine lv_dup hx hb dX8_init_380 rfl ?_
  refine lv_bipush (v := 66) hx hb dX8_init_381 (by decide) ?_
  refine lv_bipush (v := 107) hx hb dX8_init_383 (by decide) ?_
  refine me_iast (k := 66) (M2 := me_up (me_up M0 mo (.inr (8, [.null, .int 0, .null, .null, .null, .int 0, .null, .int 0, .null, .null, .null, .int 0, .null, .int 0, .int 0, .int 0, .int 0, .int 0, .int 0, .int 0, .int 0, .int 0, .int 0]))) (mo + 1) (.inl (tb 0, 96, .inl (kyP 67)))) hC hM (me_up_s _ _ _) (nx_c 66) (by omega) (by decide) (ky_st (k := 66) (by decide)) dX8_init_385 (fun H locs hM => ?_)
  refine lv_dup hx hb dX8_init_386 rfl ?_
  refine lv_bipush (v := 67) hx hb dX8_init_387 (by decide) ?_
  refine lv_iconst (v := 0) hx hb dX8_init_389 (by decide) ?_
  refine me_iast (k := 67) (M2 := me_up (me_up M0 mo (.inr (8, [.null, .int 0, .null, .null, .null, .int 0, .null, .int 0, .null, .null, .null, .int 0, .null, .int 0, .int 0, .int 0, .int 0, .int 0, .int 0, .int 0, .int 0, .int 0, .int 0]))) (mo + 1) (.inl (tb 0, 96, .inl (kyP 68)))) hC hM (me_up_s _ _ _) (nx_c 67) (by omega) (by decide) (ky_st (k := 67) (by decide)) dX8_init_390 (fun H locs hM => ?_)
  refine lv_dup hx hb dX8_init_391 rfl ?_
  refine lv_bipush (v := 68) hx hb dX8_init_392 (by decide) ?_
  refine lv_iconst (v := 0) hx hb dX8_init_394 (by decide) ?_
  refine me_iast (k := 68) (M2 := me_up (me_up M0 mo (.inr (8, [.null, .int 0, .null, .null, .null, .int 0, .null, .int 0, .null, .null, .null, .int 0, .null, .int 0, .int 0, .int 0, .int 0, .int 0, .int 0, .int 0, .int 0, .int 0, .int 0]))) (mo + 1) (.inl (tb 0, 96, .inl (kyP 69)))) hC hM (me_up_s _ _ _) (nx_c 68) (by omega) (by decide) (ky_st (k := 68) (by decide)) dX8_init_395 (fun H locs hM => ?_)
  refine lv_dup hx hb dX8_init_396 rfl ?_
  refine lv_bipush (v := 69) hx hb dX8_init_397 (by decide) ?_
  refine lv_iconst (v := 0) hx hb dX8_init_399 (by decide) ?_
  refine me_iast (k := 69) (M2 := me_up (me_up M0 mo (.inr (8, [.null, .int 0, .null, .null, .null, .int 0, .null, .int 0, .null, .null, .null, .int 0, .null, .int 0, .int 0, .int 0, .int 0, .int 0, .int 0, .int 0, .int 0, .int 0, .int 0]))) (mo + 1) (.inl (tb 0, 96, .inl (kyP 70)))) hC hM (me_up_s _ _ _) (nx_c 69) (by omega) (by decide) (ky_st (k := 69) (by decide)) dX8_init_400 (fun H locs hM => ?_)
  refine lv_dup hx hb dX8_init_401 rfl ?_
  refine lv_bipush (v := 70) hx hb dX8_init_402 (by decide) ?_
  refine lv_iconst (v := 0) hx hb dX8_init_404 (by decide) ?_
  refine me_iast (k := 70) (M2 := me_up (me_up M0 mo (.inr (8, [.null, .int 0, .null, .null, .null, .int 0, .null, .int 0, .null, .null, .null, .int 0, .null, .int 0, .int 0, .int 0, .int 0, .int 0, .int 0, .int 0, .int 0, .int 0, .int 0]))) (mo + 1) (.inl (tb 0, 96, .inl (kyP 71)))) hC hM (me_up_s _ _ _) (nx_c 70) (by omega) (by decide) (ky_st (k := 70) (by decide)) dX8_init_405 (fun H locs hM => ?_)
  refine lv_dup hx hb dX8_init_406 rfl ?_
  refine lv_bipush (v := 71) hx hb dX8_init_407 (by decide) ?_
  refine lv_iconst (v := 0) hx hb dX8_init_409 (by decide) ?_
  refine me_iast (k := 71) (M2 := me_up (me_up M0 mo (.inr (8, [.null, .int 0, .null, .null, .null, .int 0, .null, .int 0, .null, .null, .null, .int 0, .null, .int 0, .int 0, .int 0, .int 0, .int 0, .int 0, .int 0, .int 0, .int 0, .int 0]))) (mo + 1) (.inl (tb 0, 96, .inl (kyP 72)))) hC hM (me_up_s _ _ _) (nx_c 71) (by omega) (by decide) (ky_st (k := 71) (by decide)) dX8_init_410 (fun H locs hM => ?_)
  refine lv_dup hx hb dX8_init_411 rfl ?_
  refine lv_bipush (v := 72) hx hb dX8_init_412 (by decide) ?_
  refine lv_bipush (v := 97) hx hb dX8_init_414 (by decide) ?_
  refine me_iast (k := 72) (M2 := me_up (me_up M0 mo (.inr (8, [.null, .int 0, .null, .null, .null, .int 0, .null, .int 0, .null, .null, .null, .int 0, .null, .int 0, .int 0, .int 0, .int 0, .int 0, .int 0, .int 0, .int 0, .int 0, .int 0]))) (mo + 1) (.inl (tb 0, 96, .inl (kyP 73)))) hC hM (me_up_s _ _ _) (nx_c 72) (by omega) (by decide) (ky_st (k := 72) (by decide)) dX8_init_416 (fun H locs hM => ?_)
  refine lv_dup hx hb dX8_init_417 rfl ?_
  refine lv_bipush (v := 73) hx hb dX8_init_418 (by decide) ?_
  refine lv_bipush (v := 110) hx hb dX8_init_420 (by decide) ?_
  refine me_iast (k := 73) (M2 := me_up (me_up M0 mo (.inr (8, [.null, .int 0, .null, .null, .null, .int 0, .null, .int 0, .null, .null, .null, .int 0, .null, .int 0, .int 0, .int 0, .int 0, .int 0, .int 0, .int 0, .int 0, .int 0, .int 0]))) (mo + 1) (.inl (tb 0, 96, .inl (kyP 74)))) hC hM (me_up_s _ _ _) (nx_c 73) (by omega) (by decide) (ky_st (k := 73) (by decide)) dX8_init_422 (fun H locs hM => ?_)
  refine lv_dup hx hb dX8_init_423 rfl ?_
  refine lv_bipush (v := 74) hx hb dX8_init_424 (by decide) ?_
  refine lv_bipush (v := 110) hx hb dX8_init_426 (by decide) ?_
  refine me_iast (k := 74) (M2 := me_up (me_up M0 mo (.inr (8, [.null, .int 0, .null, .null, .null, .int 0, .null, .int 0, .null, .null, .null, .int 0, .null, .int 0, .int 0, .int 0, .int 0, .int 0, .int 0, .int 0, .int 0, .int 0, .int 0]))) (mo + 1) (.inl (tb 0, 96, .inl (kyP 75)))) hC hM (me_up_s _ _ _) (nx_c 74) (by omega) (by decide) (ky_st (k := 74) (by decide)) dX8_init_428 (fun H locs hM => ?_)
  refine lv_dup hx hb dX8_init_429 rfl ?_
  refine lv_bipush (v := 75) hx hb dX8_init_430 (by decide) ?_
  refine lv_iconst (v := 0) hx hb dX8_init_432 (by decide) ?_
  refine me_iast (k := 75) (M2 := me_up (me_up M0 mo (.inr (8, [.null, .int 0, .null, .null, .null, .int 0, .null, .int 0, .null, .null, .null, .int 0, .null, .int 0, .int 0, .int 0, .int 0, .int 0, .int 0, .int 0, .int 0, .int 0, .int 0]))) (mo + 1) (.inl (tb 0, 96, .inl (kyP 76)))) hC hM (me_up_s _ _ _) (nx_c 75) (by omega) (by decide) (ky_st (k := 75) (by decide)) dX8_init_433 (fun H locs hM => ?_)
  refine lv_dup hx hb dX8_init_434 rfl ?_
  refine lv_bipush (v := 76) hx hb dX8_init_435 (by decide) ?_
  refine lv_iconst (v := 0) hx hb dX8_init_437 (by decide) ?_
  refine me_iast (k := 76) (M2 := me_up (me_up M0 mo (.inr (8, [.null, .int 0, .null, .null, .null, .int 0, .null, .int 0, .null, .null, .null, .int 0, .null, .int 0, .int 0, .int 0, .int 0, .int 0, .int 0, .int 0, .int 0, .int 0, .int 0]))) (mo + 1) (.inl (tb 0, 96, .inl (kyP 77)))) hC hM (me_up_s _ _ _) (nx_c 76) (by omega) (by decide) (ky_st (k := 76) (by decide)) dX8_init_438 (fun H locs hM => ?_)
  refine lv_dup hx hb dX8_init_439 rfl ?_
  refine lv_bipush (v := 77) hx hb dX8_init_440 (by decide) ?_
  refine lv_iconst (v := 0) hx hb dX8_init_442 (by decide) ?_
  refine me_iast (k := 77) (M2 := me_up (me_up M0 mo (.inr (8, [.null, .int 0, .null, .null, .null, .int 0, .null, .int 0, .null, .null, .null, .int 0, .null, .int 0, .int 0, .int 0, .int 0, .int 0, .int 0, .int 0, .int 0, .int 0, .int 0]))) (mo + 1) (.inl (tb 0, 96, .inl (kyP 78)))) hC hM (me_up_s _ _ _) (nx_c 77) (by omega) (by decide) (ky_st (k := 77) (by decide)) dX8_init_443 (fun H locs hM => ?_)
  refine lv_dup hx hb dX8_init_444 rfl ?_
  refine lv_bipush (v := 78) hx hb dX8_init_445 (by decide) ?_
  refine lv_iconst (v := 0) hx hb dX8_init_447 (by decide) ?_
  refine me_iast (k := 78) (M2 := me_up (me_up M0 mo (.inr (8, [.null, .int 0, .null, .null, .null, .int 0, .null, .int 0, .null, .null, .null, .int 0, .null, .int 0, .int 0, .int 0, .int 0, .int 0, .int 0, .int 0, .int 0, .int 0, .int 0]))) (mo + 1) (.inl (tb 0, 96, .inl (kyP 79)))) hC hM (me_up_s _ _ _) (nx_c 78) (by omega) (by decide) (ky_st (k := 78) (by decide)) dX8_init_448 (fun H locs hM => ?_)
  refine lv_dup hx hb dX8_init_449 rfl ?_
  refine lv_bipush (v := 79) hx hb dX8_init_450 (by decide) ?_
  refine lv_iconst (v := 0) hx hb dX8_init_452 (by decide) ?_
  refine me_iast (k := 79) (M2 := me_up (me_up M0 mo (.inr (8, [.null, .int 0, .null, .null, .null, .int 0, .null, .int 0, .null, .null, .null, .int 0, .null, .int 0, .int 0, .int 0, .int 0, .int 0, .int 0, .int 0, .int 0, .int 0, .int 0]))) (mo + 1) (.inl (tb 0, 96, .inl (kyP 80)))) hC hM (me_up_s _ _ _) (nx_c 79) (by omega) (by decide) (ky_st (k := 79) (by decide)) dX8_init_453 (fun H locs hM => ?_)
  refine lv_dup hx hb dX8_init_454 rfl ?_
  refine lv_bipush (v := 80) hx hb dX8_init_455 (by decide) ?_
  refine lv_bipush (v := 98) hx hb dX8_init_457 (by decide) ?_
  refine me_iast (k := 80) (M2 := me_up (me_up M0 mo (.inr (8, [.null, .int 0, .null, .null, .null, .int 0, .null, .int 0, .null, .null, .null, .int 0, .null, .int 0, .int 0, .int 0, .int 0, .int 0, .int 0, .int 0, .int 0, .int 0, .int 0]))) (mo + 1) (.inl (tb 0, 96, .inl (kyP 81)))) hC hM (me_up_s _ _ _) (nx_c 80) (by omega) (by decide) (ky_st (k := 80) (by decide)) dX8_init_459 (fun H locs hM => ?_)
  refine lv_dup hx hb dX8_init_460 rfl ?_
  refine lv_bipush (v := 81) hx hb dX8_init_461 (by decide) ?_
  refine lv_bipush (v := 111) hx hb dX8_init_463 (by decide) ?_
  refine me_iast (k := 81) (M2 := me_up (me_up M0 mo (.inr (8, [.null, .int 0, .null, .null, .null, .int 0, .null, .int 0, .null, .null, .null, .int 0, .null, .int 0, .int 0, .int 0, .int 0, .int 0, .int 0, .int 0, .int 0, .int 0, .int 0]))) (mo + 1) (.inl (tb 0, 96, .inl (kyP 82)))) hC hM (me_up_s _ _ _) (nx_c 81) (by omega) (by decide) (ky_st (k := 81) (by decide)) dX8_init_465 (fun H locs hM => ?_)
  refine lv_dup hx hb dX8_init_466 rfl ?_
  refine lv_bipush (v := 82) hx hb dX8_init_467 (by decide) ?_
  refine lv_bipush (v := 98) hx hb dX8_init_469 (by decide) ?_
  refine me_iast (k := 82) (M2 := me_up (me_up M0 mo (.inr (8, [.null, .int 0, .null, .null, .null, .int 0, .null, .int 0, .null, .null, .null, .int 0, .null, .int 0, .int 0, .int 0, .int 0, .int 0, .int 0, .int 0, .int 0, .int 0, .int 0]))) (mo + 1) (.inl (tb 0, 96, .inl (kyP 83)))) hC hM (me_up_s _ _ _) (nx_c 82) (by omega) (by decide) (ky_st (k := 82) (by decide)) dX8_init_471 (fun H locs hM => ?_)
  refine lv_dup hx hb dX8_init_472 rfl ?_
  refine lv_bipush (v := 83) hx hb dX8_init_473 (by decide) ?_
  refine lv_iconst (v := 0) hx hb dX8_init_475 (by decide) ?_
  refine me_iast (k := 83) (M2 := me_up (me_up M0 mo (.inr (8, [.null, .int 0, .null, .null, .null, .int 0, .null, .int 0, .null, .null, .null, .int 0, .null, .int 0, .int 0, .int 0, .int 0, .int 0, .int 0, .int 0, .int 0, .int 0, .int 0]))) (mo + 1) (.inl (tb 0, 96, .inl (kyP 84)))) hC hM (me_up_s _ _ _) (nx_c 83) (by omega) (by decide) (ky_st (k := 83) (by decide)) dX8_init_476 (fun H locs hM => ?_)
  refine lv_dup hx hb dX8_init_477 rfl ?_
  refine lv_bipush (v := 84) hx hb dX8_init_478 (by decide) ?_
  refine lv_iconst (v := 0) hx hb dX8_init_480 (by decide) ?_
  refine me_iast (k := 84) (M2 := me_up (me_up M0 mo (.inr (8, [.null, .int 0, .null, .null, .null, .int 0, .null, .int 0, .null, .null, .null, .int 0, .null, .int 0, .int 0, .int 0, .int 0, .int 0, .int 0, .int 0, .int 0, .int 0, .int 0]))) (mo + 1) (.inl (tb 0, 96, .inl (kyP 85)))) hC hM (me_up_s _ _ _) (nx_c 84) (by omega) (by decide) (ky_st (k := 84) (by decide)) dX8_init_481 (fun H locs hM => ?_)
  refine lv_dup hx hb dX8_init_482 rfl ?_
  refine lv_bipush (v := 85) hx hb dX8_init_483 (by decide) ?_
  refine lv_iconst (v := 0) hx hb dX8_init_485 (by decide) ?_
  refine me_iast (k := 85) (M2 := me_up (me_up M0 mo (.inr (8, [.null, .int 0, .null, .null, .null, .int 0, .null, .int 0, .null, .null, .null, .int 0, .null, .int 0, .int 0, .int 0, .int 0, .int 0, .int 0, .int 0, .int 0, .int 0, .int 0]))) (mo + 1) (.inl (tb 0, 96, .inl (kyP 86)))) hC hM (me_up_s _ _ _) (nx_c 85) (by omega) (by decide) (ky_st (k := 85) (by decide)) dX8_init_486 (fun H locs hM => ?_)
  refine lv_dup hx hb dX8_init_487 rfl ?_
  refine lv_bipush (v := 86) hx hb dX8_init_488 (by decide) ?_
  refine lv_iconst (v := 0) hx hb dX8_init_490 (by decide) ?_
  refine me_iast (k := 86) (M2 := me_up (me_up M0 mo (.inr (8, [.null, .int 0, .null, .null, .null, .int 0, .null, .int 0, .null, .null, .null, .int 0, .null, .int 0, .int 0, .int 0, .int 0, .int 0, .int 0, .int 0, .int 0, .int 0, .int 0]))) (mo + 1) (.inl (tb 0, 96, .inl (kyP 87)))) hC hM (me_up_s _ _ _) (nx_c 86) (by omega) (by decide) (ky_st (k := 86) (by decide)) dX8_init_491 (fun H locs hM => ?_)
  refine lv_dup hx hb dX8_init_492 rfl ?_
  refine lv_bipush (v := 87) hx hb dX8_init_493 (by decide) ?_
  refine lv_iconst (v := 0) hx hb dX8_init_495 (by decide) ?_
  refine me_iast (k := 87) (M2 := me_up (me_up M0 mo (.inr (8, [.null, .int 0, .null, .null, .null, .int 0, .null, .int 0, .null, .null, .null, .int 0, .null, .int 0, .int 0, .int 0, .int 0, .int 0, .int 0, .int 0, .int 0, .int 0, .int 0]))) (mo + 1) (.inl (tb 0, 96, .inl (kyP 88)))) hC hM (me_up_s _ _ _) (nx_c 87) (by omega) (by decide) (ky_st (k := 87) (by decide)) dX8_init_496 (fun H locs hM => ?_)
  refine lv_dup hx hb dX8_init_497 rfl ?_
  refine lv_bipush (v := 88) hx hb dX8_init_498 (by decide) ?_
  refine lv_bipush (v := 99) hx hb dX8_init_500 (by decide) ?_
  refine me_iast (k := 88) (M2 := me_up (me_up M0 mo (.inr (8, [.null, .int 0, .null, .null, .null, .int 0, .null, .int 0, .null, .null, .null, .int 0, .null, .int 0, .int 0, .int 0, .int 0, .int 0, .int 0, .int 0, .int 0, .int 0, .int 0]))) (mo + 1) (.inl (tb 0, 96, .inl (kyP 89)))) hC hM (me_up_s _ _ _) (nx_c 88) (by omega) (by decide) (ky_st (k := 88) (by decide)) dX8_init_502 (fun H locs hM => ?_)
  refine lv_dup hx hb dX8_init_503 rfl ?_
  refine lv_bipush (v := 89) hx hb dX8_init_504 (by decide) ?_
  refine lv_bipush (v := 105) hx hb dX8_init_506 (by decide) ?_
  refine me_iast (k := 89) (M2 := me_up (me_up M0 mo (.inr (8, [.null, .int 0, .null, .null, .null, .int 0, .null, .int 0, .null, .null, .null, .int 0, .null, .int 0, .int 0, .int 0, .int 0, .int 0, .int 0, .int 0, .int 0, .int 0, .int 0]))) (mo + 1) (.inl (tb 0, 96, .inl (kyP 90)))) hC hM (me_up_s _ _ _) (nx_c 89) (by omega) (by decide) (ky_st (k := 89) (by decide)) dX8_init_508 (fun H locs hM => ?_)
  refine lv_dup hx hb dX8_init_509 rfl ?_
  refine lv_bipush (v := 90) hx hb dX8_init_510 (by decide) ?_
  refine lv_bipush (v := 100) hx hb dX8_init_512 (by decide) ?_
  refine me_iast (k := 90) (M2 := me_up (me_up M0 mo (.inr (8, [.null, .int 0, .null, .null, .null, .int 0, .null, .int 0, .null, .null, .null, .int 0, .null, .int 0, .int 0, .int 0, .int 0, .int 0, .int 0, .int 0, .int 0, .int 0, .int 0]))) (mo + 1) (.inl (tb 0, 96, .inl (kyP 91)))) hC hM (me_up_s _ _ _) (nx_c 90) (by omega) (by decide) (ky_st (k := 90) (by decide)) dX8_init_514 (fun H locs hM => ?_)
  refine lv_dup hx hb dX8_init_515 rfl ?_
  refine lv_bipush (v := 91) hx hb dX8_init_516 (by decide) ?_
  refine lv_iconst (v := 0) hx hb dX8_init_518 (by decide) ?_
  refine me_iast (k := 91) (M2 := me_up (me_up M0 mo (.inr (8, [.null, .int 0, .null, .null, .null, .int 0, .null, .int 0, .null, .null, .null, .int 0, .null, .int 0, .int 0, .int 0, .int 0, .int 0, .int 0, .int 0, .int 0, .int 0, .int 0]))) (mo + 1) (.inl (tb 0, 96, .inl (kyP 92)))) hC hM (me_up_s _ _ _) (nx_c 91) (by omega) (by decide) (ky_st (k := 91) (by decide)) dX8_init_519 (fun H locs hM => ?_)
  refine lv_dup hx hb dX8_init_520 rfl ?_
  refine lv_bipush (v := 92) hx hb dX8_init_521 (by decide) ?_
  refine lv_iconst (v := 0) hx hb dX8_init_523 (by decide) ?_
  refine me_iast (k := 92) (M2 := me_up (me_up M0 mo (.inr (8, [.null, .int 0, .null, .null, .null, .int 0, .null, .int 0, .null, .null, .null, .int 0, .null, .int 0, .int 0, .int 0, .int 0, .int 0, .int 0, .int 0, .int 0, .int 0, .int 0]))) (mo + 1) (.inl (tb 0, 96, .inl (kyP 93)))) hC hM (me_up_s _ _ _) (nx_c 92) (by omega) (by decide) (ky_st (k := 92) (by decide)) dX8_init_524 (fun H locs hM => ?_)
  refine lv_dup hx hb dX8_init_525 rfl ?_
  refine lv_bipush (v := 93) hx hb dX8_init_526 (by decide) ?_
  refine lv_iconst (v := 0) hx hb dX8_init_528 (by decide) ?_
  refine me_iast (k := 93) (M2 := me_up (me_up M0 mo (.inr (8, [.null, .int 0, .null, .null, .null, .int 0, .null, .int 0, .null, .null, .null, .int 0, .null, .int 0, .int 0, .int 0, .int 0, .int 0, .int 0, .int 0, .int 0, .int 0, .int 0]))) (mo + 1) (.inl (tb 0, 96, .inl (kyP 94)))) hC hM (me_up_s _ _ _) (nx_c 93) (by omega) (by decide) (ky_st (k := 93) (by decide)) dX8_init_529 (fun H locs hM => ?_)
  refine lv_dup hx hb dX8_init_530 rfl ?_
  refine lv_bipush (v := 94) hx hb dX8_init_531 (by decide) ?_
  refine lv_iconst (v := 0) hx hb dX8_init_533 (by decide) ?_
  refine me_iast (k := 94) (M2 := me_up (me_up M0 mo (.inr (8, [.null, .int 0, .null, .null, .null, .int 0, .null, .int 0, .null, .null, .null, .int 0, .null, .int 0, .int 0, .int 0, .int 0, .int 0, .int 0, .int 0, .int 0, .int 0, .int 0]))) (mo + 1) (.inl (tb 0, 96, .inl (kyP 95)))) hC hM (me_up_s _ _ _) (nx_c 94) (by omega) (by decide) (ky_st (k := 94) (by decide)) dX8_init_534 (fun H locs hM => ?_)
  refine lv_dup hx hb dX8_init_535 rfl ?_
  refine lv_bipush (v := 95) hx hb dX8_init_536 (by decide) ?_
  refine lv_iconst (v := 0) hx hb dX8_init_538 (by decide) ?_
  refine me_iast (k := 95) (M2 := me_up (me_up M0 mo (.inr (8, [.null, .int 0, .null, .null, .null, .int 0, .null, .int 0, .null, .null, .null, .int 0, .null, .int 0, .int 0, .int 0, .int 0, .int 0, .int 0, .int 0, .int 0, .int 0, .int 0]))) (mo + 1) (.inl (tb 0, 96, .inl (kyP 96)))) hC hM (me_up_s _ _ _) (nx_c 95) (by omega) (by decide) (ky_st (k := 95) (by decide)) dX8_init_539 (fun H locs hM => ?_)
  refine fp_X8_7 hC hM hnm ((me_up_n (by omega)).trans (me_up_s _ _ _)) (Nat.le_of_ble_eq_true rfl) (M2 := me_up (me_up (me_up M0 mo (.inr (8, [.null, .int 0, .null, .null, .null, .int 0, .null, .int 0, .null, .null, .null, .int 0, .null, .int 0, .int 0, .int 0, .int 0, .int 0, .int 0, .int 0, .int 0, .int 0, .int 0]))) (mo + 1) (.inl (tb 0, 96, .inl (kyP 96)))) mo (.inr (8, [.ref (mo + 1), .int 0, .null, .null, .null, .int 0, .null, .int 0, .null, .null, .null, .int 0, .null, .int 0, .int 0, .int 0, .int 0, .int 0, .int 0, .int 0, .int 0, .int 0, .int 0]))) rfl dX8_init_540 (fun H locs hM => ?_)
  refine lv_aload_n hx hb dX8_init_543 rfl (lv_at hl 0 rfl) ?_
  refine lv_sipush (v := 411) hx hb dX8_init_544 (by decide) ?_
  refine me_newa (atype := .int) (N' := 411) (a0 := (411, .inl (fun _ => 0))) (k := 0) (M2 := me_up (me_up (me_up (me_up M0 mo (.inr (8, [.null, .int 0, .null, .null, .null, .int 0, .null, .int 0, .null, .null, .null, .int 0, .null, .int 0, .int 0, .int 0, .int 0, .int 0, .int 0, .int 0, .int 0, .int 0, .int 0]))) (mo + 1) (.inl (tb 0, 96, .inl (kyP 96)))) mo (.inr (8, [.ref (mo + 1), .int 0, .null, .null, .null, .int 0, .null, .int 0, .null, .null, .null, .int 0, .null, .int 0, .int 0, .int 0, .int 0, .int 0, .int 0, .int 0, .int 0, .int 0, .int 0]))) (mo + 2) (.inl (tb 0, 411, .inl (fun _ => 0)))) hC hM w_1490 rfl (fun _ => rfl) (by decide) (by decide) (by decide) (Nat.le_of_ble_eq_true rfl) (Nat.le_of_ble_eq_true rfl) rfl dX8_init_547 (fun H hM => ?_)
  refine fp_X8_13 hC hM hnm ((me_up_n (by omega)).trans (me_up_s _ _ _)) (Nat.le_of_ble_eq_true rfl) (M2 := me_up (me_up (me_up (me_up (me_up M0 mo (.inr (8, [.null, .int 0, .null, .null, .null, .int 0, .null, .int 0, .null, .null, .null, .int 0, .null, .int 0, .int 0, .int 0, .int 0, .int 0, .int 0, .int 0, .int 0, .int 0, .int 0]))) (mo + 1) (.inl (tb 0, 96, .inl (kyP 96)))) mo (.inr (8, [.ref (mo + 1), .int 0, .null, .null, .null, .int 0, .null, .int 0, .null, .null, .null, .int 0, .null, .int 0, .int 0, .int 0, .int 0, .int 0, .int 0, .int 0, .int 0, .int 0, .int 0]))) (mo + 2) (.inl (tb 0, 411, .inl (fun _ => 0)))) mo (.inr (8, [.ref (mo + 1), .int 0, .ref (mo + 2), .null, .null, .int 0, .null, .int 0, .null, .null, .null, .int 0, .null, .int 0, .int 0, .int 0, .int 0, .int 0, .int 0, .int 0, .int 0, .int 0, .int 0]))) rfl dX8_init_549 (fun H locs hM => ?_)
  refine lv_aload_n hx hb dX8_init_552 rfl (lv_at hl 0 rfl) ?_
  refine lv_sipush (v := 411) hx hb dX8_init_553 (by decide) ?_
  refine me_newa (atype := .int) (N' := 411) (a0 := (411, .inl (fun _ => 0))) (k := 0) (M2 := me_up (me_up (me_up (me_up (me_up (me_up M0 mo (.inr (8, [.null, .int 0, .null, .null, .null, .int 0, .null, .int 0, .null, .null, .null, .int 0, .null, .int 0, .int 0, .int 0, .int 0, .int 0, .int 0, .int 0, .int 0, .int 0, .int 0]))) (mo + 1) (.inl (tb 0, 96, .inl (kyP 96)))) mo (.inr (8, [.ref (mo + 1), .int 0, .null, .null, .null, .int 0, .null, .int 0, .null, .null, .null, .int 0, .null, .int 0, .int 0, .int 0, .int 0, .int 0, .int 0, .int 0, .int 0, .int 0, .int 0]))) (mo + 2) (.inl (tb 0, 411, .inl (fun _ => 0)))) mo (.inr (8, [.ref (mo + 1), .int 0, .ref (mo + 2), .null, .null, .int 0, .null, .int 0, .null, .null, .null, .int 0, .null, .int 0, .int 0, .int 0, .int 0, .int 0, .int 0, .int 0, .int 0, .int 0, .int 0]))) (mo + 3) (.inl (tb 0, 411, .inl (fun _ => 0)))) hC hM w_1490 rfl (fun _ => rfl) (by decide) (by decide) (by decide) (Nat.le_of_ble_eq_true rfl) (Nat.le_of_ble_eq_true rfl) rfl dX8_init_556 (fun H hM => ?_)
  refine fp_X8_16 hC hM hnm ((me_up_n (by omega)).trans (me_up_s _ _ _)) (Nat.le_of_ble_eq_true rfl) (M2 := me_up (me_up (me_up (me_up (me_up (me_up (me_up M0 mo (.inr (8, [.null, .int 0, .null, .null, .null, .int 0, .null, .int 0, .null, .null, .null, .int 0, .null, .int 0, .int 0, .int 0, .int 0, .int 0, .int 0, .int 0, .int 0, .int 0, .int 0]))) (mo + 1) (.inl (tb 0, 96, .inl (kyP 96)))) mo (.inr (8, [.ref (mo + 1), .int 0, .null, .null, .null, .int 0, .null, .int 0, .null, .null, .null, .int 0, .null, .int 0, .int 0, .int 0, .int 0, .int 0, .int 0, .int 0, .int 0, .int 0, .int 0]))) (mo + 2) (.inl (tb 0, 411, .inl (fun _ => 0)))) mo (.inr (8, [.ref (mo + 1), .int 0, .ref (mo + 2), .null, .null, .int 0, .null, .int 0, .null, .null, .null, .int 0, .null, .int 0, .int 0, .int 0, .int 0, .int 0, .int 0, .int 0, .int 0, .int 0, .int 0]))) (mo + 3) (.inl (tb 0, 411, .inl (fun _ => 0)))) mo (.inr (8, [.ref (mo + 1), .int 0, .ref (mo + 2), .ref (mo + 3), .null, .int 0, .null, .int 0, .null, .null, .null, .int 0, .null, .int 0, .int 0, .int 0, .int 0, .int 0, .int 0, .int 0, .int 0, .int 0, .int 0]))) rfl dX8_init_558 (fun H locs hM => ?_)
  refine lv_aload_n hx hb dX8_init_561 rfl (lv_at hl 0 rfl) ?_
  refine lv_sipush (v := 4110) hx hb dX8_init_562 (by decide) ?_
  refine me_newa (atype := .int) (N' := 4110) (a0 := (4110, .inl (fun _ => 0))) (k := 0) (M2 := me_up (me_up (me_up (me_up (me_up (me_up (me_up (me_up M0 mo (.inr (8, [.null, .int 0, .null, .null, .null, .int 0, .null, .int 0, .null, .null, .null, .int 0, .null, .int 0, .int 0, .int 0, .int 0, .int 0, .int 0, .int 0, .int 0, .int 0, .int 0]))) (mo + 1) (.inl (tb 0, 96, .inl (kyP 96)))) mo (.inr (8, [.ref (mo + 1), .int 0, .null, .null, .null, .int 0, .null, .int 0, .null, .null, .null, .int 0, .null, .int 0, .int 0, .int 0, .int 0, .int 0, .int 0, .int 0, .int 0, .int 0, .int 0]))) (mo + 2) (.inl (tb 0, 411, .inl (fun _ => 0)))) mo (.inr (8, [.ref (mo + 1), .int 0, .ref (mo + 2), .null, .null, .int 0, .null, .int 0, .null, .null, .null, .int 0, .null, .int 0, .int 0, .int 0, .int 0, .int 0, .int 0, .int 0, .int 0, .int 0, .int 0]))) (mo + 3) (.inl (tb 0, 411, .inl (fun _ => 0)))) mo (.inr (8, [.ref (mo + 1), .int 0, .ref (mo + 2), .ref (mo + 3), .null, .int 0, .null, .int 0, .null, .null, .null, .int 0, .null, .int 0, .int 0, .int 0, .int 0, .int 0, .int 0, .int 0, .int 0, .int 0, .int 0]))) (mo + 4) (.inl (tb 0, 4110, .inl (fun _ => 0)))) hC hM w_1490 rfl (fun _ => rfl) (by decide) (by decide) (by decide) (Nat.le_of_ble_eq_true rfl) (Nat.le_of_ble_eq_true rfl) rfl dX8_init_565 (fun H hM => ?_)
  refine fp_X8_19 hC hM hnm ((me_up_n (by omega)).trans (me_up_s _ _ _)) (Nat.le_of_ble_eq_true rfl) (M2 := me_up (me_up (me_up (me_up (me_up (me_up (me_up (me_up (me_up M0 mo (.inr (8, [.null, .int 0, .null, .null, .null, .int 0, .null, .int 0, .null, .null, .null, .int 0, .null, .int 0, .int 0, .int 0, .int 0, .int 0, .int 0, .int 0, .int 0, .int 0, .int 0]))) (mo + 1) (.inl (tb 0, 96, .inl (kyP 96)))) mo (.inr (8, [.ref (mo + 1), .int 0, .null, .null, .null, .int 0, .null, .int 0, .null, .null, .null, .int 0, .null, .int 0, .int 0, .int 0, .int 0, .int 0, .int 0, .int 0, .int 0, .int 0, .int 0]))) (mo + 2) (.inl (tb 0, 411, .inl (fun _ => 0)))) mo (.inr (8, [.ref (mo + 1), .int 0, .ref (mo + 2), .null, .null, .int 0, .null, .int 0, .null, .null, .null, .int 0, .null, .int 0, .int 0, .int 0, .int 0, .int 0, .int 0, .int 0, .int 0, .int 0, .int 0]))) (mo + 3) (.inl (tb 0, 411, .inl (fun _ => 0)))) mo (.inr (8, [.ref (mo + 1), .int 0, .ref (mo + 2), .ref (mo + 3), .null, .int 0, .null, .int 0, .null, .null, .null, .int 0, .null, .int 0, .int 0, .int 0, .int 0, .int 0, .int 0, .int 0, .int 0, .int 0, .int 0]))) (mo + 4) (.inl (tb 0, 4110, .inl (fun _ => 0)))) mo (.inr (8, [.ref (mo + 1), .int 0, .ref (mo + 2), .ref (mo + 3), .ref (mo + 4), .int 0, .null, .int 0, .null, .null, .null, .int 0, .null, .int 0, .int 0, .int 0, .int 0, .int 0, .int 0, .int 0, .int 0, .int 0, .int 0]))) rfl dX8_init_567 (fun H locs hM => ?_)
  refine lv_aload_n hx hb dX8_init_570 rfl (lv_at hl 0 rfl) ?_
  refine lv_sipush (v := 822) hx hb dX8_init_571 (by decide) ?_
  refine me_newa (atype := .int) (N' := 822) (a0 := (822, .inl (fun _ => 0))) (k := 0) (M2 := me_up (me_up (me_up (me_up (me_up (me_up (me_up (me_up (me_up (me_up M0 mo (.inr (8, [.null, .int 0, .null, .null, .null, .int 0, .null, .int 0, .null, .null, .null, .int 0, .null, .int 0, .int 0, .int 0, .int 0, .int 0, .int 0, .int 0, .int 0, .int 0, .int 0]))) (mo + 1) (.inl (tb 0, 96, .inl (kyP 96)))) mo (.inr (8, [.ref (mo + 1), .int 0, .null, .null, .null, .int 0, .null, .int 0, .null, .null, .null, .int 0, .null, .int 0, .int 0, .int 0, .int 0, .int 0, .int 0, .int 0, .int 0, .int 0, .int 0]))) (mo + 2) (.inl (tb 0, 411, .inl (fun _ => 0)))) mo (.inr (8, [.ref (mo + 1), .int 0, .ref (mo + 2), .null, .null, .int 0, .null, .int 0, .null, .null, .null, .int 0, .null, .int 0, .int 0, .int 0, .int 0, .int 0, .int 0, .int 0, .int 0, .int 0, .int 0]))) (mo + 3) (.inl (tb 0, 411, .inl (fun _ => 0)))) mo (.inr (8, [.ref (mo + 1), .int 0, .ref (mo + 2), .ref (mo + 3), .null, .int 0, .null, .int 0, .null, .null, .null, .int 0, .null, .int 0, .int 0, .int 0, .int 0, .int 0, .int 0, .int 0, .int 0, .int 0, .int 0]))) (mo + 4) (.inl (tb 0, 4110, .inl (fun _ => 0)))) mo (.inr (8, [.ref (mo + 1), .int 0, .ref (mo + 2), .ref (mo + 3), .ref (mo + 4), .int 0, .null, .int 0, .null, .null, .null, .int 0, .null, .int 0, .int 0, .int 0, .int 0, .int 0, .int 0, .int 0, .int 0, .int 0, .int 0]))) (mo + 5) (.inl (tb 0, 822, .inl (fun _ => 0)))) hC hM w_1490 rfl (fun _ => rfl) (by decide) (by decide) (by decide) (Nat.le_of_ble_eq_true rfl) (Nat.le_of_ble_eq_true rfl) rfl dX8_init_574 (fun H hM => ?_)
  refine fp_X8_22 hC hM hnm ((me_up_n (by omega)).trans (me_up_s _ _ _)) (Nat.le_of_ble_eq_true rfl) (M2 := me_up (me_up (me_up (me_up (me_up (me_up (me_up (me_up (me_up (me_up (me_up M0 mo (.inr (8, [.null, .int 0, .null, .null, .null, .int 0, .null, .int 0, .null, .null, .null, .int 0, .null, .int 0, .int 0, .int 0, .int 0, .int 0, .int 0, .int 0, .int 0, .int 0, .int 0]))) (mo + 1) (.inl (tb 0, 96, .inl (kyP 96)))) mo (.inr (8, [.ref (mo + 1), .int 0, .null, .null, .null, .int 0, .null, .int 0, .null, .null, .null, .int 0, .null, .int 0, .int 0, .int 0, .int 0, .int 0, .int 0, .int 0, .int 0, .int 0, .int 0]))) (mo + 2) (.inl (tb 0, 411, .inl (fun _ => 0)))) mo (.inr (8, [.ref (mo + 1), .int 0, .ref (mo + 2), .null, .null, .int 0, .null, .int 0, .null, .null, .null, .int 0, .null, .int 0, .int 0, .int 0, .int 0, .int 0, .int 0, .int 0, .int 0, .int 0, .int 0]))) (mo + 3) (.inl (tb 0, 411, .inl (fun _ => 0)))) mo (.inr (8, [.ref (mo + 1), .int 0, .ref (mo + 2), .ref (mo + 3), .null, .int 0, .null, .int 0, .null, .null, .null, .int 0, .null, .int 0, .int 0, .int 0, .int 0, .int 0, .int 0, .int 0, .int 0, .int 0, .int 0]))) (mo + 4) (.inl (tb 0, 4110, .inl (fun _ => 0)))) mo (.inr (8, [.ref (mo + 1), .int 0, .ref (mo + 2), .ref (mo + 3), .ref (mo + 4), .int 0, .null, .int 0, .null, .null, .null, .int 0, .null, .int 0, .int 0, .int 0, .int 0, .int 0, .int 0, .int 0, .int 0, .int 0, .int 0]))) (mo + 5) (.inl (tb 0, 822, .inl (fun _ => 0)))) mo (.inr (8, [.ref (mo + 1), .int 0, .ref (mo + 2), .ref (mo + 3), .ref (mo + 4), .int 0, .ref (mo + 5), .int 0, .null, .null, .null, .int 0, .null, .int 0, .int 0, .int 0, .int 0, .int 0, .int 0, .int 0, .int 0, .int 0, .int 0]))) rfl dX8_init_576 (fun H locs hM => ?_)
  refine lv_aload_n hx hb dX8_init_579 rfl (lv_at hl 0 rfl) ?_
  refine lv_bipush (v := 6) hx hb dX8_init_580 (by decide) ?_
  refine me_newa (atype := .int) (N' := 6) (a0 := (6, .inl (fun _ => 0))) (k := 0) (M2 := me_up (me_up (me_up (me_up (me_up (me_up (me_up (me_up (me_up (me_up (me_up (me_up M0 mo (.inr (8, [.null, .int 0, .null, .null, .null, .int 0, .null, .int 0, .null, .null, .null, .int 0, .null, .int 0, .int 0, .int 0, .int 0, .int 0, .int 0, .int 0, .int 0, .int 0, .int 0]))) (mo + 1) (.inl (tb 0, 96, .inl (kyP 96)))) mo (.inr (8, [.ref (mo + 1), .int 0, .null, .null, .null, .int 0, .null, .int 0, .null, .null, .null, .int 0, .null, .int 0, .int 0, .int 0, .int 0, .int 0, .int 0, .int 0, .int 0, .int 0, .int 0]))) (mo + 2) (.inl (tb 0, 411, .inl (fun _ => 0)))) mo (.inr (8, [.ref (mo + 1), .int 0, .ref (mo + 2), .null, .null, .int 0, .null, .int 0, .null, .null, .null, .int 0, .null, .int 0, .int 0, .int 0, .int 0, .int 0, .int 0, .int 0, .int 0, .int 0, .int 0]))) (mo + 3) (.inl (tb 0, 411, .inl (fun _ => 0)))) mo (.inr (8, [.ref (mo + 1), .int 0, .ref (mo + 2), .ref (mo + 3), .null, .int 0, .null, .int 0, .null, .null, .null, .int 0, .null, .int 0, .int 0, .int 0, .int 0, .int 0, .int 0, .int 0, .int 0, .int 0, .int 0]))) (mo + 4) (.inl (tb 0, 4110, .inl (fun _ => 0)))) mo (.inr (8, [.ref (mo + 1), .int 0, .ref (mo + 2), .ref (mo + 3), .ref (mo + 4), .int 0, .null, .int 0, .null, .null, .null, .int 0, .null, .int 0, .int 0, .int 0, .int 0, .int 0, .int 0, .int 0, .int 0, .int 0, .int 0]))) (mo + 5) (.inl (tb 0, 822, .inl (fun _ => 0)))) mo (.inr (8, [.ref (mo + 1), .int 0, .ref (mo + 2), .ref (mo + 3), .ref (mo + 4), .int 0, .ref (mo + 5), .int 0, .null, .null, .null, .int 0, .null, .int 0, .int 0, .int 0, .int 0, .int 0, .int 0, .int 0, .int 0, .int 0, .int 0]))) (mo + 6) (.inl (tb 0, 6, .inl (fun _ => 0)))) hC hM w_1490 rfl (fun _ => rfl) (by decide) (by decide) (by decide) (Nat.le_of_ble_eq_true rfl) (Nat.le_of_ble_eq_true rfl) rfl dX8_init_582 (fun H hM => ?_)
  refine fp_X8_25 hC hM hnm ((me_up_n (by omega)).trans (me_up_s _ _ _)) (Nat.le_of_ble_eq_true rfl) (M2 := me_up (me_up (me_up (me_up (me_up (me_up (me_up (me_up (me_up (me_up (me_up (me_up (me_up M0 mo (.inr (8, [.null, .int 0, .null, .null, .null, .int 0, .null, .int 0, .null, .null, .null, .int 0, .null, .int 0, .int 0, .int 0, .int 0, .int 0, .int 0, .int 0, .int 0, .int 0, .int 0]))) (mo + 1) (.inl (tb 0, 96, .inl (kyP 96)))) mo (.inr (8, [.ref (mo + 1), .int 0, .null, .null, .null, .int 0, .null, .int 0, .null, .null, .null, .int 0, .null, .int 0, .int 0, .int 0, .int 0, .int 0, .int 0, .int 0, .int 0, .int 0, .int 0]))) (mo + 2) (.inl (tb 0, 411, .inl (fun _ => 0)))) mo (.inr (8, [.ref (mo + 1), .int 0, .ref (mo + 2), .null, .null, .int 0, .null, .int 0, .null, .null, .null, .int 0, .null, .int 0, .int 0, .int 0, .int 0, .int 0, .int 0, .int 0, .int 0, .int 0, .int 0]))) (mo + 3) (.inl (tb 0, 411, .inl (fun _ => 0)))) mo (.inr (8, [.ref (mo + 1), .int 0, .ref (mo + 2), .ref (mo + 3), .null, .int 0, .null, .int 0, .null, .null, .null, .int 0, .null, .int 0, .int 0, .int 0, .int 0, .int 0, .int 0, .int 0, .int 0, .int 0, .int 0]))) (mo + 4) (.inl (tb 0, 4110, .inl (fun _ => 0)))) mo (.inr (8, [.ref (mo + 1), .int 0, .ref (mo + 2), .ref (mo + 3), .ref (mo + 4), .int 0, .null, .int 0, .null, .null, .null, .int 0, .null, .int 0, .int 0, .int 0, .int 0, .int 0, .int 0, .int 0, .int 0, .int 0, .int 0]))) (mo + 5) (.inl (tb 0, 822, .inl (fun _ => 0)))) mo (.inr (8, [.ref (mo + 1), .int 0, .ref (mo + 2), .ref (mo + 3), .ref (mo + 4), .int 0, .ref (mo + 5), .int 0, .null, .null, .null, .int 0, .null, .int 0, .int 0, .int 0, .int 0, .int 0, .int 0, .int 0, .int 0, .int 0, .int 0]))) (mo + 6) (.inl (tb 0, 6, .inl (fun _ => 0)))) mo (.inr (8, [.ref (mo + 1), .int 0, .ref (mo + 2), .ref (mo + 3), .ref (mo + 4), .int 0, .ref (mo + 5), .int 0, .ref (mo + 6), .null, .null, .int 0, .null, .int 0, .int 0, .int 0, .int 0, .int 0, .int 0, .int 0, .int 0, .int 0, .int 0]))) rfl dX8_init_584 (fun H locs hM => ?_)
  refine lv_aload_n hx hb dX8_init_587 rfl (lv_at hl 0 rfl) ?_
  refine lv_bipush (v := 8) hx hb dX8_init_588 (by decide) ?_
  refine me_newa (atype := .int) (N' := 8) (a0 := (8, .inl (fun _ => 0))) (k := 0) (M2 := me_up (me_up (me_up (me_up (me_up (me_up (me_up (me_up (me_up (me_up (me_up (me_up (me_up (me_up M0 mo (.inr (8, [.null, .int 0, .null, .null, .null, .int 0, .null, .int 0, .null, .null, .null, .int 0, .null, .int 0, .int 0, .int 0, .int 0, .int 0, .int 0, .int 0, .int 0, .int 0, .int 0]))) (mo + 1) (.inl (tb 0, 96, .inl (kyP 96)))) mo (.inr (8, [.ref (mo + 1), .int 0, .null, .null, .null, .int 0, .null, .int 0, .null, .null, .null, .int 0, .null, .int 0, .int 0, .int 0, .int 0, .int 0, .int 0, .int 0, .int 0, .int 0, .int 0]))) (mo + 2) (.inl (tb 0, 411, .inl (fun _ => 0)))) mo (.inr (8, [.ref (mo + 1), .int 0, .ref (mo + 2), .null, .null, .int 0, .null, .int 0, .null, .null, .null, .int 0, .null, .int 0, .int 0, .int 0, .int 0, .int 0, .int 0, .int 0, .int 0, .int 0, .int 0]))) (mo + 3) (.inl (tb 0, 411, .inl (fun _ => 0)))) mo (.inr (8, [.ref (mo + 1), .int 0, .ref (mo + 2), .ref (mo + 3), .null, .int 0, .null, .int 0, .null, .null, .null, .int 0, .null, .int 0, .int 0, .int 0, .int 0, .int 0, .int 0, .int 0, .int 0, .int 0, .int 0]))) (mo + 4) (.inl (tb 0, 4110, .inl (fun _ => 0)))) mo (.inr (8, [.ref (mo + 1), .int 0, .ref (mo + 2), .ref (mo + 3), .ref (mo + 4), .int 0, .null, .int 0, .null, .null, .null, .int 0, .null, .int 0, .int 0, .int 0, .int 0, .int 0, .int 0, .int 0, .int 0, .int 0, .int 0]))) (mo + 5) (.inl (tb 0, 822, .inl (fun _ => 0)))) mo (.inr (8, [.ref (mo + 1), .int 0, .ref (mo + 2), .ref (mo + 3), .ref (mo + 4), .int 0, .ref (mo + 5), .int 0, .null, .null, .null, .int 0, .null, .int 0, .int 0, .int 0, .int 0, .int 0, .int 0, .int 0, .int 0, .int 0, .int 0]))) (mo + 6) (.inl (tb 0, 6, .inl (fun _ => 0)))) mo (.inr (8, [.ref (mo + 1), .int 0, .ref (mo + 2), .ref (mo + 3), .ref (mo + 4), .int 0, .ref (mo + 5), .int 0, .ref (mo + 6), .null, .null, .int 0, .null, .int 0, .int 0, .int 0, .int 0, .int 0, .int 0, .int 0, .int 0, .int 0, .int 0]))) (mo + 7) (.inl (tb 0, 8, .inl (fun _ => 0)))) hC hM w_1490 rfl (fun _ => rfl) (by decide) (by decide) (by decide) (Nat.le_of_ble_eq_true rfl) (Nat.le_of_ble_eq_true rfl) rfl dX8_init_590 (fun H hM => ?_)
  refine fp_X8_28 hC hM hnm ((me_up_n (by omega)).trans (me_up_s _ _ _)) (Nat.le_of_ble_eq_true rfl) (M2 := me_up (me_up (me_up (me_up (me_up (me_up (me_up (me_up (me_up (me_up (me_up (me_up (me_up (me_up (me_up M0 mo (.inr (8, [.null, .int 0, .null, .null, .null, .int 0, .null, .int 0, .null, .null, .null, .int 0, .null, .int 0, .int 0, .int 0, .int 0, .int 0, .int 0, .int 0, .int 0, .int 0, .int 0]))) (mo + 1) (.inl (tb 0, 96, .inl (kyP 96)))) mo (.inr (8, [.ref (mo + 1), .int 0, .null, .null, .null, .int 0, .null, .int 0, .null, .null, .null, .int 0, .null, .int 0, .int 0, .int 0, .int 0, .int 0, .int 0, .int 0, .int 0, .int 0, .int 0]))) (mo + 2) (.inl (tb 0, 411, .inl (fun _ => 0)))) mo (.inr (8, [.ref (mo + 1), .int 0, .ref (mo + 2), .null, .null, .int 0, .null, .int 0, .null, .null, .null, .int 0, .null, .int 0, .int 0, .int 0, .int 0, .int 0, .int 0, .int 0, .int 0, .int 0, .int 0]))) (mo + 3) (.inl (tb 0, 411, .inl (fun _ => 0)))) mo (.inr (8, [.ref (mo + 1), .int 0, .ref (mo + 2), .ref (mo + 3), .null, .int 0, .null, .int 0, .null, .null, .null, .int 0, .null, .int 0, .int 0, .int 0, .int 0, .int 0, .int 0, .int 0, .int 0, .int 0, .int 0]))) (mo + 4) (.inl (tb 0, 4110, .inl (fun _ => 0)))) mo (.inr (8, [.ref (mo + 1), .int 0, .ref (mo + 2), .ref (mo + 3), .ref (mo + 4), .int 0, .null, .int 0, .null, .null, .null, .int 0, .null, .int 0, .int 0, .int 0, .int 0, .int 0, .int 0, .int 0, .int 0, .int 0, .int 0]))) (mo + 5) (.inl (tb 0, 822, .inl (fun _ => 0)))) mo (.inr (8, [.ref (mo + 1), .int 0, .ref (mo + 2), .ref (mo + 3), .ref (mo + 4), .int 0, .ref (mo + 5), .int 0, .null, .null, .null, .int 0, .null, .int 0, .int 0, .int 0, .int 0, .int 0, .int 0, .int 0, .int 0, .int 0, .int 0]))) (mo + 6) (.inl (tb 0, 6, .inl (fun _ => 0)))) mo (.inr (8, [.ref (mo + 1), .int 0, .ref (mo + 2), .ref (mo + 3), .ref (mo + 4), .int 0, .ref (mo + 5), .int 0, .ref (mo + 6), .null, .null, .int 0, .null, .int 0, .int 0, .int 0, .int 0, .int 0, .int 0, .int 0, .int 0, .int 0, .int 0]))) (mo + 7) (.inl (tb 0, 8, .inl (fun _ => 0)))) mo (.inr (8, [.ref (mo + 1), .int 0, .ref (mo + 2), .ref (mo + 3), .ref (mo + 4), .int 0, .ref (mo + 5), .int 0, .ref (mo + 6), .ref (mo + 7), .null, .int 0, .null, .int 0, .int 0, .int 0, .int 0, .int 0, .int 0, .int 0, .int 0, .int 0, .int 0]))) rfl dX8_init_592 (fun H locs hM => ?_)
  refine lv_aload_n hx hb dX8_init_595 rfl (lv_at hl 0 rfl) ?_
  refine lv_sipush (v := 700) hx hb dX8_init_596 (by decide) ?_
  refine me_newa (atype := .byte) (N' := 700) (a0 := (700, .inl (fun _ => 0))) (k := 1) (M2 := me_up (me_up (me_up (me_up (me_up (me_up (me_up (me_up (me_up (me_up (me_up (me_up (me_up (me_up (me_up (me_up M0 mo (.inr (8, [.null, .int 0, .null, .null, .null, .int 0, .null, .int 0, .null, .null, .null, .int 0, .null, .int 0, .int 0, .int 0, .int 0, .int 0, .int 0, .int 0, .int 0, .int 0, .int 0]))) (mo + 1) (.inl (tb 0, 96, .inl (kyP 96)))) mo (.inr (8, [.ref (mo + 1), .int 0, .null, .null, .null, .int 0, .null, .int 0, .null, .null, .null, .int 0, .null, .int 0, .int 0, .int 0, .int 0, .int 0, .int 0, .int 0, .int 0, .int 0, .int 0]))) (mo + 2) (.inl (tb 0, 411, .inl (fun _ => 0)))) mo (.inr (8, [.ref (mo + 1), .int 0, .ref (mo + 2), .null, .null, .int 0, .null, .int 0, .null, .null, .null, .int 0, .null, .int 0, .int 0, .int 0, .int 0, .int 0, .int 0, .int 0, .int 0, .int 0, .int 0]))) (mo + 3) (.inl (tb 0, 411, .inl (fun _ => 0)))) mo (.inr (8, [.ref (mo + 1), .int 0, .ref (mo + 2), .ref (mo + 3), .null, .int 0, .null, .int 0, .null, .null, .null, .int 0, .null, .int 0, .int 0, .int 0, .int 0, .int 0, .int 0, .int 0, .int 0, .int 0, .int 0]))) (mo + 4) (.inl (tb 0, 4110, .inl (fun _ => 0)))) mo (.inr (8, [.ref (mo + 1), .int 0, .ref (mo + 2), .ref (mo + 3), .ref (mo + 4), .int 0, .null, .int 0, .null, .null, .null, .int 0, .null, .int 0, .int 0, .int 0, .int 0, .int 0, .int 0, .int 0, .int 0, .int 0, .int 0]))) (mo + 5) (.inl (tb 0, 822, .inl (fun _ => 0)))) mo (.inr (8, [.ref (mo + 1), .int 0, .ref (mo + 2), .ref (mo + 3), .ref (mo + 4), .int 0, .ref (mo + 5), .int 0, .null, .null, .null, .int 0, .null, .int 0, .int 0, .int 0, .int 0, .int 0, .int 0, .int 0, .int 0, .int 0, .int 0]))) (mo + 6) (.inl (tb 0, 6, .inl (fun _ => 0)))) mo (.inr (8, [.ref (mo + 1), .int 0, .ref (mo + 2), .ref (mo + 3), .ref (mo + 4), .int 0, .ref (mo + 5), .int 0, .ref (mo + 6), .null, .null, .int 0, .null, .int 0, .int 0, .int 0, .int 0, .int 0, .int 0, .int 0, .int 0, .int 0, .int 0]))) (mo + 7) (.inl (tb 0, 8, .inl (fun _ => 0)))) mo (.inr (8, [.ref (mo + 1), .int 0, .ref (mo + 2), .ref (mo + 3), .ref (mo + 4), .int 0, .ref (mo + 5), .int 0, .ref (mo + 6), .ref (mo + 7), .null, .int 0, .null, .int 0, .int 0, .int 0, .int 0, .int 0, .int 0, .int 0, .int 0, .int 0, .int 0]))) (mo + 8) (.inl (tb 1, 700, .inl (fun _ => 0)))) hC hM w_336 rfl (fun _ => rfl) (by decide) (by decide) (by decide) (Nat.le_of_ble_eq_true rfl) (Nat.le_of_ble_eq_true rfl) rfl dX8_init_599 (fun H hM => ?_)
  refine fp_X8_31 hC hM hnm ((me_up_n (by omega)).trans (me_up_s _ _ _)) (Nat.le_of_ble_eq_true rfl) (M2 := me_up (me_up (me_up (me_up (me_up (me_up (me_up (me_up (me_up (me_up (me_up (me_up (me_up (me_up (me_up (me_up (me_up M0 mo (.inr (8, [.null, .int 0, .null, .null, .null, .int 0, .null, .int 0, .null, .null, .null, .int 0, .null, .int 0, .int 0, .int 0, .int 0, .int 0, .int 0, .int 0, .int 0, .int 0, .int 0]))) (mo + 1) (.inl (tb 0, 96, .inl (kyP 96)))) mo (.inr (8, [.ref (mo + 1), .int 0, .null, .null, .null, .int 0, .null, .int 0, .null, .null, .null, .int 0, .null, .int 0, .int 0, .int 0, .int 0, .int 0, .int 0, .int 0, .int 0, .int 0, .int 0]))) (mo + 2) (.inl (tb 0, 411, .inl (fun _ => 0)))) mo (.inr (8, [.ref (mo + 1), .int 0, .ref (mo + 2), .null, .null, .int 0, .null, .int 0, .null, .null, .null, .int 0, .null, .int 0, .int 0, .int 0, .int 0, .int 0, .int 0, .int 0, .int 0, .int 0, .int 0]))) (mo + 3) (.inl (tb 0, 411, .inl (fun _ => 0)))) mo (.inr (8, [.ref (mo + 1), .int 0, .ref (mo + 2), .ref (mo + 3), .null, .int 0, .null, .int 0, .null, .null, .null, .int 0, .null, .int 0, .int 0, .int 0, .int 0, .int 0, .int 0, .int 0, .int 0, .int 0, .int 0]))) (mo + 4) (.inl (tb 0, 4110, .inl (fun _ => 0)))) mo (.inr (8, [.ref (mo + 1), .int 0, .ref (mo + 2), .ref (mo + 3), .ref (mo + 4), .int 0, .null, .int 0, .null, .null, .null, .int 0, .null, .int 0, .int 0, .int 0, .int 0, .int 0, .int 0, .int 0, .int 0, .int 0, .int 0]))) (mo + 5) (.inl (tb 0, 822, .inl (fun _ => 0)))) mo (.inr (8, [.ref (mo + 1), .int 0, .ref (mo + 2), .ref (mo + 3), .ref (mo + 4), .int 0, .ref (mo + 5), .int 0, .null, .null, .null, .int 0, .null, .int 0, .int 0, .int 0, .int 0, .int 0, .int 0, .int 0, .int 0, .int 0, .int 0]))) (mo + 6) (.inl (tb 0, 6, .inl (fun _ => 0)))) mo (.inr (8, [.ref (mo + 1), .int 0, .ref (mo + 2), .ref (mo + 3), .ref (mo + 4), .int 0, .ref (mo + 5), .int 0, .ref (mo + 6), .null, .null, .int 0, .null, .int 0, .int 0, .int 0, .int 0, .int 0, .int 0, .int 0, .int 0, .int 0, .int 0]))) (mo + 7) (.inl (tb 0, 8, .inl (fun _ => 0)))) mo (.inr (8, [.ref (mo + 1), .int 0, .ref (mo + 2), .ref (mo + 3), .ref (mo + 4), .int 0, .ref (mo + 5), .int 0, .ref (mo + 6), .ref (mo + 7), .null, .int 0, .null, .int 0, .int 0, .int 0, .int 0, .int 0, .int 0, .int 0, .int 0, .int 0, .int 0]))) (mo + 8) (.inl (tb 1, 700, .inl (fun _ => 0)))) mo (.inr (8, [.ref (mo + 1), .int 0, .ref (mo + 2), .ref (mo + 3), .ref (mo + 4), .int 0, .ref (mo + 5), .int 0, .ref (mo + 6), .ref (mo + 7), .ref (mo + 8), .int 0, .null, .int 0, .int 0, .int 0, .int 0, .int 0, .int 0, .int 0, .int 0, .int 0, .int 0]))) rfl dX8_init_601 (fun H locs hM => ?_)
  refine lv_aload_n hx hb dX8_init_604 rfl (lv_at hl 0 rfl) ?_
  refine lv_bipush (v := 40) hx hb dX8_init_605 (by decide) ?_
  refine me_newa (atype := .byte) (N' := 40) (a0 := (40, .inl (fun _ => 0))) (k := 1) (M2 := me_up (me_up (me_up (me_up (me_up (me_up (me_up (me_up (me_up (me_up (me_up (me_up (me_up (me_up (me_up (me_up (me_up (me_up M0 mo (.inr (8, [.null, .int 0, .null, .null, .null, .int 0, .null, .int 0, .null, .null, .null, .int 0, .null, .int 0, .int 0, .int 0, .int 0, .int 0, .int 0, .int 0, .int 0, .int 0, .int 0]))) (mo + 1) (.inl (tb 0, 96, .inl (kyP 96)))) mo (.inr (8, [.ref (mo + 1), .int 0, .null, .null, .null, .int 0, .null, .int 0, .null, .null, .null, .int 0, .null, .int 0, .int 0, .int 0, .int 0, .int 0, .int 0, .int 0, .int 0, .int 0, .int 0]))) (mo + 2) (.inl (tb 0, 411, .inl (fun _ => 0)))) mo (.inr (8, [.ref (mo + 1), .int 0, .ref (mo + 2), .null, .null, .int 0, .null, .int 0, .null, .null, .null, .int 0, .null, .int 0, .int 0, .int 0, .int 0, .int 0, .int 0, .int 0, .int 0, .int 0, .int 0]))) (mo + 3) (.inl (tb 0, 411, .inl (fun _ => 0)))) mo (.inr (8, [.ref (mo + 1), .int 0, .ref (mo + 2), .ref (mo + 3), .null, .int 0, .null, .int 0, .null, .null, .null, .int 0, .null, .int 0, .int 0, .int 0, .int 0, .int 0, .int 0, .int 0, .int 0, .int 0, .int 0]))) (mo + 4) (.inl (tb 0, 4110, .inl (fun _ => 0)))) mo (.inr (8, [.ref (mo + 1), .int 0, .ref (mo + 2), .ref (mo + 3), .ref (mo + 4), .int 0, .null, .int 0, .null, .null, .null, .int 0, .null, .int 0, .int 0, .int 0, .int 0, .int 0, .int 0, .int 0, .int 0, .int 0, .int 0]))) (mo + 5) (.inl (tb 0, 822, .inl (fun _ => 0)))) mo (.inr (8, [.ref (mo + 1), .int 0, .ref (mo + 2), .ref (mo + 3), .ref (mo + 4), .int 0, .ref (mo + 5), .int 0, .null, .null, .null, .int 0, .null, .int 0, .int 0, .int 0, .int 0, .int 0, .int 0, .int 0, .int 0, .int 0, .int 0]))) (mo + 6) (.inl (tb 0, 6, .inl (fun _ => 0)))) mo (.inr (8, [.ref (mo + 1), .int 0, .ref (mo + 2), .ref (mo + 3), .ref (mo + 4), .int 0, .ref (mo + 5), .int 0, .ref (mo + 6), .null, .null, .int 0, .null, .int 0, .int 0, .int 0, .int 0, .int 0, .int 0, .int 0, .int 0, .int 0, .int 0]))) (mo + 7) (.inl (tb 0, 8, .inl (fun _ => 0)))) mo (.inr (8, [.ref (mo + 1), .int 0, .ref (mo + 2), .ref (mo + 3), .ref (mo + 4), .int 0, .ref (mo + 5), .int 0, .ref (mo + 6), .ref (mo + 7), .null, .int 0, .null, .int 0, .int 0, .int 0, .int 0, .int 0, .int 0, .int 0, .int 0, .int 0, .int 0]))) (mo + 8) (.inl (tb 1, 700, .inl (fun _ => 0)))) mo (.inr (8, [.ref (mo + 1), .int 0, .ref (mo + 2), .ref (mo + 3), .ref (mo + 4), .int 0, .ref (mo + 5), .int 0, .ref (mo + 6), .ref (mo + 7), .ref (mo + 8), .int 0, .null, .int 0, .int 0, .int 0, .int 0, .int 0, .int 0, .int 0, .int 0, .int 0, .int 0]))) (mo + 9) (.inl (tb 1, 40, .inl (fun _ => 0)))) hC hM w_336 rfl (fun _ => rfl) (by decide) (by decide) (by decide) (Nat.le_of_ble_eq_true rfl) (Nat.le_of_ble_eq_true rfl) rfl dX8_init_607 (fun H hM => ?_)
  refine fp_X8_35 hC hM hnm ((me_up_n (by omega)).trans (me_up_s _ _ _)) (Nat.le_of_ble_eq_true rfl) (M2 := me_up (me_up (me_up (me_up (me_up (me_up (me_up (me_up (me_up (me_up (me_up (me_up (me_up (me_up (me_up (me_up (me_up (me_up (me_up M0 mo (.inr (8, [.null, .int 0, .null, .null, .null, .int 0, .null, .int 0, .null, .null, .null, .int 0, .null, .int 0, .int 0, .int 0, .int 0, .int 0, .int 0, .int 0, .int 0, .int 0, .int 0]))) (mo + 1) (.inl (tb 0, 96, .inl (kyP 96)))) mo (.inr (8, [.ref (mo + 1), .int 0, .null, .null, .null, .int 0, .null, .int 0, .null, .null, .null, .int 0, .null, .int 0, .int 0, .int 0, .int 0, .int 0, .int 0, .int 0, .int 0, .int 0, .int 0]))) (mo + 2) (.inl (tb 0, 411, .inl (fun _ => 0)))) mo (.inr (8, [.ref (mo + 1), .int 0, .ref (mo + 2), .null, .null, .int 0, .null, .int 0, .null, .null, .null, .int 0, .null, .int 0, .int 0, .int 0, .int 0, .int 0, .int 0, .int 0, .int 0, .int 0, .int 0]))) (mo + 3) (.inl (tb 0, 411, .inl (fun _ => 0)))) mo (.inr (8, [.ref (mo + 1), .int 0, .ref (mo + 2), .ref (mo + 3), .null, .int 0, .null, .int 0, .null, .null, .null, .int 0, .null, .int 0, .int 0, .int 0, .int 0, .int 0, .int 0, .int 0, .int 0, .int 0, .int 0]))) (mo + 4) (.inl (tb 0, 4110, .inl (fun _ => 0)))) mo (.inr (8, [.ref (mo + 1), .int 0, .ref (mo + 2), .ref (mo + 3), .ref (mo + 4), .int 0, .null, .int 0, .null, .null, .null, .int 0, .null, .int 0, .int 0, .int 0, .int 0, .int 0, .int 0, .int 0, .int 0, .int 0, .int 0]))) (mo + 5) (.inl (tb 0, 822, .inl (fun _ => 0)))) mo (.inr (8, [.ref (mo + 1), .int 0, .ref (mo + 2), .ref (mo + 3), .ref (mo + 4), .int 0, .ref (mo + 5), .int 0, .null, .null, .null, .int 0, .null, .int 0, .int 0, .int 0, .int 0, .int 0, .int 0, .int 0, .int 0, .int 0, .int 0]))) (mo + 6) (.inl (tb 0, 6, .inl (fun _ => 0)))) mo (.inr (8, [.ref (mo + 1), .int 0, .ref (mo + 2), .ref (mo + 3), .ref (mo + 4), .int 0, .ref (mo + 5), .int 0, .ref (mo + 6), .null, .null, .int 0, .null, .int 0, .int 0, .int 0, .int 0, .int 0, .int 0, .int 0, .int 0, .int 0, .int 0]))) (mo + 7) (.inl (tb 0, 8, .inl (fun _ => 0)))) mo (.inr (8, [.ref (mo + 1), .int 0, .ref (mo + 2), .ref (mo + 3), .ref (mo + 4), .int 0, .ref (mo + 5), .int 0, .ref (mo + 6), .ref (mo + 7), .null, .int 0, .null, .int 0, .int 0, .int 0, .int 0, .int 0, .int 0, .int 0, .int 0, .int 0, .int 0]))) (mo + 8) (.inl (tb 1, 700, .inl (fun _ => 0)))) mo (.inr (8, [.ref (mo + 1), .int 0, .ref (mo + 2), .ref (mo + 3), .ref (mo + 4), .int 0, .ref (mo + 5), .int 0, .ref (mo + 6), .ref (mo + 7), .ref (mo + 8), .int 0, .null, .int 0, .int 0, .int 0, .int 0, .int 0, .int 0, .int 0, .int 0, .int 0, .int 0]))) (mo + 9) (.inl (tb 1, 40, .inl (fun _ => 0)))) mo (.inr (8, [.ref (mo + 1), .int 0, .ref (mo + 2), .ref (mo + 3), .ref (mo + 4), .int 0, .ref (mo + 5), .int 0, .ref (mo + 6), .ref (mo + 7), .ref (mo + 8), .int 0, .ref (mo + 9), .int 0, .int 0, .int 0, .int 0, .int 0, .int 0, .int 0, .int 0, .int 0, .int 0]))) rfl dX8_init_609 (fun H locs hM => ?_)
  have hM := hM.eq (M2 := mq tb mo zz zz zz zz zz zz zz zz zz M0) mq_start
  refine lv_aload_n hx hb dX8_init_612 rfl (lv_at hl 0 rfl) ?_
  refine lv_iconst (v := (-1)) hx hb dX8_init_613 (by decide) ?_
  refine fp_X8_38 hC hM mq_F (Nat.le_of_ble_eq_true rfl) (M2 := mq tb mo (upd zz 6 (-1)) zz zz zz zz zz zz zz zz M0) (mq_wF (i := 6) (by simp [upd])) dX8_init_614 (fun H locs hM => ?_)
  refine lv_aload_n hx hb dX8_init_617 rfl (lv_at hl 0 rfl) ?_
  refine fg_X8_13 hC hM mq_F rfl dX8_init_618 ?_
  refine lv_iconst (v := 0) hx hb dX8_init_621 (by decide) ?_
  refine lv_iconst (v := 2) hx hb dX8_init_622 (by decide) ?_
  refine me_iast (k := 0) (M2 := mq tb mo (upd zz 6 (-1)) (upd zz 0 2) zz zz zz zz zz zz zz M0) hC hM mq_w (show (0 : Int32) = nI 0 from rfl) (by omega) (by decide) mq_w_w dX8_init_623 (fun H locs hM => ?_)
  refine lv_aload_n hx hb dX8_init_624 rfl (lv_at hl 0 rfl) ?_
  refine fg_X8_13 hC hM mq_F rfl dX8_init_625 ?_
  refine lv_iconst (v := 1) hx hb dX8_init_628 (by decide) ?_
  refine lv_iconst (v := 5) hx hb dX8_init_629 (by decide) ?_
  refine me_iast (k := 1) (M2 := mq tb mo (upd zz 6 (-1)) (upd (upd zz 0 2) 1 5) zz zz zz zz zz zz zz M0) hC hM mq_w (show (1 : Int32) = nI 1 from rfl) (by omega) (by decide) mq_w_w dX8_init_630 (fun H locs hM => ?_)
  have hM := hM.eq (M2 := mq tb mo (upd zz 6 (-1)) iw1 zz zz zz zz zz zz zz M0) rfl
  refine lv_aload_n hx hb dX8_init_631 rfl (lv_at hl 0 rfl) ?_
  refine lv_bipush (v := 7) hx hb dX8_init_632 (by decide) ?_
  refine me_stk (st2 := [.int (nI 7), .ref mo]) (by rw [(nx_c 7)]) ?_
  refine me_callVv (As := [.int (nI 7)]) (rest := []) hC hl.1 hM (c_X8_spellsKey l D tb X z0 (mo + 10) mo (upd zz 6 (-1)) iw1 zz zz zz zz zz zz zz M0 7 (by omega)) (kv_X8_42 hw rfl rfl ⟨Nat.le_of_ble_eq_true rfl, Nat.le_of_ble_eq_true rfl⟩) rfl rfl mq_F rfl (Nat.le_of_ble_eq_true rfl) dX8_init_634 ⟨Nat.le_of_ble_eq_true rfl, Nat.le_of_ble_eq_true rfl⟩ (fun H locs hM => ?_)
  have hM := hM.eq (M2 := mq tb mo (upd zz 6 (-1)) iw1 zz zz zz isA zz zz zz M0) rfl
  refine lv_aload_n hx hb dX8_init_637 rfl (lv_at hl 0 rfl) ?_
  refine lv_bipush (v := 60) hx hb dX8_init_638 (by decide) ?_
  refine lv_bipush (v := 20) hx hb dX8_init_640 (by decide) ?_
  refine me_callVv (As := [.int 60, .int 20]) (rest := []) hC hl.1 hM (c_X8_builds l D tb X z0 (mo + 10) mo (upd zz 6 (-1)) iw1 zz zz zz isA zz zz zz M0 0 60 20 oi_1.1.1 (by omega)) (kv_X8_46 hw rfl rfl ⟨Nat.le_of_ble_eq_true rfl, Nat.le_of_ble_eq_true rfl⟩) rfl rfl mq_F rfl (Nat.le_of_ble_eq_true rfl) dX8_init_642 ⟨Nat.le_of_ble_eq_true rfl, Nat.le_of_ble_eq_true rfl⟩ (fun H locs hM => ?_)
  have hM := hM.eq (M2 := mq tb mo (upd zz 6 (-1)) iwA zz zz zz isA zz zz zz M0) rfl
  refine lv_aload_n hx hb dX8_init_645 rfl (lv_at hl 0 rfl) ?_
  refine lv_bipush (v := 8) hx hb dX8_init_646 (by decide) ?_
  refine me_stk (st2 := [.int (nI 8), .ref mo]) (by rw [(nx_c 8)]) ?_
  refine me_callVv (As := [.int (nI 8)]) (rest := []) hC hl.1 hM (c_X8_spellsKey l D tb X z0 (mo + 10) mo (upd zz 6 (-1)) iwA zz zz zz isA zz zz zz M0 8 (by omega)) (kv_X8_42 hw rfl rfl ⟨Nat.le_of_ble_eq_true rfl, Nat.le_of_ble_eq_true rfl⟩) rfl rfl mq_F rfl (Nat.le_of_ble_eq_true rfl) dX8_init_648 ⟨Nat.le_of_ble_eq_true rfl, Nat.le_of_ble_eq_true rfl⟩ (fun H locs hM => ?_)
  have hM := hM.eq (M2 := mq tb mo (upd zz 6 (-1)) iwA zz zz zz isB zz zz zz M0) rfl
  refine lv_aload_n hx hb dX8_init_651 rfl (lv_at hl 0 rfl) ?_
  refine lv_bipush (v := 85) hx hb dX8_init_652 (by decide) ?_
  refine lv_bipush (v := 50) hx hb dX8_init_654 (by decide) ?_
  refine me_callVv (As := [.int 85, .int 50]) (rest := []) hC hl.1 hM (c_X8_builds l D tb X z0 (mo + 10) mo (upd zz 6 (-1)) iwA zz zz zz isB zz zz zz M0 1 85 50 oi_A.1.1 (by omega)) (kv_X8_46 hw rfl rfl ⟨Nat.le_of_ble_eq_true rfl, Nat.le_of_ble_eq_true rfl⟩) rfl rfl mq_F rfl (Nat.le_of_ble_eq_true rfl) dX8_init_656 ⟨Nat.le_of_ble_eq_true rfl, Nat.le_of_ble_eq_true rfl⟩ (fun H locs hM => ?_)
  have hM := hM.eq (M2 := mq tb mo (upd zz 6 (-1)) iwB zz zz zz isB zz zz zz M0) rfl
  refine lv_aload_n hx hb dX8_init_659 rfl (lv_at hl 0 rfl) ?_
  refine lv_bipush (v := 9) hx hb dX8_init_660 (by decide) ?_
  refine me_stk (st2 := [.int (nI 9), .ref mo]) (by rw [(nx_c 9)]) ?_
  refine me_callVv (As := [.int (nI 9)]) (rest := []) hC hl.1 hM (c_X8_spellsKey l D tb X z0 (mo + 10) mo (upd zz 6 (-1)) iwB zz zz zz isB zz zz zz M0 9 (by omega)) (kv_X8_42 hw rfl rfl ⟨Nat.le_of_ble_eq_true rfl, Nat.le_of_ble_eq_true rfl⟩) rfl rfl mq_F rfl (Nat.le_of_ble_eq_true rfl) dX8_init_662 ⟨Nat.le_of_ble_eq_true rfl, Nat.le_of_ble_eq_true rfl⟩ (fun H locs hM => ?_)
  have hM := hM.eq (M2 := mq tb mo (upd zz 6 (-1)) iwB zz zz zz isC zz zz zz M0) rfl
  refine lv_aload_n hx hb dX8_init_665 rfl (lv_at hl 0 rfl) ?_
  refine lv_iconst (v := 0) hx hb dX8_init_666 (by decide) ?_
  refine lv_iconst (v := 3) hx hb dX8_init_667 (by decide) ?_
  refine lv_bipush (v := 40) hx hb dX8_init_668 (by decide) ?_
  refine me_callVv (As := [.int 0, .int 3, .int 40]) (rest := []) hC hl.1 hM (c_X8_comes l D tb X z0 (mo + 10) mo (upd zz 6 (-1)) iwB zz zz zz isC zz zz zz M0 0 0 3 40 oi_B.1.2.2.1 (by omega)) (kv_X8_50 hw rfl rfl ⟨Nat.le_of_ble_eq_true rfl, Nat.le_of_ble_eq_true rfl⟩) rfl rfl mq_F rfl (Nat.le_of_ble_eq_true rfl) dX8_init_670 ⟨Nat.le_of_ble_eq_true rfl, Nat.le_of_ble_eq_true rfl⟩ (fun H locs hM => ?_)
  have hM := hM.eq (M2 := mq tb mo (upd zz 6 (-1)) iwC zz zz zz isC zz zz zz M0) rfl
  refine lv_aload_n hx hb dX8_init_673 rfl (lv_at hl 0 rfl) ?_
  refine lv_bipush (v := 10) hx hb dX8_init_674 (by decide) ?_
  refine me_stk (st2 := [.int (nI 10), .ref mo]) (by rw [(nx_c 10)]) ?_
  refine me_callVv (As := [.int (nI 10)]) (rest := []) hC hl.1 hM (c_X8_spellsKey l D tb X z0 (mo + 10) mo (upd zz 6 (-1)) iwC zz zz zz isC zz zz zz M0 10 (by omega)) (kv_X8_42 hw rfl rfl ⟨Nat.le_of_ble_eq_true rfl, Nat.le_of_ble_eq_true rfl⟩) rfl rfl mq_F rfl (Nat.le_of_ble_eq_true rfl) dX8_init_676 ⟨Nat.le_of_ble_eq_true rfl, Nat.le_of_ble_eq_true rfl⟩ (fun H locs hM => ?_)
  have hM := hM.eq (M2 := mq tb mo (upd zz 6 (-1)) iwC zz zz zz isD zz zz zz M0) rfl
  refine lv_aload_n hx hb dX8_init_679 rfl (lv_at hl 0 rfl) ?_
  refine lv_iconst (v := 1) hx hb dX8_init_680 (by decide) ?_
  refine lv_bipush (v := 7) hx hb dX8_init_681 (by decide) ?_
  refine lv_bipush (v := 90) hx hb dX8_init_683 (by decide) ?_
  refine me_callVv (As := [.int 1, .int 7, .int 90]) (rest := []) hC hl.1 hM (c_X8_comes l D tb X z0 (mo + 10) mo (upd zz 6 (-1)) iwC zz zz zz isD zz zz zz M0 1 1 7 90 oi_C.1.2.2.1 (by omega)) (kv_X8_50 hw rfl rfl ⟨Nat.le_of_ble_eq_true rfl, Nat.le_of_ble_eq_true rfl⟩) rfl rfl mq_F rfl (Nat.le_of_ble_eq_true rfl) dX8_init_685 ⟨Nat.le_of_ble_eq_true rfl, Nat.le_of_ble_eq_true rfl⟩ (fun H locs hM => ?_)
  have hM := hM.eq (M2 := mq tb mo (upd zz 6 (-1)) iwD zz zz zz isD zz zz zz M0) rfl
  refine lv_aload_n hx hb dX8_init_688 rfl (lv_at hl 0 rfl) ?_
  refine lv_bipush (v := 11) hx hb dX8_init_689 (by decide) ?_
  refine me_stk (st2 := [.int (nI 11), .ref mo]) (by rw [(nx_c 11)]) ?_
  refine me_callVv (As := [.int (nI 11)]) (rest := []) hC hl.1 hM (c_X8_spellsKey l D tb X z0 (mo + 10) mo (upd zz 6 (-1)) iwD zz zz zz isD zz zz zz M0 11 (by omega)) (kv_X8_42 hw rfl rfl ⟨Nat.le_of_ble_eq_true rfl, Nat.le_of_ble_eq_true rfl⟩) rfl rfl mq_F rfl (Nat.le_of_ble_eq_true rfl) dX8_init_691 ⟨Nat.le_of_ble_eq_true rfl, Nat.le_of_ble_eq_true rfl⟩ (fun H locs hM => ?_)
  have hM := hM.eq (M2 := mq tb mo (upd zz 6 (-1)) iwD zz zz zz isE zz zz zz M0) rfl
  refine lv_aload_n hx hb dX8_init_694 rfl (lv_at hl 0 rfl) ?_
  refine lv_iconst (v := 1) hx hb dX8_init_695 (by decide) ?_
  refine lv_iconst (v := 2) hx hb dX8_init_696 (by decide) ?_
  refine lv_bipush (v := 50) hx hb dX8_init_697 (by decide) ?_
  refine me_callVv (As := [.int 1, .int 2, .int 50]) (rest := []) hC hl.1 hM (c_X8_comes l D tb X z0 (mo + 10) mo (upd zz 6 (-1)) iwD zz zz zz isE zz zz zz M0 2 1 2 50 oi_D.1.2.2.1 (by omega)) (kv_X8_50 hw rfl rfl ⟨Nat.le_of_ble_eq_true rfl, Nat.le_of_ble_eq_true rfl⟩) rfl rfl mq_F rfl (Nat.le_of_ble_eq_true rfl) dX8_init_699 ⟨Nat.le_of_ble_eq_true rfl, Nat.le_of_ble_eq_true rfl⟩ (fun H locs hM => ?_)
  have hM := hM.eq (M2 := mq tb mo (upd zz 6 (-1)) iwE zz zz zz isE zz zz zz M0) rfl
  refine lv_aload_n hx hb dX8_init_702 rfl (lv_at hl 0 rfl) ?_
  refine lv_iconst (v := 1) hx hb dX8_init_703 (by decide) ?_
  refine lv_bipush (v := 10) hx hb dX8_init_704 (by decide) ?_
  refine lv_iconst (v := 2) hx hb dX8_init_706 (by decide) ?_
  refine me_callVv (As := [.int 1, .int 10, .int 2]) (rest := []) hC hl.1 hM (c_X8_permits l D tb X z0 (mo + 10) mo (upd zz 6 (-1)) iwE zz zz zz isE zz zz zz M0 2 3 0 0 1 10 2 oi_E.1 (by omega)) (kv_X8_54 hw rfl rfl ⟨Nat.le_of_ble_eq_true rfl, Nat.le_of_ble_eq_true rfl⟩) rfl rfl mq_F rfl (Nat.le_of_ble_eq_true rfl) dX8_init_707 ⟨Nat.le_of_ble_eq_true rfl, Nat.le_of_ble_eq_true rfl⟩ (fun H locs hM => ?_)
  have hM := hM.eq (M2 := mq tb mo (upd zz 6 (-1)) iwP zz zz zz isE zz zz zz M0) rfl
  refine lv_aload_n hx hb dX8_init_710 rfl (lv_at hl 0 rfl) ?_
  refine lv_iconst (v := 0) hx hb dX8_init_711 (by decide) ?_
  refine lv_iconst (v := 4) hx hb dX8_init_712 (by decide) ?_
  refine lv_iconst (v := 2) hx hb dX8_init_713 (by decide) ?_
  refine me_stk (st2 := [.int (nI 2), .int (nI 4), .int (nI 0), .ref mo]) (by rw [(show (0 : Int32) = nI 0 from rfl), (nx_c 4), (nx_c 2)]) ?_
  refine me_callVv (As := [.int (nI 0), .int (nI 4), .int (nI 2)]) (rest := []) hC hl.1 hM (c_X8_lends l D tb X z0 (mo + 10) mo (upd zz 6 (-1)) iwP zz zz zz isE zz zz zz M0 2 3 0 1 0 0 4 2 oi_P (by omega) (by omega)) (kv_X8_57 hw rfl rfl ⟨Nat.le_of_ble_eq_true rfl, Nat.le_of_ble_eq_true rfl⟩) rfl rfl mq_F rfl (Nat.le_of_ble_eq_true rfl) dX8_init_714 ⟨Nat.le_of_ble_eq_true rfl, Nat.le_of_ble_eq_true rfl⟩ (fun H locs hM => ?_)
  have hM := hM.eq (M2 := mq tb mo (upd zz 6 (-1)) iwL zz zz zz isE zz zz zz M0) rfl
  refine lv_aload_n hx hb dX8_init_717 rfl (lv_at hl 0 rfl) ?_
  refine lv_iconst (v := 1) hx hb dX8_init_718 (by decide) ?_
  refine lv_bipush (v := 6) hx hb dX8_init_719 (by decide) ?_
  refine lv_iconst (v := 3) hx hb dX8_init_721 (by decide) ?_
  refine me_stk (st2 := [.int (nI 3), .int (nI 6), .int (nI 1), .ref mo]) (by rw [(show (1 : Int32) = nI 1 from rfl), (nx_c 6), (nx_c 3)]) ?_
  refine me_callVv (As := [.int (nI 1), .int (nI 6), .int (nI 3)]) (rest := []) hC hl.1 hM (c_X8_lends l D tb X z0 (mo + 10) mo (upd zz 6 (-1)) iwL zz zz zz isE zz zz zz M0 2 3 1 1 0 1 6 3 oi_L (by omega) (by omega)) (kv_X8_57 hw rfl rfl ⟨Nat.le_of_ble_eq_true rfl, Nat.le_of_ble_eq_true rfl⟩) rfl rfl mq_F rfl (Nat.le_of_ble_eq_true rfl) dX8_init_722 ⟨Nat.le_of_ble_eq_true rfl, Nat.le_of_ble_eq_true rfl⟩ (fun H locs hM => ?_)
  have hM := hM.eq (M2 := mq tb mo (upd zz 6 (-1)) iwM zz zz zz isE zz zz zz M0) rfl
  refine lv_aload_n hx hb dX8_init_725 rfl (lv_at hl 0 rfl) ?_
  refine lv_iconst (v := 5) hx hb dX8_init_726 (by decide) ?_
  refine me_stk (st2 := [.int (nI 5), .ref mo]) (by rw [(nx_c 5)]) ?_
  refine me_callVi (As := [.int (nI 5)]) (rest := []) hC hl.1 hM (c_X8_passes l D tb X z0 (mo + 10) mo (upd zz 6 (-1)) iwM zz zz zz isE zz zz zz M0 2 3 2 1 0 5 oi_M (by omega)) (kv_X8_60 hw rfl rfl ⟨Nat.le_of_ble_eq_true rfl, Nat.le_of_ble_eq_true rfl⟩) rfl rfl mq_F rfl (Nat.le_of_ble_eq_true rfl) dX8_init_727 ⟨Nat.le_of_ble_eq_true rfl, Nat.le_of_ble_eq_true rfl⟩ (fun H locs hM => ?_)
  have hM := hM.eq (M2 := mq tb mo (upd zz 6 (-1)) iwZ.1 zz zz zz isE iwZ.2 zz zz M0) rfl
  refine lv_istore_n (lv' := [(1, .int (nI (mpN 2 3 2 1 5 (iwM, zz)))), (0, .ref mo)]) hx hb dX8_init_730 rfl hl (by decide) rfl (fun ls hl => ?_)
  exact me_vret hC hr hlk hM (rfl) (rfl) dX8_init_731
