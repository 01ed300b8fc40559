theorem ku_J5_100 {R : Room} {s : State} {args : Array Value} {rm : Room} {mc ms : Nat} (hts : ∀ w ∈ ws_all, w.before args s = true) (hrc : rm.cells = mc) (hrs : rm.slots = ms) (hR : rm.frames + 1 ≤ R.frames ∧ 8 + (3 + 11) + rm.locals ≤ R.locals) (hsel : (Cond.selects RJ4 yJ5_ensureCapacityInternal_d00df yJ5_ensureCapacityInternal_d00df).before args s = true) : va_CU R s args RJ5 RJ4 RJ5 100 yJ5_ensureCapacityInternal_d00df yJ5_ensureCapacityInternal_d00df cJ5_ensureCapacityInternal_d00df 3 none (.code yJ5_ensureCapacityInternal_d00df cJ5_ensureCapacityInternal_d00df 3 none :: ws_all) rm mc ms 1 := me_cwU hts w_893 w_1290 hsel w_895 w_14 w_896 (by decide +kernel) hrc hrs hR
theorem ku_J5_104 {R : Room} {s : State} {args : Array Value} {rm : Room} {mc ms : Nat} (hts : ∀ w ∈ ws_all, w.before args s = true) (hrc : rm.cells = mc) (hrs : rm.slots = ms) (hR : rm.frames + 1 ≤ R.frames ∧ 8 + (6 + 11) + rm.locals ≤ R.locals) (hsel : (Cond.selects RJ4 yJ5_newCapacity_0f7a4 yJ5_newCapacity_0f7a4).before args s = true) : va_CU R s args RJ5 RJ4 RJ5 104 yJ5_newCapacity_0f7a4 yJ5_newCapacity_0f7a4 cJ5_newCapacity_0f7a4 6 (some .int) (.code yJ5_newCapacity_0f7a4 cJ5_newCapacity_0f7a4 6 (some .int) :: ws_all) rm mc ms 1 := me_cwU hts w_897 w_1291 hsel w_899 w_14 w_900 (by decide +kernel) hrc hrs hR
theorem ku_J5_208 {R : Room} {s : State} {args : Array Value} {rm : Room} {mc ms : Nat} (hts : ∀ w ∈ ws_all, w.before args s = true) (hrc : rm.cells = mc) (hrs : rm.slots = ms) (hR : rm.frames + 1 ≤ R.frames ∧ 8 + (3 + 11) + rm.locals ≤ R.locals) (hsel : (Cond.selects RJ4 yJ5_putStringAt_47b60 yJ5_putStringAt_47b60).before args s = true) : va_CU R s args RJ5 RJ4 RJ5 208 yJ5_putStringAt_47b60 yJ5_putStringAt_47b60 cJ5_putStringAt_47b60 3 none (.code yJ5_putStringAt_47b60 cJ5_putStringAt_47b60 3 none :: ws_all) rm mc ms 2 := me_cwU hts w_944 w_1292 hsel w_946 w_14 w_947 (by decide +kernel) hrc hrs hR
theorem ku_J5_397 {R : Room} {s : State} {args : Array Value} {rm : Room} {mc ms : Nat} (hts : ∀ w ∈ ws_all, w.before args s = true) (hrc : rm.cells = mc) (hrs : rm.slots = ms) (hR : rm.frames + 1 ≤ R.frames ∧ 8 + (2 + 11) + rm.locals ≤ R.locals) (hsel : (Cond.selects RJ4 yJ5_inflateIfNeededFor_a7421 yJ5_inflateIfNeededFor_a7421).before args s = true) : va_CU R s args RJ5 RJ4 RJ5 397 yJ5_inflateIfNeededFor_a7421 yJ5_inflateIfNeededFor_a7421 cJ5_inflateIfNeededFor_a7421 2 none (.code yJ5_inflateIfNeededFor_a7421 cJ5_inflateIfNeededFor_a7421 2 none :: ws_all) rm mc ms 1 := me_cwU hts w_948 w_1293 hsel w_950 w_14 w_951 (by decide +kernel) hrc hrs hR
theorem ku_J5_83 {R : Room} {s : State} {args : Array Value} {rm : Room} {mc ms : Nat} (hts : ∀ w ∈ ws_all, w.before args s = true) (hrc : rm.cells = mc) (hrs : rm.slots = ms) (hR : rm.frames + 1 ≤ R.frames ∧ 8 + (1 + 11) + rm.locals ≤ R.locals) (hsel : (Cond.selects RJ4 yJ5_isLatin1_aae02 yJ5_isLatin1_aae02).before args s = true) : va_CU R s args RJ5 RJ4 RJ5 83 yJ5_isLatin1_aae02 yJ5_isLatin1_aae02 cJ5_isLatin1_aae02 1 (some .boolean) (.code yJ5_isLatin1_aae02 cJ5_isLatin1_aae02 1 (some .boolean) :: ws_all) rm mc ms 0 := me_cwU hts w_923 w_925 hsel w_924 w_14 w_927 (by decide +kernel) hrc hrs hR
theorem ku_J5_43 {R : Room} {s : State} {args : Array Value} {rm : Room} {mc ms : Nat} (hts : ∀ w ∈ ws_all, w.before args s = true) (hrc : rm.cells = mc) (hrs : rm.slots = ms) (hR : rm.frames + 1 ≤ R.frames ∧ 8 + (2 + 11) + rm.locals ≤ R.locals) (hsel : (Cond.selects RJ4 (⟨"java/lang/AbstractStringBuilder","append","(Ljava/lang/String;)Ljava/lang/AbstractStringBuilder;"⟩ : MethodName) yJ4_append_cf1ce).before args s = true) : va_CU R s args RJ5 RJ4 RJ5 43 (⟨"java/lang/AbstractStringBuilder","append","(Ljava/lang/String;)Ljava/lang/AbstractStringBuilder;"⟩ : MethodName) yJ4_append_cf1ce cJ4_append_cf1ce 2 (Option.some (Jvm.ClassFile.FieldType.object "java/lang/AbstractStringBuilder")) (.code yJ4_append_cf1ce cJ4_append_cf1ce 2 (Option.some (Jvm.ClassFile.FieldType.object "java/lang/AbstractStringBuilder")) :: ws_all) rm mc ms 1 := me_cwO hts w_876 w_878 hsel w_877 w_888 w_880 w_15 w_881 (by decide +kernel) hrc hrs hR
theorem ku_J0_552 {R : Room} {s : State} {args : Array Value} {rm : Room} {mc ms : Nat} (hts : ∀ w ∈ ws_all, w.before args s = true) (hrc : rm.cells = mc) (hrs : rm.slots = ms) (hR : rm.frames + 1 ≤ R.frames ∧ 8 + (1 + 11) + rm.locals ≤ R.locals) (hsel : (Cond.selects RJ4 yJ5_getValue_6d5f1 yJ5_getValue_6d5f1).before args s = true) : va_CU R s args RJ0 RJ4 RJ5 552 yJ5_getValue_6d5f1 yJ5_getValue_6d5f1 cJ5_getValue_6d5f1 1 (Option.some (Jvm.ClassFile.FieldType.array Jvm.ClassFile.FieldType.byte)) (.code yJ5_getValue_6d5f1 cJ5_getValue_6d5f1 1 (Option.some (Jvm.ClassFile.FieldType.array Jvm.ClassFile.FieldType.byte)) :: ws_all) rm mc ms 0 := me_cwU hts w_1044 w_1046 hsel w_1045 w_14 w_1048 (by decide +kernel) hrc hrs hR
theorem ku_J0_549 {R : Room} {s : State} {args : Array Value} {rm : Room} {mc ms : Nat} (hts : ∀ w ∈ ws_all, w.before args s = true) (hrc : rm.cells = mc) (hrs : rm.slots = ms) (hR : rm.frames + 1 ≤ R.frames ∧ 8 + (1 + 11) + rm.locals ≤ R.locals) (hsel : (Cond.selects RJ4 (⟨"java/lang/AbstractStringBuilder","length","()I"⟩ : MethodName) yJ4_length_8abf5).before args s = true) : va_CU R s args RJ0 RJ4 RJ5 549 (⟨"java/lang/AbstractStringBuilder","length","()I"⟩ : MethodName) yJ4_length_8abf5 cJ4_length_8abf5 1 (some .int) (.code yJ4_length_8abf5 cJ4_length_8abf5 1 (some .int) :: ws_all) rm mc ms 0 := me_cwO hts w_1049 w_1051 hsel w_1050 w_1056 w_1053 w_15 w_1054 (by decide +kernel) hrc hrs hR
theorem ku_J0_1047 {R : Room} {s : State} {args : Array Value} {rm : Room} {mc ms : Nat} (hts : ∀ w ∈ ws_all, w.before args s = true) (hrc : rm.cells = mc) (hrs : rm.slots = ms) (hR : rm.frames + 1 ≤ R.frames ∧ 8 + (1 + 11) + rm.locals ≤ R.locals) (hsel : (Cond.selects RJ4 yJ5_isLatin1_aae02 yJ5_isLatin1_aae02).before args s = true) : va_CU R s args RJ0 RJ4 RJ5 1047 yJ5_isLatin1_aae02 yJ5_isLatin1_aae02 cJ5_isLatin1_aae02 1 (some .boolean) (.code yJ5_isLatin1_aae02 cJ5_isLatin1_aae02 1 (some .boolean) :: ws_all) rm mc ms 0 := me_cwU hts w_1057 w_925 hsel w_924 w_14 w_927 (by decide +kernel) hrc hrs hR
theorem kz_J4_50 {R : Room} {s : State} {args : Array Value} {rm : Room} {mc ms : Nat} (hts : ∀ w ∈ ws_all, w.before args s = true) (hrc : rm.cells = mc) (hrs : rm.slots = ms) (hR : rm.frames + 1 ≤ R.frames ∧ 8 + (2 + 11) + rm.locals ≤ R.locals) : va_CS R s args RJ4 50 yJ5_append_3fe6f cJ5_append_3fe6f 2 (Option.some (Jvm.ClassFile.FieldType.object "java/lang/AbstractStringBuilder")) (.code yJ5_append_3fe6f cJ5_append_3fe6f 2 (Option.some (Jvm.ClassFile.FieldType.object "java/lang/AbstractStringBuilder")) :: ws_all) rm mc ms 1 := me_cwSU hts w_1018 w_1296 w_887 w_1019 w_14 w_1020 (by decide +kernel) hrc hrs hR
theorem kz_J4_53 {R : Room} {s : State} {args : Array Value} {rm : Room} {mc ms : Nat} (hts : ∀ w ∈ ws_all, w.before args s = true) (hrc : rm.cells = mc) (hrs : rm.slots = ms) (hR : rm.frames + 1 ≤ R.frames ∧ 8 + (4 + 11) + rm.locals ≤ R.locals) : va_CS R s args RJ4 53 yJ5_append_c97b9 cJ5_append_c97b9 4 (Option.some (Jvm.ClassFile.FieldType.object "java/lang/AbstractStringBuilder")) (.code yJ5_append_c97b9 cJ5_append_c97b9 4 (Option.some (Jvm.ClassFile.FieldType.object "java/lang/AbstractStringBuilder")) :: ws_all) rm mc ms 1 := me_cwSU hts w_993 w_1295 w_887 w_994 w_14 w_995 (by decide +kernel) hrc hrs hR
theorem kz_J4_29 {R : Room} {s : State} {args : Array Value} {rm : Room} {mc ms : Nat} (hts : ∀ w ∈ ws_all, w.before args s = true) (hrc : rm.cells = mc) (hrs : rm.slots = ms) (hR : rm.frames + 1 ≤ R.frames ∧ 8 + (3 + 11) + rm.locals ≤ R.locals) : va_CS R s args RJ4 29 yJ5_append_cf1ce cJ5_append_cf1ce 3 (Option.some (Jvm.ClassFile.FieldType.object "java/lang/AbstractStringBuilder")) (.code yJ5_append_cf1ce cJ5_append_cf1ce 3 (Option.some (Jvm.ClassFile.FieldType.object "java/lang/AbstractStringBuilder")) :: ws_all) rm mc ms 1 := me_cwSU hts w_886 w_878 w_887 w_877 w_14 w_888 (by decide +kernel) hrc hrs hR
theorem kz_J4_343 {R : Room} {s : State} {args : Array Value} {rm : Room} {mc ms : Nat} (hts : ∀ w ∈ ws_all, w.before args s = true) (hrc : rm.cells = mc) (hrs : rm.slots = ms) (hR : rm.frames + 1 ≤ R.frames ∧ 8 + (1 + 11) + rm.locals ≤ R.locals) : va_CS R s args RJ4 343 yJ5_length_8abf5 cJ5_length_8abf5 1 (some .int) (.code yJ5_length_8abf5 cJ5_length_8abf5 1 (some .int) :: ws_all) rm mc ms 0 := me_cwSU hts w_1055 w_1051 w_887 w_1050 w_14 w_1056 (by decide +kernel) hrc hrs hR
set_option maxHeartbeats 4000000 in
theorem c_J5_isLatin1_aae02 (l : Launch) (D : va_G) (tb : Nat → ClassId) (X : State → Prop) (z0 n : Nat) (kK kV : Nat → Nat) (b v cap k : Nat) (f : Nat → Int32) (M : me_M)  (hKS : ∀ U, X U → me_ks kK kV z0 U) (hbv : b < v) : Met l yJ5_isLatin1_aae02 (.code yJ5_isLatin1_aae02 cJ5_isLatin1_aae02 1 (some .boolean) :: ws_all) ({ frames := 0, cells := 0, slots := 0, locals := 0 } : Room) (me_Pc [.ref b] D tb X z0 (sbV tb M b v cap k f) n) (me_Qi D z0 1 (sbV tb M b v cap k f) n) 0 0 (me_A z0) := by
  refine me_open (by decide) (Nat.le_of_ble_eq_true rfl) ?_
  intro p e s m args below meth c ls hC hr hlk hnm hM hl
  have hl : lv_has ls 1 [(0, .ref b)] := hl
  have hx := hC.1
  have hb := hC.2.1
  have hw := hC.2.2.2.2.1
  refine va_gets hx hb (hKS s hC.2.2.2.2.2.1.2).2.1 hM.2.2.2.2 hC.2.2.2.1 (hw _ w_928) (fun _ h => h) dJ5_isLatin1_aae02_0 ?_
  refine lv_if_eq (tgt := 17) hx hb dJ5_isLatin1_aae02_3 (by decide) (fun c_1 => ?_) (fun c_1 => ?_)
  · exact absurd c_1 (by decide)
  · refine lv_aload_n hx hb dJ5_isLatin1_aae02_6 rfl (lv_at hl 0 rfl) ?_
    refine fg_J5_22 hC hM (sb_o (by omega)) rfl dJ5_isLatin1_aae02_7 ?_
    refine lv_if_ne (tgt := 17) hx hb dJ5_isLatin1_aae02_10 (by decide) (fun c_2 => ?_) (fun c_2 => ?_)
    · exact absurd c_2 (by decide)
    · refine lv_iconst (v := 1) hx hb dJ5_isLatin1_aae02_13 (by decide) ?_
      refine lv_goto (tgt := 18) hx hb dJ5_isLatin1_aae02_14 (by decide) ?_
      exact me_zret hC hr hlk hM (by first | rfl | simp [c_1, c_2]) (by first | decide | simp) (rfl) (rfl) dJ5_isLatin1_aae02_18
set_option maxHeartbeats 4000000 in
theorem c_J1_canEncode_fc78d (l : Launch) (D : va_G) (tb : Nat → ClassId) (X : State → Prop) (z0 n : Nat) (M : me_M) (w : Nat)  (hw9 : w < 256) : Met l yJ1_canEncode_fc78d (.code yJ1_canEncode_fc78d cJ1_canEncode_fc78d 1 (some .boolean) :: ws_all) ({ frames := 0, cells := 0, slots := 0, locals := 0 } : Room) (me_Pc [.int (nI w)] D tb X z0 (M) n) (me_Qi D z0 1 (M) n) 0 0 (me_A z0) := by
  refine me_open (by decide) (Nat.le_of_ble_eq_true rfl) ?_
  intro p e s m args below meth c ls hC hr hlk hnm hM hl
  have hl : lv_has ls 1 [(0, .int (nI w))] := hl
  have hx := hC.1
  have hb := hC.2.1
  have hw := hC.2.2.2.2.1
  refine lv_iload_n hx hb dJ1_canEncode_fc78d_0 rfl (lv_at hl 0 rfl) ?_
  refine lv_sipush (v := 255) hx hb dJ1_canEncode_fc78d_1 (by decide) ?_
  refine lv_icmp_gt (tgt := 11) hx hb dJ1_canEncode_fc78d_4 (by decide) (fun c_1 => ?_) (fun c_1 => ?_)
  · have c_1 := (br_lt (nx_c 255) rfl (by omega) (by omega)).mp c_1
    exfalso; omega
  · have c_1 := (not_congr (br_lt (nx_c 255) rfl (by omega) (by omega))).mp c_1
    refine lv_iconst (v := 1) hx hb dJ1_canEncode_fc78d_7 (by decide) ?_
    refine lv_goto (tgt := 12) hx hb dJ1_canEncode_fc78d_8 (by decide) ?_
    exact me_zret hC hr hlk hM (by first | rfl | simp [c_1]) (by first | decide | simp) (rfl) (rfl) dJ1_canEncode_fc78d_12
set_option maxHeartbeats 4000000 in
theorem c_J8_newLength_cabcc (l : Launch) (D : va_G) (tb : Nat → ClassId) (X : State → Prop) (z0 n : Nat) (M : me_M) (cap q : Nat)  (hq1 : cap < q) (hq2 : q ≤ 2 * cap + 2) (hcap : cap ≤ 98) : Met l yJ8_newLength_cabcc (.code yJ8_newLength_cabcc cJ8_newLength_cabcc 4 (some .int) :: ws_all) ({ frames := 1, cells := 0, slots := 0, locals := 21 } : Room) (me_Pc [.int (nI cap), .int (nI (q - cap)), .int (nI (cap + 2))] D tb X z0 (M) n) (me_Qi D z0 (nI (2 * cap + 2)) (M) n) 0 0 (me_A z0) := by
  refine me_open (by decide) (Nat.le_of_ble_eq_true rfl) ?_
  intro p e s m args below meth c ls hC hr hlk hnm hM hl
  have hl : lv_has ls 4 [(0, .int (nI cap)), (1, .int (nI (q - cap))), (2, .int (nI (cap + 2)))] := hl
  have hx := hC.1
  have hb := hC.2.1
  have hw := hC.2.2.2.2.1
  have hmx : (if nI (q - cap) < nI (cap + 2) then nI (cap + 2) else nI (q - cap)) = nI (cap + 2) := by
    by_cases h : q - cap < cap + 2
    · rw [if_pos ((nI_ltI (by omega) (by omega)).mpr h)]
    · rw [if_neg (fun z => h ((nI_ltI (by omega) (by omega)).mp z))]; congr 1; omega
  refine lv_iload_n hx hb dJ8_newLength_cabcc_0 rfl (lv_at hl 0 rfl) ?_
  refine lv_iload_n hx hb dJ8_newLength_cabcc_1 rfl (lv_at hl 1 rfl) ?_
  refine lv_iload_n hx hb dJ8_newLength_cabcc_2 rfl (lv_at hl 2 rfl) ?_
  refine va_mmax hx hb (hC.2.2.1.trans hl.1.symm) hC.2.2.2.1 (hw _ w_904) (hw _ w_513) (hw _ w_13) (hw _ w_514) (Nat.le_of_ble_eq_true rfl) (Nat.le_of_ble_eq_true rfl) (by first | omega | exact Nat.le_of_ble_eq_true rfl) (by first | omega | exact Nat.le_of_ble_eq_true rfl | (show 0 ≤ 0; omega)) dJ8_newLength_cabcc_3 ?_
  refine lv_iadd hx hb dJ8_newLength_cabcc_6 ?_
  refine lv_istore_n (lv' := [(3, .int ((nI cap) + (if nI (q - cap) < nI (cap + 2) then nI (cap + 2) else nI (q - cap)))), (0, .int (nI cap)), (1, .int (nI (q - cap))), (2, .int (nI (cap + 2)))]) hx hb dJ8_newLength_cabcc_7 rfl hl (by decide) rfl (fun ls hl => ?_)
  refine lv_iconst (v := 0) hx hb dJ8_newLength_cabcc_8 (by decide) ?_
  refine lv_iload_n hx hb dJ8_newLength_cabcc_9 rfl (lv_at hl 0 rfl) ?_
  refine lv_icmp_ge (tgt := 21) hx hb dJ8_newLength_cabcc_10 (by decide) (fun c_1 => ?_) (fun c_1 => ?_)
  · have c_1 := (br_le (nx_add rfl hmx) (show (0 : Int32) = nI 0 from rfl) (by omega) (by omega)).mp c_1
    exfalso; omega
  · have c_1 := (not_congr (br_le (nx_add rfl hmx) (show (0 : Int32) = nI 0 from rfl) (by omega) (by omega))).mp c_1
    refine lv_iload_n hx hb dJ8_newLength_cabcc_13 rfl (lv_at hl 0 rfl) ?_
    refine lv_ldc (v := 2147483639) hx hb hC.2.2.2.1 (hw _ w_905) dJ8_newLength_cabcc_14 ?_
    refine lv_icmp_gt (tgt := 21) hx hb dJ8_newLength_cabcc_16 (by decide) (fun c_2 => ?_) (fun c_2 => ?_)
    · have c_2 := (br_lt (nx_c 2147483639) (nx_add rfl hmx) (by omega) (by omega)).mp c_2
      exfalso; omega
    · have c_2 := (not_congr (br_lt (nx_c 2147483639) (nx_add rfl hmx) (by omega) (by omega))).mp c_2
      refine lv_iload_n hx hb dJ8_newLength_cabcc_19 rfl (lv_at hl 0 rfl) ?_
      exact me_iret hC hr hlk hM ((nx_add rfl hmx).trans (congrArg nI (by omega))) (rfl) (rfl) dJ8_newLength_cabcc_20
set_option maxHeartbeats 4000000 in
theorem c_J5_newCapacity_0f7a4 (l : Launch) (D : va_G) (tb : Nat → ClassId) (X : State → Prop) (z0 n : Nat) (b v cap k q : Nat) (f : Nat → Int32) (M : me_M)  (hbv : b < v) (hq1 : cap < q) (hq2 : q ≤ 2 * cap + 2) (hcap : cap ≤ 98) : Met l yJ5_newCapacity_0f7a4 (.code yJ5_newCapacity_0f7a4 cJ5_newCapacity_0f7a4 6 (some .int) :: ws_all) ({ frames := 2, cells := 0, slots := 0, locals := 44 } : Room) (me_Pc [.ref b, .int (nI q)] D tb X z0 (sbV tb M b v cap k f) n) (me_Qi D z0 (nI (2 * cap + 2)) (sbV tb M b v cap k f) n) 0 0 (me_A z0) := by
  refine me_open (by decide) (Nat.le_of_ble_eq_true rfl) ?_
  intro p e s m args below meth c ls hC hr hlk hnm hM hl
  have hl : lv_has ls 6 [(0, .ref b), (1, .int (nI q))] := hl
  have hx := hC.1
  have hb := hC.2.1
  have hw := hC.2.2.2.2.1
  refine lv_aload_n hx hb dJ5_newCapacity_0f7a4_0 rfl (lv_at hl 0 rfl) ?_
  refine fg_J5_15 hC hM (sb_o (by omega)) rfl dJ5_newCapacity_0f7a4_1 ?_
  refine me_alen (t0 := 1) hC hM sb_a rfl dJ5_newCapacity_0f7a4_4 ?_
  refine lv_istore_n (lv' := [(2, .int (nI cap)), (0, .ref b), (1, .int (nI q))]) hx hb dJ5_newCapacity_0f7a4_5 rfl hl (by decide) rfl (fun ls hl => ?_)
  refine lv_iload_n hx hb dJ5_newCapacity_0f7a4_6 rfl (lv_at hl 2 rfl) ?_
  refine lv_aload_n hx hb dJ5_newCapacity_0f7a4_7 rfl (lv_at hl 1 rfl) ?_
  refine fg_J5_22 hC hM (sb_o (by omega)) rfl dJ5_newCapacity_0f7a4_8 ?_
  refine lv_ishl hx hb dJ5_newCapacity_0f7a4_11 ?_
  refine me_evi (y := nI q) (sb_shl0 _) ?_
  refine lv_istore_n (lv' := [(3, .int (nI q)), (2, .int (nI cap)), (0, .ref b), (1, .int (nI q))]) hx hb dJ5_newCapacity_0f7a4_12 rfl hl (by decide) rfl (fun ls hl => ?_)
  refine lv_iload_n hx hb dJ5_newCapacity_0f7a4_13 rfl (lv_at hl 0 rfl) ?_
  refine lv_iload_n hx hb dJ5_newCapacity_0f7a4_14 rfl (lv_at hl 1 rfl) ?_
  refine lv_isub hx hb dJ5_newCapacity_0f7a4_15 ?_
  refine lv_istore (lv' := [(4, .int ((nI q) - (nI cap))), (3, .int (nI q)), (2, .int (nI cap)), (0, .ref b), (1, .int (nI q))]) hx hb dJ5_newCapacity_0f7a4_16 hl (by decide) rfl (fun ls hl => ?_)
  refine lv_iload_n hx hb dJ5_newCapacity_0f7a4_18 rfl (lv_at hl 2 rfl) ?_
  refine lv_iload hx hb dJ5_newCapacity_0f7a4_19 (lv_at hl 0 rfl) ?_
  refine lv_iload_n hx hb dJ5_newCapacity_0f7a4_21 rfl (lv_at hl 2 rfl) ?_
  refine lv_iconst (v := 2) hx hb dJ5_newCapacity_0f7a4_22 (by decide) ?_
  refine lv_aload_n hx hb dJ5_newCapacity_0f7a4_23 rfl (lv_at hl 3 rfl) ?_
  refine fg_J5_22 hC hM (sb_o (by omega)) rfl dJ5_newCapacity_0f7a4_24 ?_
  refine lv_ishl hx hb dJ5_newCapacity_0f7a4_27 ?_
  refine me_evi (y := 2) (sb_shl0 _) ?_
  refine lv_iadd hx hb dJ5_newCapacity_0f7a4_28 ?_
  refine me_stk (st2 := [.int (nI (cap + 2)), .int (nI (q - cap)), .int (nI cap)]) (by rw [show nI q - nI cap = nI (q - cap) from nx_sub rfl rfl (by omega), show nI cap + 2 = nI (cap + 2) from nx_add rfl (nx_c 2)]) ?_
  refine me_callSi (As := [.int (nI cap), .int (nI (q - cap)), .int (nI (cap + 2))]) (rest := []) hC hl.1 hM (c_J8_newLength_cabcc l D tb X z0 n (sbV tb M b v cap k f) cap q (by omega) (by omega) (by omega)) (ks_J5_114 hw rfl rfl ⟨Nat.le_of_ble_eq_true rfl, Nat.le_of_ble_eq_true rfl⟩) rfl rfl (Nat.le_of_ble_eq_true rfl) dJ5_newCapacity_0f7a4_29 ⟨Nat.le_of_ble_eq_true rfl, Nat.le_of_ble_eq_true rfl⟩ (fun H locs hM => ?_)
  refine lv_istore (lv' := [(5, .int (nI (2 * cap + 2))), (4, .int ((nI q) - (nI cap))), (3, .int (nI q)), (2, .int (nI cap)), (0, .ref b), (1, .int (nI q))]) hx hb dJ5_newCapacity_0f7a4_32 hl (by decide) rfl (fun ls hl => ?_)
  refine lv_iload hx hb dJ5_newCapacity_0f7a4_34 (lv_at hl 0 rfl) ?_
  refine lv_ldc (v := 2147483647) hx hb hC.2.2.2.1 (hw _ w_867) dJ5_newCapacity_0f7a4_36 ?_
  refine lv_icmp_ne (tgt := 51) hx hb dJ5_newCapacity_0f7a4_38 (by decide) (fun c_1 => ?_) (fun c_1 => ?_)
  · have c_1 := (not_congr (br_eq rfl (nx_c 2147483647) (by omega) (by omega))).mp c_1
    refine lv_iload hx hb dJ5_newCapacity_0f7a4_51 (lv_at hl 0 rfl) ?_
    refine lv_aload_n hx hb dJ5_newCapacity_0f7a4_53 rfl (lv_at hl 4 rfl) ?_
    refine fg_J5_22 hC hM (sb_o (by omega)) rfl dJ5_newCapacity_0f7a4_54 ?_
    refine lv_ishr hx hb dJ5_newCapacity_0f7a4_57 ?_
    exact me_iret hC hr hlk hM (sb_shr0 _) (rfl) (rfl) dJ5_newCapacity_0f7a4_58
  · have c_1 := (br_eq rfl (nx_c 2147483647) (by omega) (by omega)).mp c_1
    exfalso; omega
set_option maxHeartbeats 4000000 in
theorem c_J7_copyOf_9075b (l : Launch) (D : va_G) (tb : Nat → ClassId) (X : State → Prop) (z0 n : Nat) (v cap : Nat) (f : Nat → Int32) (M : me_M)  (hv : M v = some (.inl (tb 1, cap, .inl f))) (hvn : v < n) (hfit : sb_Fit f) (hcap : cap ≤ 98) : Met l yJ7_copyOf_9075b (.code yJ7_copyOf_9075b cJ7_copyOf_9075b 3 (Option.some (Jvm.ClassFile.FieldType.array Jvm.ClassFile.FieldType.byte)) :: ws_all) ({ frames := 1, cells := 1, slots := 198, locals := 44 } : Room) (me_Pc [.ref v, .int (nI (2 * cap + 2))] D tb X z0 (M) n) (me_Qr D z0 n (me_up M n (.inl (tb 1, 2 * cap + 2, .inl (va_cpy f (fun _ => 0) 0 0 cap)))) (n + 1)) 1 198 (me_A z0) := by
  refine me_open (by decide) (Nat.le_of_ble_eq_true rfl) ?_
  intro p e s m args below meth c ls hC hr hlk hnm hM hl
  have hl : lv_has ls 3 [(0, .ref v), (1, .int (nI (2 * cap + 2)))] := hl
  have hx := hC.1
  have hb := hC.2.1
  have hw := hC.2.2.2.2.1
  refine lv_iload_n hx hb dJ7_copyOf_9075b_0 rfl (lv_at hl 1 rfl) ?_
  refine lv_aload_n hx hb dJ7_copyOf_9075b_1 rfl (lv_at hl 0 rfl) ?_
  refine me_alen (t0 := 1) hC hM hv rfl dJ7_copyOf_9075b_2 ?_
  refine lv_icmp_ne (tgt := 14) hx hb dJ7_copyOf_9075b_3 (by decide) (fun c_1 => ?_) (fun c_1 => ?_)
  · have c_1 := (not_congr (br_eq rfl rfl (by omega) (by omega))).mp c_1
    refine lv_iload_n hx hb dJ7_copyOf_9075b_14 rfl (lv_at hl 1 rfl) ?_
    refine me_newa (atype := .byte) (N' := 2 * cap + 2) (a0 := (2 * cap + 2, .inl (fun _ => 0))) (k := 1) (M2 := me_up M n (.inl (tb 1, 2 * cap + 2, .inl (fun _ => 0)))) hC hM w_331 rfl (fun _ => rfl) (nI_pos (by omega)) (nI_clamp (by omega)) (by show (2 * cap + 2) * 1 ≤ _; omega) (Nat.le_of_ble_eq_true rfl) (by show 0 + (2 * cap + 2) ≤ 198; omega) rfl dJ7_copyOf_9075b_15 (fun H hM => ?_)
    refine lv_astore_n (lv' := [(2, .ref n), (0, .ref v), (1, .int (nI (2 * cap + 2)))]) hx hb dJ7_copyOf_9075b_17 rfl hl (by decide) rfl (fun ls hl => ?_)
    refine lv_aload_n hx hb dJ7_copyOf_9075b_18 rfl (lv_at hl 1 rfl) ?_
    refine lv_iconst (v := 0) hx hb dJ7_copyOf_9075b_19 (by decide) ?_
    refine lv_aload_n hx hb dJ7_copyOf_9075b_20 rfl (lv_at hl 0 rfl) ?_
    refine lv_iconst (v := 0) hx hb dJ7_copyOf_9075b_21 (by decide) ?_
    refine lv_aload_n hx hb dJ7_copyOf_9075b_22 rfl (lv_at hl 1 rfl) ?_
    refine me_alen (t0 := 1) hC hM ((me_up_n (by omega)).trans hv) rfl dJ7_copyOf_9075b_23 ?_
    refine lv_iload_n hx hb dJ7_copyOf_9075b_24 rfl (lv_at hl 2 rfl) ?_
    refine va_mmin hx hb (hC.2.2.1.trans hl.1.symm) hC.2.2.2.1 (hw _ w_919) (hw _ w_404) (hw _ w_13) (hw _ w_405) (Nat.le_of_ble_eq_true rfl) (Nat.le_of_ble_eq_true rfl) (by first | omega | exact Nat.le_of_ble_eq_true rfl) (by first | omega | exact Nat.le_of_ble_eq_true rfl | (show 0 + 2 * cap + 2 ≤ 198; omega)) dJ7_copyOf_9075b_25 ?_
    refine me_evi (y := nI cap) (if_neg (fun z => absurd ((nI_ltI (by omega) (by omega)).mp z) (by omega))) ?_
    refine me_acopy hC hl.1 hM w_920 w_922 w_921 w_18 ((me_up_n (by omega)).trans hv) (me_up_s _ _ _) (by omega) (by omega) (by omega) hfit (M2 := me_up M n (.inl (tb 1, 2 * cap + 2, .inl (va_cpy f (fun _ => 0) 0 0 cap)))) (me_up_up _ _ _ _) (Nat.le_of_ble_eq_true rfl) (Nat.le_of_ble_eq_true rfl) dJ7_copyOf_9075b_28 (fun H locs hM => ?_)
    refine lv_aload_n hx hb dJ7_copyOf_9075b_31 rfl (lv_at hl 0 rfl) ?_
    refine W.widen (k := 1) (n := 198) (by omega) (by omega) ?_
    exact me_aret hC hr (by first | exact Or.inl ⟨_, rfl⟩ | exact Or.inr ⟨_, rfl⟩) hlk hM (rfl) (rfl) dJ7_copyOf_9075b_32
  · have c_1 := (br_eq rfl rfl (by omega) (by omega)).mp c_1
    exfalso; omega
set_option maxHeartbeats 4000000 in
theorem c_J5_ensure_B (l : Launch) (D : va_G) (tb : Nat → ClassId) (X : State → Prop) (z0 n : Nat) (kO kT : Nat) (b v cap k : Nat) (f : Nat → Int32) (M : me_M) (q : Nat)  (hKD : ∀ U, X U → me_kd kO kT z0 U) (hbv : b < v) (hvn : v < n) (hMv : M v = none) (hq1 : cap < q) (hq2 : q ≤ 2 * cap + 2) (hcap : cap ≤ 98) (hfit : sb_Fit f) : Met l yJ5_ensureCapacityInternal_d00df (.code yJ5_ensureCapacityInternal_d00df cJ5_ensureCapacityInternal_d00df 3 none :: ws_all) ({ frames := 3, cells := 1, slots := 198, locals := 69 } : Room) (me_Pc [.ref b, .int (nI q)] D tb X z0 (sbV tb M b v cap k f) n) (me_Qv D z0 (sbV tb M b n (2 * cap + 2) k (va_cpy f (fun _ => 0) 0 0 cap)) (n + 1)) 1 198 (me_A z0) := by
  refine me_open (by decide) (Nat.le_of_ble_eq_true rfl) ?_
  intro p e s m args below meth c ls hC hr hlk hnm hM hl
  have hl : lv_has ls 3 [(0, .ref b), (1, .int (nI q))] := hl
  have hx := hC.1
  have hb := hC.2.1
  have hw := hC.2.2.2.2.1
  refine lv_aload_n hx hb dJ5_ensureCapacityInternal_d00df_0 rfl (lv_at hl 0 rfl) ?_
  refine fg_J5_15 hC hM (sb_o (by omega)) rfl dJ5_ensureCapacityInternal_d00df_1 ?_
  refine me_alen (t0 := 1) hC hM sb_a rfl dJ5_ensureCapacityInternal_d00df_4 ?_
  refine lv_aload_n hx hb dJ5_ensureCapacityInternal_d00df_5 rfl (lv_at hl 0 rfl) ?_
  refine fg_J5_22 hC hM (sb_o (by omega)) rfl dJ5_ensureCapacityInternal_d00df_6 ?_
  refine lv_ishr hx hb dJ5_ensureCapacityInternal_d00df_9 ?_
  refine me_evi (y := nI cap) (sb_shr0 _) ?_
  refine lv_istore_n (lv' := [(2, .int (nI cap)), (0, .ref b), (1, .int (nI q))]) hx hb dJ5_ensureCapacityInternal_d00df_10 rfl hl (by decide) rfl (fun ls hl => ?_)
  refine lv_iload_n hx hb dJ5_ensureCapacityInternal_d00df_11 rfl (lv_at hl 2 rfl) ?_
  refine lv_iload_n hx hb dJ5_ensureCapacityInternal_d00df_12 rfl (lv_at hl 0 rfl) ?_
  refine lv_isub hx hb dJ5_ensureCapacityInternal_d00df_13 ?_
  refine lv_if_le (tgt := 38) hx hb dJ5_ensureCapacityInternal_d00df_14 (by decide) (fun c_1 => ?_) (fun c_1 => ?_)
  · have c_1q := c_1
    have c_1 := Int32.not_lt.mpr c_1
    exact absurd c_1q (le0_b hq1 (by omega))
  · have c_1q := c_1
    have c_1 := Int32.not_le.mp c_1
    refine lv_aload_n hx hb dJ5_ensureCapacityInternal_d00df_17 rfl (lv_at hl 1 rfl) ?_
    refine lv_aload_n hx hb dJ5_ensureCapacityInternal_d00df_18 rfl (lv_at hl 1 rfl) ?_
    refine fg_J5_15 hC hM (sb_o (by omega)) rfl dJ5_ensureCapacityInternal_d00df_19 ?_
    refine lv_aload_n hx hb dJ5_ensureCapacityInternal_d00df_22 rfl (lv_at hl 1 rfl) ?_
    refine lv_iload_n hx hb dJ5_ensureCapacityInternal_d00df_23 rfl (lv_at hl 2 rfl) ?_
    refine me_callUi (As := [.int (nI q)]) (rest := [.ref v, .ref b]) hC hl.1 hM (c_J5_newCapacity_0f7a4 l D tb X z0 n b v cap k q f M (by omega) (by omega) (by omega) (by omega)) (ku_J5_104 hw rfl rfl ⟨Nat.le_of_ble_eq_true rfl, Nat.le_of_ble_eq_true rfl⟩ (va_Nw.use (by decide +kernel) (hKD s hC.2.2.2.2.2.1.2).2.2.2.2.2.1)) rfl rfl (sb_o (by omega)) rfl (Nat.le_of_ble_eq_true rfl) dJ5_ensureCapacityInternal_d00df_24 ⟨Nat.le_of_ble_eq_true rfl, Nat.le_of_ble_eq_true rfl⟩ (fun H locs hM => ?_)
    refine lv_aload_n hx hb dJ5_ensureCapacityInternal_d00df_27 rfl (lv_at hl 1 rfl) ?_
    refine fg_J5_22 hC hM (sb_o (by omega)) rfl dJ5_ensureCapacityInternal_d00df_28 ?_
    refine lv_ishl hx hb dJ5_ensureCapacityInternal_d00df_31 ?_
    refine me_evi (y := nI (2 * cap + 2)) (sb_shl0 _) ?_
    refine me_callSr (As := [.ref v, .int (nI (2 * cap + 2))]) (rest := [.ref b]) hC hl.1 hM (c_J7_copyOf_9075b l D tb X z0 n v cap f (sbV tb M b v cap k f) sb_a (by omega) hfit (by omega)) (ks_J5_108 hw rfl rfl ⟨Nat.le_of_ble_eq_true rfl, Nat.le_of_ble_eq_true rfl⟩) rfl rfl (Nat.le_of_ble_eq_true rfl) dJ5_ensureCapacityInternal_d00df_32 ⟨Nat.le_of_ble_eq_true rfl, Nat.le_of_ble_eq_true rfl⟩ (fun H locs hM => ?_)
    refine fp_J5_15 hC hM ((me_up_n (by omega)).trans (sb_o (by omega))) (Nat.le_of_ble_eq_true rfl) (M2 := me_up (me_up (sbV tb M b v cap k f) n (.inl (tb 1, 2 * cap + 2, .inl (va_cpy f (fun _ => 0) 0 0 cap)))) b (.inr (9, [.ref n, .int 0, .int 0, .int (nI k)]))) rfl dJ5_ensureCapacityInternal_d00df_35 (fun H locs hM => ?_)
    have hM := sb_forget hM hMv (by omega) (by omega) (by omega)
    exact me_vret hC hr hlk hM (rfl) (rfl) dJ5_ensureCapacityInternal_d00df_38
set_option maxHeartbeats 4000000 in
theorem c_J5_ensure_A (l : Launch) (D : va_G) (tb : Nat → ClassId) (X : State → Prop) (z0 n : Nat) (b v cap k : Nat) (f : Nat → Int32) (M : me_M) (q : Nat)  (hbv : b < v) (hq : q ≤ cap) (hcap : cap ≤ 198) : Met l yJ5_ensureCapacityInternal_d00df (.code yJ5_ensureCapacityInternal_d00df cJ5_ensureCapacityInternal_d00df 3 none :: ws_all) ({ frames := 3, cells := 1, slots := 198, locals := 69 } : Room) (me_Pc [.ref b, .int (nI q)] D tb X z0 (sbV tb M b v cap k f) n) (me_Qv D z0 (sbV tb M b v cap k f) n) 1 198 (me_A z0) := by
  refine me_open (by decide) (Nat.le_of_ble_eq_true rfl) ?_
  intro p e s m args below meth c ls hC hr hlk hnm hM hl
  have hl : lv_has ls 3 [(0, .ref b), (1, .int (nI q))] := hl
  have hx := hC.1
  have hb := hC.2.1
  have hw := hC.2.2.2.2.1
  refine lv_aload_n hx hb dJ5_ensureCapacityInternal_d00df_0 rfl (lv_at hl 0 rfl) ?_
  refine fg_J5_15 hC hM (sb_o (by omega)) rfl dJ5_ensureCapacityInternal_d00df_1 ?_
  refine me_alen (t0 := 1) hC hM sb_a rfl dJ5_ensureCapacityInternal_d00df_4 ?_
  refine lv_aload_n hx hb dJ5_ensureCapacityInternal_d00df_5 rfl (lv_at hl 0 rfl) ?_
  refine fg_J5_22 hC hM (sb_o (by omega)) rfl dJ5_ensureCapacityInternal_d00df_6 ?_
  refine lv_ishr hx hb dJ5_ensureCapacityInternal_d00df_9 ?_
  refine me_evi (y := nI cap) (sb_shr0 _) ?_
  refine lv_istore_n (lv' := [(2, .int (nI cap)), (0, .ref b), (1, .int (nI q))]) hx hb dJ5_ensureCapacityInternal_d00df_10 rfl hl (by decide) rfl (fun ls hl => ?_)
  refine lv_iload_n hx hb dJ5_ensureCapacityInternal_d00df_11 rfl (lv_at hl 2 rfl) ?_
  refine lv_iload_n hx hb dJ5_ensureCapacityInternal_d00df_12 rfl (lv_at hl 0 rfl) ?_
  refine lv_isub hx hb dJ5_ensureCapacityInternal_d00df_13 ?_
  refine lv_if_le (tgt := 38) hx hb dJ5_ensureCapacityInternal_d00df_14 (by decide) (fun c_1 => ?_) (fun c_1 => ?_)
  · have c_1q := c_1
    have c_1 := Int32.not_lt.mpr c_1
    refine W.widen (k := 1) (n := 198) (by omega) (by omega) ?_
    exact me_vret hC hr hlk hM (rfl) (rfl) dJ5_ensureCapacityInternal_d00df_38
  · have c_1q := c_1
    have c_1 := Int32.not_le.mp c_1
    exact absurd (le0_a hq (by omega)) c_1q
