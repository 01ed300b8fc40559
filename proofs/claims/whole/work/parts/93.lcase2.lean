section LC2
variable {p : Program} {l : Launch} {e : Env} {R : Room} {s : State} {m : MethodId} {args : Array Value} {below : List Frame} {meth : Method} {c : Code} {H : Heap} {locs : List Loc} {cells slots : Nat} {Q : State → Prop} {ls : Array Slot}
variable {D : va_G} {tb : Nat → ClassId} {X : State → Prop} {z0 n : Nat} {M M1 M2 : me_M} {b L i bo mo oa da : Nat} {xs : Nat → Int32} {k r : Int32} {mc ms mc2 ms2 : Nat} {rm1 rm2 : Room} {fs fs2 : List Value} {n2 : Nat → Nat} {n1 n3 : Nat}
set_option maxHeartbeats 4000000 in
theorem lw_c19 (hC : me_cx ws_all p c cL_law 10 s args m RL D tb X z0) (hl : lv_has ls 10 [(0, .ref b), (1, .ref bo), (2, .ref mo), (3, .ref oa), (4, .ref da), (5, .int (nI i))]) (hR : 14 ≤ R.frames ∧ 522 ≤ R.locals) (hM : me_at D z0 M n s H locs) (hX : va_X b L xs s s.heap) (hbl : b < s.heap.size) (hbA : ¬ me_A z0 b) (hi : i + 6 ≤ L) (hL : L ≤ 3072) (hrc2 : rm2.cells = mc2) (hrs2 : rm2.slots = ms2) (hr2 : rm2.frames ≤ 13 ∧ rm2.locals ≤ 480) (he1 : M1 mo = some (.inr (8, fs))) (he2 : M2 mo = some (.inr (8, fs2))) (hf : cells + mc + mc2 ≤ R.cells ∧ slots + ms + ms2 ≤ R.slots) (ct1 : Met l yL_streetOf (.codeWith yL_streetOf cL_streetOf 4 (some .int) [(0, 9, 12, 19)] :: ws_all) ({ frames := 13, cells := mc, slots := ms, locals := 480 } : Room) (me_Pc [.ref bo, .int (xs (i + 1)), .ref oa] D tb X z0 M n) (me_Qn D z0 k M1) mc ms (me_A z0)) (ct2 : ∀ n1, Met l yX8_streetOf (.code yX8_streetOf cX8_streetOf 2 (some .int) :: ws_all) rm2 (me_Pc [.ref mo, .int (xs (i + 1))] D tb X z0 M1 n1) (me_Qi D z0 r M2 (n2 n1)) mc2 ms2 (me_A z0)) (ct3 : ∀ n1, Met l yX8_thrown (.code yX8_thrown cX8_thrown 1 (some .int) :: ws_all) ({ frames := 0, cells := 0, slots := 0, locals := 0 } : Room) (me_Pc [.ref mo] D tb X z0 M2 n1) (me_Qi D z0 k M2 n1) 0 0 (me_A z0)) (hk : k = 0 → ∃ f : Nat → Int64, M2 oa = some (.inl (tb 3, 1, .inr (.inl f))) ∧ f 0 = r.toInt64) (kk : ∀ (ls1 : Array Slot) (H1 : Heap) (locs1 : List Loc) (n5 : Nat), lv_has ls1 10 [(0, .ref b), (1, .ref bo), (2, .ref mo), (3, .ref oa), (4, .ref da), (5, .int (nI i))] → me_at D z0 M2 n5 s H1 locs1 → W p l e R s m args below meth c H1 locs1 (cells + mc + mc2) (slots + ms + ms2) Q (F0 m 2920 ls1 [])) : W p l e R s m args below meth c H locs cells slots Q (F0 m 888 ls []) := by
  have hx := hC.1
  have hb := hC.2.1
  have hw := hC.2.2.2.2.1
  refine lv_aload_n hx hb dL_law_888 rfl (lv_at hl 1 rfl) ?_
  refine lv_aload_n hx hb dL_law_889 rfl (lv_at hl 0 rfl) ?_
  refine lv_iload hx hb dL_law_890 (lv_at hl 5 rfl) ?_
  refine lv_iconst (v := 1) hx hb dL_law_892 (by decide) ?_
  refine lv_iadd hx hb dL_law_893 ?_
  refine lw_rd (k := 1) hx hb hX hbl hbA hM.2.2.2.2 rfl (by omega) hL dL_law_894 ?_
  refine lv_aload_n hx hb dL_law_895 rfl (lv_at hl 3 rfl) ?_
  refine me_callSn (nA := 3) (As := [.ref bo, .int (xs (i + 1)), .ref oa]) (rest := []) hC hl.1 hM ct1 w_859 w_860 w_0 w_861 (by decide +kernel) rfl rfl ⟨by show 13 + 1 ≤ R.frames; omega, by show 8 + (4 + 11) + 480 ≤ R.locals; omega⟩ rfl rfl (Nat.le_of_ble_eq_true rfl) dL_law_896 ⟨by omega, by omega⟩ (fun H locs n1 hM => ?_)
  refine lv_istore (lv' := [(6, .int k), (0, .ref b), (1, .ref bo), (2, .ref mo), (3, .ref oa), (4, .ref da), (5, .int (nI i))]) hx hb dL_law_899 hl (by decide) rfl (fun ls hl => ?_)
  refine lv_aload_n hx hb dL_law_901 rfl (lv_at hl 3 rfl) ?_
  refine lv_aload_n hx hb dL_law_902 rfl (lv_at hl 1 rfl) ?_
  refine lv_iload hx hb dL_law_903 (lv_at hl 6 rfl) ?_
  refine lv_iconst (v := 1) hx hb dL_law_905 (by decide) ?_
  refine lv_iadd hx hb dL_law_906 ?_
  refine lw_rd (k := 1) hx hb hX hbl hbA hM.2.2.2.2 rfl (by omega) hL dL_law_907 ?_
  refine me_callVi (As := [.int (xs (i + 1))]) (rest := []) hC hl.1 hM (ct2 n1) (kv_L_219 hw hrc2 hrs2 ⟨by omega, by show 8 + (2 + 11) + rm2.locals ≤ R.locals; omega⟩) rfl rfl he1 rfl (Nat.le_of_ble_eq_true rfl) dL_law_908 ⟨by omega, by omega⟩ (fun H locs hM => ?_)
  refine lv_istore (lv' := [(7, .int r), (6, .int k), (0, .ref b), (1, .ref bo), (2, .ref mo), (3, .ref oa), (4, .ref da), (5, .int (nI i))]) hx hb dL_law_911 hl (by decide) rfl (fun ls hl => ?_)
  refine lv_aload_n hx hb dL_law_913 rfl (lv_at hl 4 rfl) ?_
  refine me_callVi (As := []) (rest := []) hC hl.1 hM (ct3 _) (kv_L_145 hw rfl rfl ⟨by show 0 + 1 ≤ R.frames; omega, by show 8 + (1 + 11) + 0 ≤ R.locals; omega⟩) rfl rfl he2 rfl (Nat.le_of_ble_eq_true rfl) dL_law_914 ⟨by omega, by omega⟩ (fun H locs hM => ?_)
  refine lv_iload hx hb dL_law_917 (lv_at hl 1 rfl) ?_
  refine lv_icmp_eq (tgt := 924) hx hb dL_law_919 (by decide) (fun _ => ?_) (fun h => absurd rfl h)
  refine lv_iload hx hb dL_law_924 (lv_at hl 1 rfl) ?_
  refine lv_if_ne (tgt := 941) hx hb dL_law_926 (by decide) (fun _ => ?_) (fun h0 => ?_)
  · refine lv_goto (tgt := 2920) hx hb dL_law_941 (by decide) ?_
    exact kk ls H locs _ (lv_sub hl [2, 3, 4, 5, 6, 7] rfl) hM
  obtain ⟨f, ho, hf0⟩ := hk h0
  refine lv_aload_n hx hb dL_law_929 rfl (lv_at hl 5 rfl) ?_
  refine lv_iconst (v := 0) hx hb dL_law_930 (by decide) ?_
  refine me_lald (k := 0) hC hM ho rfl (by decide) (by decide) dL_law_931 ?_
  refine lv_iload hx hb dL_law_932 (lv_at hl 0 rfl) ?_
  refine lv_i2l hx hb dL_law_934 rfl ?_
  refine W.lcmp hx hb dL_law_935 ?_
  refine lv_if_eq (tgt := 941) hx hb dL_law_936 (by decide) (fun _ => ?_) (fun h => absurd (lw_lself hf0) h)
  refine lv_goto (tgt := 2920) hx hb dL_law_941 (by decide) ?_
  exact kk ls H locs _ (lv_sub hl [2, 3, 4, 5, 6, 7] rfl) hM
set_option maxHeartbeats 4000000 in
theorem lw_c20 (hC : me_cx ws_all p c cL_law 10 s args m RL D tb X z0) (hl : lv_has ls 10 [(0, .ref b), (1, .ref bo), (2, .ref mo), (3, .ref oa), (4, .ref da), (5, .int (nI i))]) (hR : 14 ≤ R.frames ∧ 522 ≤ R.locals) (hM : me_at D z0 M n s H locs) (hX : va_X b L xs s s.heap) (hbl : b < s.heap.size) (hbA : ¬ me_A z0 b) (hi : i + 6 ≤ L) (hL : L ≤ 3072) (hrc2 : rm2.cells = mc2) (hrs2 : rm2.slots = ms2) (hr2 : rm2.frames ≤ 13 ∧ rm2.locals ≤ 480) (he1 : M1 mo = some (.inr (8, fs))) (he2 : M2 mo = some (.inr (8, fs2))) (hf : cells + mc + mc2 ≤ R.cells ∧ slots + ms + ms2 ≤ R.slots) (ct1 : Met l yL_illnessOf (.codeWith yL_illnessOf cL_illnessOf 4 (some .int) [(0, 9, 12, 19)] :: ws_all) ({ frames := 13, cells := mc, slots := ms, locals := 480 } : Room) (me_Pc [.ref bo, .int (xs (i + 1)), .ref oa] D tb X z0 M n) (me_Qn D z0 k M1) mc ms (me_A z0)) (ct2 : ∀ n1, Met l yX8_illnessOf (.code yX8_illnessOf cX8_illnessOf 2 (some .int) :: ws_all) rm2 (me_Pc [.ref mo, .int (xs (i + 1))] D tb X z0 M1 n1) (me_Qi D z0 r M2 (n2 n1)) mc2 ms2 (me_A z0)) (ct3 : ∀ n1, Met l yX8_thrown (.code yX8_thrown cX8_thrown 1 (some .int) :: ws_all) ({ frames := 0, cells := 0, slots := 0, locals := 0 } : Room) (me_Pc [.ref mo] D tb X z0 M2 n1) (me_Qi D z0 k M2 n1) 0 0 (me_A z0)) (hk : k = 0 → ∃ f : Nat → Int64, M2 oa = some (.inl (tb 3, 1, .inr (.inl f))) ∧ f 0 = r.toInt64) (kk : ∀ (ls1 : Array Slot) (H1 : Heap) (locs1 : List Loc) (n5 : Nat), lv_has ls1 10 [(0, .ref b), (1, .ref bo), (2, .ref mo), (3, .ref oa), (4, .ref da), (5, .int (nI i))] → me_at D z0 M2 n5 s H1 locs1 → W p l e R s m args below meth c H1 locs1 (cells + mc + mc2) (slots + ms + ms2) Q (F0 m 2920 ls1 [])) : W p l e R s m args below meth c H locs cells slots Q (F0 m 944 ls []) := by
  have hx := hC.1
  have hb := hC.2.1
  have hw := hC.2.2.2.2.1
  refine lv_aload_n hx hb dL_law_944 rfl (lv_at hl 1 rfl) ?_
  refine lv_aload_n hx hb dL_law_945 rfl (lv_at hl 0 rfl) ?_
  refine lv_iload hx hb dL_law_946 (lv_at hl 5 rfl) ?_
  refine lv_iconst (v := 1) hx hb dL_law_948 (by decide) ?_
  refine lv_iadd hx hb dL_law_949 ?_
  refine lw_rd (k := 1) hx hb hX hbl hbA hM.2.2.2.2 rfl (by omega) hL dL_law_950 ?_
  refine lv_aload_n hx hb dL_law_951 rfl (lv_at hl 3 rfl) ?_
  refine me_callSn (nA := 3) (As := [.ref bo, .int (xs (i + 1)), .ref oa]) (rest := []) hC hl.1 hM ct1 w_871 w_872 w_0 w_873 (by decide +kernel) rfl rfl ⟨by show 13 + 1 ≤ R.frames; omega, by show 8 + (4 + 11) + 480 ≤ R.locals; omega⟩ rfl rfl (Nat.le_of_ble_eq_true rfl) dL_law_952 ⟨by omega, by omega⟩ (fun H locs n1 hM => ?_)
  refine lv_istore (lv' := [(6, .int k), (0, .ref b), (1, .ref bo), (2, .ref mo), (3, .ref oa), (4, .ref da), (5, .int (nI i))]) hx hb dL_law_955 hl (by decide) rfl (fun ls hl => ?_)
  refine lv_aload_n hx hb dL_law_957 rfl (lv_at hl 3 rfl) ?_
  refine lv_aload_n hx hb dL_law_958 rfl (lv_at hl 1 rfl) ?_
  refine lv_iload hx hb dL_law_959 (lv_at hl 6 rfl) ?_
  refine lv_iconst (v := 1) hx hb dL_law_961 (by decide) ?_
  refine lv_iadd hx hb dL_law_962 ?_
  refine lw_rd (k := 1) hx hb hX hbl hbA hM.2.2.2.2 rfl (by omega) hL dL_law_963 ?_
  refine me_callVi (As := [.int (xs (i + 1))]) (rest := []) hC hl.1 hM (ct2 n1) (kv_L_222 hw hrc2 hrs2 ⟨by omega, by show 8 + (2 + 11) + rm2.locals ≤ R.locals; omega⟩) rfl rfl he1 rfl (Nat.le_of_ble_eq_true rfl) dL_law_964 ⟨by omega, by omega⟩ (fun H locs hM => ?_)
  refine lv_istore (lv' := [(7, .int r), (6, .int k), (0, .ref b), (1, .ref bo), (2, .ref mo), (3, .ref oa), (4, .ref da), (5, .int (nI i))]) hx hb dL_law_967 hl (by decide) rfl (fun ls hl => ?_)
  refine lv_aload_n hx hb dL_law_969 rfl (lv_at hl 4 rfl) ?_
  refine me_callVi (As := []) (rest := []) hC hl.1 hM (ct3 _) (kv_L_145 hw rfl rfl ⟨by show 0 + 1 ≤ R.frames; omega, by show 8 + (1 + 11) + 0 ≤ R.locals; omega⟩) rfl rfl he2 rfl (Nat.le_of_ble_eq_true rfl) dL_law_970 ⟨by omega, by omega⟩ (fun H locs hM => ?_)
  refine lv_iload hx hb dL_law_973 (lv_at hl 1 rfl) ?_
  refine lv_icmp_eq (tgt := 980) hx hb dL_law_975 (by decide) (fun _ => ?_) (fun h => absurd rfl h)
  refine lv_iload hx hb dL_law_980 (lv_at hl 1 rfl) ?_
  refine lv_if_ne (tgt := 997) hx hb dL_law_982 (by decide) (fun _ => ?_) (fun h0 => ?_)
  · refine lv_goto (tgt := 2920) hx hb dL_law_997 (by decide) ?_
    exact kk ls H locs _ (lv_sub hl [2, 3, 4, 5, 6, 7] rfl) hM
  obtain ⟨f, ho, hf0⟩ := hk h0
  refine lv_aload_n hx hb dL_law_985 rfl (lv_at hl 5 rfl) ?_
  refine lv_iconst (v := 0) hx hb dL_law_986 (by decide) ?_
  refine me_lald (k := 0) hC hM ho rfl (by decide) (by decide) dL_law_987 ?_
  refine lv_iload hx hb dL_law_988 (lv_at hl 0 rfl) ?_
  refine lv_i2l hx hb dL_law_990 rfl ?_
  refine W.lcmp hx hb dL_law_991 ?_
  refine lv_if_eq (tgt := 997) hx hb dL_law_992 (by decide) (fun _ => ?_) (fun h => absurd (lw_lself hf0) h)
  refine lv_goto (tgt := 2920) hx hb dL_law_997 (by decide) ?_
  exact kk ls H locs _ (lv_sub hl [2, 3, 4, 5, 6, 7] rfl) hM
set_option maxHeartbeats 4000000 in
theorem lw_c21 (hC : me_cx ws_all p c cL_law 10 s args m RL D tb X z0) (hl : lv_has ls 10 [(0, .ref b), (1, .ref bo), (2, .ref mo), (3, .ref oa), (4, .ref da), (5, .int (nI i))]) (hR : 14 ≤ R.frames ∧ 522 ≤ R.locals) (hM : me_at D z0 M n s H locs) (hX : va_X b L xs s s.heap) (hbl : b < s.heap.size) (hbA : ¬ me_A z0 b) (hi : i + 6 ≤ L) (hL : L ≤ 3072) (hrc2 : rm2.cells = mc2) (hrs2 : rm2.slots = ms2) (hr2 : rm2.frames ≤ 13 ∧ rm2.locals ≤ 480) (he1 : M1 mo = some (.inr (8, fs))) (he2 : M2 mo = some (.inr (8, fs2))) (hf : cells + mc + mc2 ≤ R.cells ∧ slots + ms + ms2 ≤ R.slots) (ct1 : Met l yL_creditOf (.codeWith yL_creditOf cL_creditOf 4 (some .int) [(0, 9, 12, 19)] :: ws_all) ({ frames := 13, cells := mc, slots := ms, locals := 480 } : Room) (me_Pc [.ref bo, .int (xs (i + 1)), .ref oa] D tb X z0 M n) (me_Qn D z0 k M1) mc ms (me_A z0)) (ct2 : ∀ n1, Met l yX8_creditOf (.code yX8_creditOf cX8_creditOf 2 (some .int) :: ws_all) rm2 (me_Pc [.ref mo, .int (xs (i + 1))] D tb X z0 M1 n1) (me_Qi D z0 r M2 (n2 n1)) mc2 ms2 (me_A z0)) (ct3 : ∀ n1, Met l yX8_thrown (.code yX8_thrown cX8_thrown 1 (some .int) :: ws_all) ({ frames := 0, cells := 0, slots := 0, locals := 0 } : Room) (me_Pc [.ref mo] D tb X z0 M2 n1) (me_Qi D z0 k M2 n1) 0 0 (me_A z0)) (hk : k = 0 → ∃ f : Nat → Int64, M2 oa = some (.inl (tb 3, 1, .inr (.inl f))) ∧ f 0 = r.toInt64) (kk : ∀ (ls1 : Array Slot) (H1 : Heap) (locs1 : List Loc) (n5 : Nat), lv_has ls1 10 [(0, .ref b), (1, .ref bo), (2, .ref mo), (3, .ref oa), (4, .ref da), (5, .int (nI i))] → me_at D z0 M2 n5 s H1 locs1 → W p l e R s m args below meth c H1 locs1 (cells + mc + mc2) (slots + ms + ms2) Q (F0 m 2920 ls1 [])) : W p l e R s m args below meth c H locs cells slots Q (F0 m 1000 ls []) := by
  have hx := hC.1
  have hb := hC.2.1
  have hw := hC.2.2.2.2.1
  refine lv_aload_n hx hb dL_law_1000 rfl (lv_at hl 1 rfl) ?_
  refine lv_aload_n hx hb dL_law_1001 rfl (lv_at hl 0 rfl) ?_
  refine lv_iload hx hb dL_law_1002 (lv_at hl 5 rfl) ?_
  refine lv_iconst (v := 1) hx hb dL_law_1004 (by decide) ?_
  refine lv_iadd hx hb dL_law_1005 ?_
  refine lw_rd (k := 1) hx hb hX hbl hbA hM.2.2.2.2 rfl (by omega) hL dL_law_1006 ?_
  refine lv_aload_n hx hb dL_law_1007 rfl (lv_at hl 3 rfl) ?_
  refine me_callSn (nA := 3) (As := [.ref bo, .int (xs (i + 1)), .ref oa]) (rest := []) hC hl.1 hM ct1 w_878 w_879 w_0 w_880 (by decide +kernel) rfl rfl ⟨by show 13 + 1 ≤ R.frames; omega, by show 8 + (4 + 11) + 480 ≤ R.locals; omega⟩ rfl rfl (Nat.le_of_ble_eq_true rfl) dL_law_1008 ⟨by omega, by omega⟩ (fun H locs n1 hM => ?_)
  refine lv_istore (lv' := [(6, .int k), (0, .ref b), (1, .ref bo), (2, .ref mo), (3, .ref oa), (4, .ref da), (5, .int (nI i))]) hx hb dL_law_1011 hl (by decide) rfl (fun ls hl => ?_)
  refine lv_aload_n hx hb dL_law_1013 rfl (lv_at hl 3 rfl) ?_
  refine lv_aload_n hx hb dL_law_1014 rfl (lv_at hl 1 rfl) ?_
  refine lv_iload hx hb dL_law_1015 (lv_at hl 6 rfl) ?_
  refine lv_iconst (v := 1) hx hb dL_law_1017 (by decide) ?_
  refine lv_iadd hx hb dL_law_1018 ?_
  refine lw_rd (k := 1) hx hb hX hbl hbA hM.2.2.2.2 rfl (by omega) hL dL_law_1019 ?_
  refine me_callVi (As := [.int (xs (i + 1))]) (rest := []) hC hl.1 hM (ct2 n1) (kv_L_225 hw hrc2 hrs2 ⟨by omega, by show 8 + (2 + 11) + rm2.locals ≤ R.locals; omega⟩) rfl rfl he1 rfl (Nat.le_of_ble_eq_true rfl) dL_law_1020 ⟨by omega, by omega⟩ (fun H locs hM => ?_)
  refine lv_istore (lv' := [(7, .int r), (6, .int k), (0, .ref b), (1, .ref bo), (2, .ref mo), (3, .ref oa), (4, .ref da), (5, .int (nI i))]) hx hb dL_law_1023 hl (by decide) rfl (fun ls hl => ?_)
  refine lv_aload_n hx hb dL_law_1025 rfl (lv_at hl 4 rfl) ?_
  refine me_callVi (As := []) (rest := []) hC hl.1 hM (ct3 _) (kv_L_145 hw rfl rfl ⟨by show 0 + 1 ≤ R.frames; omega, by show 8 + (1 + 11) + 0 ≤ R.locals; omega⟩) rfl rfl he2 rfl (Nat.le_of_ble_eq_true rfl) dL_law_1026 ⟨by omega, by omega⟩ (fun H locs hM => ?_)
  refine lv_iload hx hb dL_law_1029 (lv_at hl 1 rfl) ?_
  refine lv_icmp_eq (tgt := 1036) hx hb dL_law_1031 (by decide) (fun _ => ?_) (fun h => absurd rfl h)
  refine lv_iload hx hb dL_law_1036 (lv_at hl 1 rfl) ?_
  refine lv_if_ne (tgt := 1053) hx hb dL_law_1038 (by decide) (fun _ => ?_) (fun h0 => ?_)
  · refine lv_goto (tgt := 2920) hx hb dL_law_1053 (by decide) ?_
    exact kk ls H locs _ (lv_sub hl [2, 3, 4, 5, 6, 7] rfl) hM
  obtain ⟨f, ho, hf0⟩ := hk h0
  refine lv_aload_n hx hb dL_law_1041 rfl (lv_at hl 5 rfl) ?_
  refine lv_iconst (v := 0) hx hb dL_law_1042 (by decide) ?_
  refine me_lald (k := 0) hC hM ho rfl (by decide) (by decide) dL_law_1043 ?_
  refine lv_iload hx hb dL_law_1044 (lv_at hl 0 rfl) ?_
  refine lv_i2l hx hb dL_law_1046 rfl ?_
  refine W.lcmp hx hb dL_law_1047 ?_
  refine lv_if_eq (tgt := 1053) hx hb dL_law_1048 (by decide) (fun _ => ?_) (fun h => absurd (lw_lself hf0) h)
  refine lv_goto (tgt := 2920) hx hb dL_law_1053 (by decide) ?_
  exact kk ls H locs _ (lv_sub hl [2, 3, 4, 5, 6, 7] rfl) hM
set_option maxHeartbeats 4000000 in
theorem lw_c22 (hC : me_cx ws_all p c cL_law 10 s args m RL D tb X z0) (hl : lv_has ls 10 [(0, .ref b), (1, .ref bo), (2, .ref mo), (3, .ref oa), (4, .ref da), (5, .int (nI i))]) (hR : 14 ≤ R.frames ∧ 522 ≤ R.locals) (hM : me_at D z0 M n s H locs) (hX : va_X b L xs s s.heap) (hbl : b < s.heap.size) (hbA : ¬ me_A z0 b) (hi : i + 6 ≤ L) (hL : L ≤ 3072) (hrc2 : rm2.cells = mc2) (hrs2 : rm2.slots = ms2) (hr2 : rm2.frames ≤ 13 ∧ rm2.locals ≤ 480) (he1 : M1 mo = some (.inr (8, fs))) (he2 : M2 mo = some (.inr (8, fs2))) (hf : cells + mc + mc2 ≤ R.cells ∧ slots + ms + ms2 ≤ R.slots) (ct1 : Met l yL_overdueLoans (.codeWith yL_overdueLoans cL_overdueLoans 4 (some .int) [(0, 9, 12, 19)] :: ws_all) ({ frames := 13, cells := mc, slots := ms, locals := 480 } : Room) (me_Pc [.ref bo, .int (xs (i + 1)), .ref oa] D tb X z0 M n) (me_Qn D z0 k M1) mc ms (me_A z0)) (ct2 : ∀ n1, Met l yX8_overdueLoans (.code yX8_overdueLoans cX8_overdueLoans 4 (some .int) :: ws_all) rm2 (me_Pc [.ref mo, .int (xs (i + 1))] D tb X z0 M1 n1) (me_Qi D z0 r M2 (n2 n1)) mc2 ms2 (me_A z0)) (ct3 : ∀ n1, Met l yX8_thrown (.code yX8_thrown cX8_thrown 1 (some .int) :: ws_all) ({ frames := 0, cells := 0, slots := 0, locals := 0 } : Room) (me_Pc [.ref mo] D tb X z0 M2 n1) (me_Qi D z0 k M2 n1) 0 0 (me_A z0)) (hk : k = 0 → ∃ f : Nat → Int64, M2 oa = some (.inl (tb 3, 1, .inr (.inl f))) ∧ f 0 = r.toInt64) (kk : ∀ (ls1 : Array Slot) (H1 : Heap) (locs1 : List Loc) (n5 : Nat), lv_has ls1 10 [(0, .ref b), (1, .ref bo), (2, .ref mo), (3, .ref oa), (4, .ref da), (5, .int (nI i))] → me_at D z0 M2 n5 s H1 locs1 → W p l e R s m args below meth c H1 locs1 (cells + mc + mc2) (slots + ms + ms2) Q (F0 m 2920 ls1 [])) : W p l e R s m args below meth c H locs cells slots Q (F0 m 1056 ls []) := by
  have hx := hC.1
  have hb := hC.2.1
  have hw := hC.2.2.2.2.1
  refine lv_aload_n hx hb dL_law_1056 rfl (lv_at hl 1 rfl) ?_
  refine lv_aload_n hx hb dL_law_1057 rfl (lv_at hl 0 rfl) ?_
  refine lv_iload hx hb dL_law_1058 (lv_at hl 5 rfl) ?_
  refine lv_iconst (v := 1) hx hb dL_law_1060 (by decide) ?_
  refine lv_iadd hx hb dL_law_1061 ?_
  refine lw_rd (k := 1) hx hb hX hbl hbA hM.2.2.2.2 rfl (by omega) hL dL_law_1062 ?_
  refine lv_aload_n hx hb dL_law_1063 rfl (lv_at hl 3 rfl) ?_
  refine me_callSn (nA := 3) (As := [.ref bo, .int (xs (i + 1)), .ref oa]) (rest := []) hC hl.1 hM ct1 w_885 w_886 w_0 w_887 (by decide +kernel) rfl rfl ⟨by show 13 + 1 ≤ R.frames; omega, by show 8 + (4 + 11) + 480 ≤ R.locals; omega⟩ rfl rfl (Nat.le_of_ble_eq_true rfl) dL_law_1064 ⟨by omega, by omega⟩ (fun H locs n1 hM => ?_)
  refine lv_istore (lv' := [(6, .int k), (0, .ref b), (1, .ref bo), (2, .ref mo), (3, .ref oa), (4, .ref da), (5, .int (nI i))]) hx hb dL_law_1067 hl (by decide) rfl (fun ls hl => ?_)
  refine lv_aload_n hx hb dL_law_1069 rfl (lv_at hl 3 rfl) ?_
  refine lv_aload_n hx hb dL_law_1070 rfl (lv_at hl 1 rfl) ?_
  refine lv_iload hx hb dL_law_1071 (lv_at hl 6 rfl) ?_
  refine lv_iconst (v := 1) hx hb dL_law_1073 (by decide) ?_
  refine lv_iadd hx hb dL_law_1074 ?_
  refine lw_rd (k := 1) hx hb hX hbl hbA hM.2.2.2.2 rfl (by omega) hL dL_law_1075 ?_
  refine me_callVi (As := [.int (xs (i + 1))]) (rest := []) hC hl.1 hM (ct2 n1) (kv_L_228 hw hrc2 hrs2 ⟨by omega, by show 8 + (4 + 11) + rm2.locals ≤ R.locals; omega⟩) rfl rfl he1 rfl (Nat.le_of_ble_eq_true rfl) dL_law_1076 ⟨by omega, by omega⟩ (fun H locs hM => ?_)
  refine lv_istore (lv' := [(7, .int r), (6, .int k), (0, .ref b), (1, .ref bo), (2, .ref mo), (3, .ref oa), (4, .ref da), (5, .int (nI i))]) hx hb dL_law_1079 hl (by decide) rfl (fun ls hl => ?_)
  refine lv_aload_n hx hb dL_law_1081 rfl (lv_at hl 4 rfl) ?_
  refine me_callVi (As := []) (rest := []) hC hl.1 hM (ct3 _) (kv_L_145 hw rfl rfl ⟨by show 0 + 1 ≤ R.frames; omega, by show 8 + (1 + 11) + 0 ≤ R.locals; omega⟩) rfl rfl he2 rfl (Nat.le_of_ble_eq_true rfl) dL_law_1082 ⟨by omega, by omega⟩ (fun H locs hM => ?_)
  refine lv_iload hx hb dL_law_1085 (lv_at hl 1 rfl) ?_
  refine lv_icmp_eq (tgt := 1092) hx hb dL_law_1087 (by decide) (fun _ => ?_) (fun h => absurd rfl h)
  refine lv_iload hx hb dL_law_1092 (lv_at hl 1 rfl) ?_
  refine lv_if_ne (tgt := 1109) hx hb dL_law_1094 (by decide) (fun _ => ?_) (fun h0 => ?_)
  · refine lv_goto (tgt := 2920) hx hb dL_law_1109 (by decide) ?_
    exact kk ls H locs _ (lv_sub hl [2, 3, 4, 5, 6, 7] rfl) hM
  obtain ⟨f, ho, hf0⟩ := hk h0
  refine lv_aload_n hx hb dL_law_1097 rfl (lv_at hl 5 rfl) ?_
  refine lv_iconst (v := 0) hx hb dL_law_1098 (by decide) ?_
  refine me_lald (k := 0) hC hM ho rfl (by decide) (by decide) dL_law_1099 ?_
  refine lv_iload hx hb dL_law_1100 (lv_at hl 0 rfl) ?_
  refine lv_i2l hx hb dL_law_1102 rfl ?_
  refine W.lcmp hx hb dL_law_1103 ?_
  refine lv_if_eq (tgt := 1109) hx hb dL_law_1104 (by decide) (fun _ => ?_) (fun h => absurd (lw_lself hf0) h)
  refine lv_goto (tgt := 2920) hx hb dL_law_1109 (by decide) ?_
  exact kk ls H locs _ (lv_sub hl [2, 3, 4, 5, 6, 7] rfl) hM
set_option maxHeartbeats 4000000 in
theorem lw_c23 (hC : me_cx ws_all p c cL_law 10 s args m RL D tb X z0) (hl : lv_has ls 10 [(0, .ref b), (1, .ref bo), (2, .ref mo), (3, .ref oa), (4, .ref da), (5, .int (nI i))]) (hR : 14 ≤ R.frames ∧ 522 ≤ R.locals) (hM : me_at D z0 M n s H locs) (hrc1 : rm1.cells = mc) (hrs1 : rm1.slots = ms) (hr1 : rm1.frames ≤ 13 ∧ rm1.locals ≤ 480) (hrc2 : rm2.cells = mc2) (hrs2 : rm2.slots = ms2) (hr2 : rm2.frames ≤ 13 ∧ rm2.locals ≤ 480) (he : M bo = some (.inr (7, fs))) (he2 : M1 mo = some (.inr (8, fs2))) (hf : cells + mc + mc2 ≤ R.cells ∧ slots + ms + ms2 ≤ R.slots) (ct1 : Met l yX7_mostIll (.code yX7_mostIll cX7_mostIll 3 (some .int) :: ws_all) rm1 (me_Pc [.ref bo] D tb X z0 M n) (me_Qi D z0 r M1 n1) mc ms (me_A z0)) (ct2 : Met l yX8_mostIll (.code yX8_mostIll cX8_mostIll 3 (some .int) :: ws_all) rm2 (me_Pc [.ref mo] D tb X z0 M1 n1) (me_Qi D z0 r M2 n3) mc2 ms2 (me_A z0)) (kk : ∀ (ls1 : Array Slot) (H1 : Heap) (locs1 : List Loc) (n5 : Nat), lv_has ls1 10 [(0, .ref b), (1, .ref bo), (2, .ref mo), (3, .ref oa), (4, .ref da), (5, .int (nI i))] → me_at D z0 M2 n5 s H1 locs1 → W p l e R s m args below meth c H1 locs1 (cells + mc + mc2) (slots + ms + ms2) Q (F0 m 2920 ls1 [])) : W p l e R s m args below meth c H locs cells slots Q (F0 m 1112 ls []) := by
  have hx := hC.1
  have hb := hC.2.1
  have hw := hC.2.2.2.2.1
  refine lv_aload_n hx hb dL_law_1112 rfl (lv_at hl 1 rfl) ?_
  refine me_callVi (As := []) (rest := []) hC hl.1 hM ct1 (kv_L_229 hw hrc1 hrs1 ⟨by omega, by show 8 + (3 + 11) + rm1.locals ≤ R.locals; omega⟩) rfl rfl he rfl (Nat.le_of_ble_eq_true rfl) dL_law_1113 ⟨by omega, by omega⟩ (fun H locs hM => ?_)
  refine lv_aload_n hx hb dL_law_1116 rfl (lv_at hl 2 rfl) ?_
  refine me_callVi (As := []) (rest := [.int r]) hC hl.1 hM ct2 (kv_L_232 hw hrc2 hrs2 ⟨by omega, by show 8 + (3 + 11) + rm2.locals ≤ R.locals; omega⟩) rfl rfl he2 rfl (Nat.le_of_ble_eq_true rfl) dL_law_1117 ⟨by omega, by omega⟩ (fun H locs hM => ?_)
  refine lv_icmp_eq (tgt := 2920) hx hb dL_law_1120 (by decide) (fun _ => ?_) (fun h => absurd rfl h)
  exact kk ls H locs _ hl hM
set_option maxHeartbeats 4000000 in
theorem lw_c24 (hC : me_cx ws_all p c cL_law 10 s args m RL D tb X z0) (hl : lv_has ls 10 [(0, .ref b), (1, .ref bo), (2, .ref mo), (3, .ref oa), (4, .ref da), (5, .int (nI i))]) (hR : 14 ≤ R.frames ∧ 522 ≤ R.locals) (hM : me_at D z0 M n s H locs) (hX : va_X b L xs s s.heap) (hbl : b < s.heap.size) (hbA : ¬ me_A z0 b) (hi : i + 6 ≤ L) (hL : L ≤ 3072) (hrc2 : rm2.cells = mc2) (hrs2 : rm2.slots = ms2) (hr2 : rm2.frames ≤ 13 ∧ rm2.locals ≤ 480) (he1 : M1 mo = some (.inr (8, fs))) (he2 : M2 mo = some (.inr (8, fs2))) (hf : cells + mc + mc2 ≤ R.cells ∧ slots + ms + ms2 ≤ R.slots) (ct1 : Met l yL_borrowerOf (.codeWith yL_borrowerOf cL_borrowerOf 4 (some .int) [(0, 9, 12, 19)] :: ws_all) ({ frames := 13, cells := mc, slots := ms, locals := 480 } : Room) (me_Pc [.ref bo, .int (xs (i + 1)), .ref oa] D tb X z0 M n) (me_Qn D z0 k M1) mc ms (me_A z0)) (ct2 : ∀ n1, Met l yX8_borrowerOf (.code yX8_borrowerOf cX8_borrowerOf 2 (some .int) :: ws_all) rm2 (me_Pc [.ref mo, .int (xs (i + 1))] D tb X z0 M1 n1) (me_Qi D z0 r M2 (n2 n1)) mc2 ms2 (me_A z0)) (ct3 : ∀ n1, Met l yX8_thrown (.code yX8_thrown cX8_thrown 1 (some .int) :: ws_all) ({ frames := 0, cells := 0, slots := 0, locals := 0 } : Room) (me_Pc [.ref mo] D tb X z0 M2 n1) (me_Qi D z0 k M2 n1) 0 0 (me_A z0)) (hk : k = 0 → ∃ f : Nat → Int64, M2 oa = some (.inl (tb 3, 1, .inr (.inl f))) ∧ f 0 = r.toInt64) (kk : ∀ (ls1 : Array Slot) (H1 : Heap) (locs1 : List Loc) (n5 : Nat), lv_has ls1 10 [(0, .ref b), (1, .ref bo), (2, .ref mo), (3, .ref oa), (4, .ref da), (5, .int (nI i))] → me_at D z0 M2 n5 s H1 locs1 → W p l e R s m args below meth c H1 locs1 (cells + mc + mc2) (slots + ms + ms2) Q (F0 m 2920 ls1 [])) : W p l e R s m args below meth c H locs cells slots Q (F0 m 1125 ls []) := by
  have hx := hC.1
  have hb := hC.2.1
  have hw := hC.2.2.2.2.1
  refine lv_aload_n hx hb dL_law_1125 rfl (lv_at hl 1 rfl) ?_
  refine lv_aload_n hx hb dL_law_1126 rfl (lv_at hl 0 rfl) ?_
  refine lv_iload hx hb dL_law_1127 (lv_at hl 5 rfl) ?_
  refine lv_iconst (v := 1) hx hb dL_law_1129 (by decide) ?_
  refine lv_iadd hx hb dL_law_1130 ?_
  refine lw_rd (k := 1) hx hb hX hbl hbA hM.2.2.2.2 rfl (by omega) hL dL_law_1131 ?_
  refine lv_aload_n hx hb dL_law_1132 rfl (lv_at hl 3 rfl) ?_
  refine me_callSn (nA := 3) (As := [.ref bo, .int (xs (i + 1)), .ref oa]) (rest := []) hC hl.1 hM ct1 w_892 w_893 w_0 w_894 (by decide +kernel) rfl rfl ⟨by show 13 + 1 ≤ R.frames; omega, by show 8 + (4 + 11) + 480 ≤ R.locals; omega⟩ rfl rfl (Nat.le_of_ble_eq_true rfl) dL_law_1133 ⟨by omega, by omega⟩ (fun H locs n1 hM => ?_)
  refine lv_istore (lv' := [(6, .int k), (0, .ref b), (1, .ref bo), (2, .ref mo), (3, .ref oa), (4, .ref da), (5, .int (nI i))]) hx hb dL_law_1136 hl (by decide) rfl (fun ls hl => ?_)
  refine lv_aload_n hx hb dL_law_1138 rfl (lv_at hl 3 rfl) ?_
  refine lv_aload_n hx hb dL_law_1139 rfl (lv_at hl 1 rfl) ?_
  refine lv_iload hx hb dL_law_1140 (lv_at hl 6 rfl) ?_
  refine lv_iconst (v := 1) hx hb dL_law_1142 (by decide) ?_
  refine lv_iadd hx hb dL_law_1143 ?_
  refine lw_rd (k := 1) hx hb hX hbl hbA hM.2.2.2.2 rfl (by omega) hL dL_law_1144 ?_
  refine me_callVi (As := [.int (xs (i + 1))]) (rest := []) hC hl.1 hM (ct2 n1) (kv_L_235 hw hrc2 hrs2 ⟨by omega, by show 8 + (2 + 11) + rm2.locals ≤ R.locals; omega⟩) rfl rfl he1 rfl (Nat.le_of_ble_eq_true rfl) dL_law_1145 ⟨by omega, by omega⟩ (fun H locs hM => ?_)
  refine lv_istore (lv' := [(7, .int r), (6, .int k), (0, .ref b), (1, .ref bo), (2, .ref mo), (3, .ref oa), (4, .ref da), (5, .int (nI i))]) hx hb dL_law_1148 hl (by decide) rfl (fun ls hl => ?_)
  refine lv_aload_n hx hb dL_law_1150 rfl (lv_at hl 4 rfl) ?_
  refine me_callVi (As := []) (rest := []) hC hl.1 hM (ct3 _) (kv_L_145 hw rfl rfl ⟨by show 0 + 1 ≤ R.frames; omega, by show 8 + (1 + 11) + 0 ≤ R.locals; omega⟩) rfl rfl he2 rfl (Nat.le_of_ble_eq_true rfl) dL_law_1151 ⟨by omega, by omega⟩ (fun H locs hM => ?_)
  refine lv_iload hx hb dL_law_1154 (lv_at hl 1 rfl) ?_
  refine lv_icmp_eq (tgt := 1161) hx hb dL_law_1156 (by decide) (fun _ => ?_) (fun h => absurd rfl h)
  refine lv_iload hx hb dL_law_1161 (lv_at hl 1 rfl) ?_
  refine lv_if_ne (tgt := 1178) hx hb dL_law_1163 (by decide) (fun _ => ?_) (fun h0 => ?_)
  · refine lv_goto (tgt := 2920) hx hb dL_law_1178 (by decide) ?_
    exact kk ls H locs _ (lv_sub hl [2, 3, 4, 5, 6, 7] rfl) hM
  obtain ⟨f, ho, hf0⟩ := hk h0
  refine lv_aload_n hx hb dL_law_1166 rfl (lv_at hl 5 rfl) ?_
  refine lv_iconst (v := 0) hx hb dL_law_1167 (by decide) ?_
  refine me_lald (k := 0) hC hM ho rfl (by decide) (by decide) dL_law_1168 ?_
  refine lv_iload hx hb dL_law_1169 (lv_at hl 0 rfl) ?_
  refine lv_i2l hx hb dL_law_1171 rfl ?_
  refine W.lcmp hx hb dL_law_1172 ?_
  refine lv_if_eq (tgt := 1178) hx hb dL_law_1173 (by decide) (fun _ => ?_) (fun h => absurd (lw_lself hf0) h)
  refine lv_goto (tgt := 2920) hx hb dL_law_1178 (by decide) ?_
  exact kk ls H locs _ (lv_sub hl [2, 3, 4, 5, 6, 7] rfl) hM
set_option maxHeartbeats 4000000 in
theorem lw_c25 (hC : me_cx ws_all p c cL_law 10 s args m RL D tb X z0) (hl : lv_has ls 10 [(0, .ref b), (1, .ref bo), (2, .ref mo), (3, .ref oa), (4, .ref da), (5, .int (nI i))]) (hR : 14 ≤ R.frames ∧ 522 ≤ R.locals) (hM : me_at D z0 M n s H locs) (hX : va_X b L xs s s.heap) (hbl : b < s.heap.size) (hbA : ¬ me_A z0 b) (hi : i + 6 ≤ L) (hL : L ≤ 3072) (hrc2 : rm2.cells = mc2) (hrs2 : rm2.slots = ms2) (hr2 : rm2.frames ≤ 13 ∧ rm2.locals ≤ 480) (he1 : M1 mo = some (.inr (8, fs))) (he2 : M2 mo = some (.inr (8, fs2))) (hf : cells + mc + mc2 ≤ R.cells ∧ slots + ms + ms2 ≤ R.slots) (ct1 : Met l yL_startOf (.codeWith yL_startOf cL_startOf 4 (some .int) [(0, 9, 12, 19)] :: ws_all) ({ frames := 13, cells := mc, slots := ms, locals := 480 } : Room) (me_Pc [.ref bo, .int (xs (i + 1)), .ref oa] D tb X z0 M n) (me_Qn D z0 k M1) mc ms (me_A z0)) (ct2 : ∀ n1, Met l yX8_startOf (.code yX8_startOf cX8_startOf 2 (some .int) :: ws_all) rm2 (me_Pc [.ref mo, .int (xs (i + 1))] D tb X z0 M1 n1) (me_Qi D z0 r M2 (n2 n1)) mc2 ms2 (me_A z0)) (ct3 : ∀ n1, Met l yX8_thrown (.code yX8_thrown cX8_thrown 1 (some .int) :: ws_all) ({ frames := 0, cells := 0, slots := 0, locals := 0 } : Room) (me_Pc [.ref mo] D tb X z0 M2 n1) (me_Qi D z0 k M2 n1) 0 0 (me_A z0)) (hk : k = 0 → ∃ f : Nat → Int64, M2 oa = some (.inl (tb 3, 1, .inr (.inl f))) ∧ f 0 = r.toInt64) (kk : ∀ (ls1 : Array Slot) (H1 : Heap) (locs1 : List Loc) (n5 : Nat), lv_has ls1 10 [(0, .ref b), (1, .ref bo), (2, .ref mo), (3, .ref oa), (4, .ref da), (5, .int (nI i))] → me_at D z0 M2 n5 s H1 locs1 → W p l e R s m args below meth c H1 locs1 (cells + mc + mc2) (slots + ms + ms2) Q (F0 m 2920 ls1 [])) : W p l e R s m args below meth c H locs cells slots Q (F0 m 1181 ls []) := by
  have hx := hC.1
  have hb := hC.2.1
  have hw := hC.2.2.2.2.1
  refine lv_aload_n hx hb dL_law_1181 rfl (lv_at hl 1 rfl) ?_
  refine lv_aload_n hx hb dL_law_1182 rfl (lv_at hl 0 rfl) ?_
  refine lv_iload hx hb dL_law_1183 (lv_at hl 5 rfl) ?_
  refine lv_iconst (v := 1) hx hb dL_law_1185 (by decide) ?_
  refine lv_iadd hx hb dL_law_1186 ?_
  refine lw_rd (k := 1) hx hb hX hbl hbA hM.2.2.2.2 rfl (by omega) hL dL_law_1187 ?_
  refine lv_aload_n hx hb dL_law_1188 rfl (lv_at hl 3 rfl) ?_
  refine me_callSn (nA := 3) (As := [.ref bo, .int (xs (i + 1)), .ref oa]) (rest := []) hC hl.1 hM ct1 w_904 w_905 w_0 w_906 (by decide +kernel) rfl rfl ⟨by show 13 + 1 ≤ R.frames; omega, by show 8 + (4 + 11) + 480 ≤ R.locals; omega⟩ rfl rfl (Nat.le_of_ble_eq_true rfl) dL_law_1189 ⟨by omega, by omega⟩ (fun H locs n1 hM => ?_)
  refine lv_istore (lv' := [(6, .int k), (0, .ref b), (1, .ref bo), (2, .ref mo), (3, .ref oa), (4, .ref da), (5, .int (nI i))]) hx hb dL_law_1192 hl (by decide) rfl (fun ls hl => ?_)
  refine lv_aload_n hx hb dL_law_1194 rfl (lv_at hl 3 rfl) ?_
  refine lv_aload_n hx hb dL_law_1195 rfl (lv_at hl 1 rfl) ?_
  refine lv_iload hx hb dL_law_1196 (lv_at hl 6 rfl) ?_
  refine lv_iconst (v := 1) hx hb dL_law_1198 (by decide) ?_
  refine lv_iadd hx hb dL_law_1199 ?_
  refine lw_rd (k := 1) hx hb hX hbl hbA hM.2.2.2.2 rfl (by omega) hL dL_law_1200 ?_
  refine me_callVi (As := [.int (xs (i + 1))]) (rest := []) hC hl.1 hM (ct2 n1) (kv_L_238 hw hrc2 hrs2 ⟨by omega, by show 8 + (2 + 11) + rm2.locals ≤ R.locals; omega⟩) rfl rfl he1 rfl (Nat.le_of_ble_eq_true rfl) dL_law_1201 ⟨by omega, by omega⟩ (fun H locs hM => ?_)
  refine lv_istore (lv' := [(7, .int r), (6, .int k), (0, .ref b), (1, .ref bo), (2, .ref mo), (3, .ref oa), (4, .ref da), (5, .int (nI i))]) hx hb dL_law_1204 hl (by decide) rfl (fun ls hl => ?_)
  refine lv_aload_n hx hb dL_law_1206 rfl (lv_at hl 4 rfl) ?_
  refine me_callVi (As := []) (rest := []) hC hl.1 hM (ct3 _) (kv_L_145 hw rfl rfl ⟨by show 0 + 1 ≤ R.frames; omega, by show 8 + (1 + 11) + 0 ≤ R.locals; omega⟩) rfl rfl he2 rfl (Nat.le_of_ble_eq_true rfl) dL_law_1207 ⟨by omega, by omega⟩ (fun H locs hM => ?_)
  refine lv_iload hx hb dL_law_1210 (lv_at hl 1 rfl) ?_
  refine lv_icmp_eq (tgt := 1217) hx hb dL_law_1212 (by decide) (fun _ => ?_) (fun h => absurd rfl h)
  refine lv_iload hx hb dL_law_1217 (lv_at hl 1 rfl) ?_
  refine lv_if_ne (tgt := 1234) hx hb dL_law_1219 (by decide) (fun _ => ?_) (fun h0 => ?_)
  · refine lv_goto (tgt := 2920) hx hb dL_law_1234 (by decide) ?_
    exact kk ls H locs _ (lv_sub hl [2, 3, 4, 5, 6, 7] rfl) hM
  obtain ⟨f, ho, hf0⟩ := hk h0
  refine lv_aload_n hx hb dL_law_1222 rfl (lv_at hl 5 rfl) ?_
  refine lv_iconst (v := 0) hx hb dL_law_1223 (by decide) ?_
  refine me_lald (k := 0) hC hM ho rfl (by decide) (by decide) dL_law_1224 ?_
  refine lv_iload hx hb dL_law_1225 (lv_at hl 0 rfl) ?_
  refine lv_i2l hx hb dL_law_1227 rfl ?_
  refine W.lcmp hx hb dL_law_1228 ?_
  refine lv_if_eq (tgt := 1234) hx hb dL_law_1229 (by decide) (fun _ => ?_) (fun h => absurd (lw_lself hf0) h)
  refine lv_goto (tgt := 2920) hx hb dL_law_1234 (by decide) ?_
  exact kk ls H locs _ (lv_sub hl [2, 3, 4, 5, 6, 7] rfl) hM
set_option maxHeartbeats 4000000 in
theorem lw_c26 (hC : me_cx ws_all p c cL_law 10 s args m RL D tb X z0) (hl : lv_has ls 10 [(0, .ref b), (1, .ref bo), (2, .ref mo), (3, .ref oa), (4, .ref da), (5, .int (nI i))]) (hR : 14 ≤ R.frames ∧ 522 ≤ R.locals) (hM : me_at D z0 M n s H locs) (hX : va_X b L xs s s.heap) (hbl : b < s.heap.size) (hbA : ¬ me_A z0 b) (hi : i + 6 ≤ L) (hL : L ≤ 3072) (hrc2 : rm2.cells = mc2) (hrs2 : rm2.slots = ms2) (hr2 : rm2.frames ≤ 13 ∧ rm2.locals ≤ 480) (he1 : M1 mo = some (.inr (8, fs))) (he2 : M2 mo = some (.inr (8, fs2))) (hf : cells + mc + mc2 ≤ R.cells ∧ slots + ms + ms2 ≤ R.slots) (ct1 : Met l yL_lengthOf (.codeWith yL_lengthOf cL_lengthOf 4 (some .int) [(0, 9, 12, 19)] :: ws_all) ({ frames := 13, cells := mc, slots := ms, locals := 480 } : Room) (me_Pc [.ref bo, .int (xs (i + 1)), .ref oa] D tb X z0 M n) (me_Qn D z0 k M1) mc ms (me_A z0)) (ct2 : ∀ n1, Met l yX8_lengthOf (.code yX8_lengthOf cX8_lengthOf 2 (some .int) :: ws_all) rm2 (me_Pc [.ref mo, .int (xs (i + 1))] D tb X z0 M1 n1) (me_Qi D z0 r M2 (n2 n1)) mc2 ms2 (me_A z0)) (ct3 : ∀ n1, Met l yX8_thrown (.code yX8_thrown cX8_thrown 1 (some .int) :: ws_all) ({ frames := 0, cells := 0, slots := 0, locals := 0 } : Room) (me_Pc [.ref mo] D tb X z0 M2 n1) (me_Qi D z0 k M2 n1) 0 0 (me_A z0)) (hk : k = 0 → ∃ f : Nat → Int64, M2 oa = some (.inl (tb 3, 1, .inr (.inl f))) ∧ f 0 = r.toInt64) (kk : ∀ (ls1 : Array Slot) (H1 : Heap) (locs1 : List Loc) (n5 : Nat), lv_has ls1 10 [(0, .ref b), (1, .ref bo), (2, .ref mo), (3, .ref oa), (4, .ref da), (5, .int (nI i))] → me_at D z0 M2 n5 s H1 locs1 → W p l e R s m args below meth c H1 locs1 (cells + mc + mc2) (slots + ms + ms2) Q (F0 m 2920 ls1 [])) : W p l e R s m args below meth c H locs cells slots Q (F0 m 1237 ls []) := by
  have hx := hC.1
  have hb := hC.2.1
  have hw := hC.2.2.2.2.1
  refine lv_aload_n hx hb dL_law_1237 rfl (lv_at hl 1 rfl) ?_
  refine lv_aload_n hx hb dL_law_1238 rfl (lv_at hl 0 rfl) ?_
  refine lv_iload hx hb dL_law_1239 (lv_at hl 5 rfl) ?_
  refine lv_iconst (v := 1) hx hb dL_law_1241 (by decide) ?_
  refine lv_iadd hx hb dL_law_1242 ?_
  refine lw_rd (k := 1) hx hb hX hbl hbA hM.2.2.2.2 rfl (by omega) hL dL_law_1243 ?_
  refine lv_aload_n hx hb dL_law_1244 rfl (lv_at hl 3 rfl) ?_
  refine me_callSn (nA := 3) (As := [.ref bo, .int (xs (i + 1)), .ref oa]) (rest := []) hC hl.1 hM ct1 w_911 w_912 w_0 w_913 (by decide +kernel) rfl rfl ⟨by show 13 + 1 ≤ R.frames; omega, by show 8 + (4 + 11) + 480 ≤ R.locals; omega⟩ rfl rfl (Nat.le_of_ble_eq_true rfl) dL_law_1245 ⟨by omega, by omega⟩ (fun H locs n1 hM => ?_)
  refine lv_istore (lv' := [(6, .int k), (0, .ref b), (1, .ref bo), (2, .ref mo), (3, .ref oa), (4, .ref da), (5, .int (nI i))]) hx hb dL_law_1248 hl (by decide) rfl (fun ls hl => ?_)
  refine lv_aload_n hx hb dL_law_1250 rfl (lv_at hl 3 rfl) ?_
  refine lv_aload_n hx hb dL_law_1251 rfl (lv_at hl 1 rfl) ?_
  refine lv_iload hx hb dL_law_1252 (lv_at hl 6 rfl) ?_
  refine lv_iconst (v := 1) hx hb dL_law_1254 (by decide) ?_
  refine lv_iadd hx hb dL_law_1255 ?_
  refine lw_rd (k := 1) hx hb hX hbl hbA hM.2.2.2.2 rfl (by omega) hL dL_law_1256 ?_
  refine me_callVi (As := [.int (xs (i + 1))]) (rest := []) hC hl.1 hM (ct2 n1) (kv_L_241 hw hrc2 hrs2 ⟨by omega, by show 8 + (2 + 11) + rm2.locals ≤ R.locals; omega⟩) rfl rfl he1 rfl (Nat.le_of_ble_eq_true rfl) dL_law_1257 ⟨by omega, by omega⟩ (fun H locs hM => ?_)
  refine lv_istore (lv' := [(7, .int r), (6, .int k), (0, .ref b), (1, .ref bo), (2, .ref mo), (3, .ref oa), (4, .ref da), (5, .int (nI i))]) hx hb dL_law_1260 hl (by decide) rfl (fun ls hl => ?_)
  refine lv_aload_n hx hb dL_law_1262 rfl (lv_at hl 4 rfl) ?_
  refine me_callVi (As := []) (rest := []) hC hl.1 hM (ct3 _) (kv_L_145 hw rfl rfl ⟨by show 0 + 1 ≤ R.frames; omega, by show 8 + (1 + 11) + 0 ≤ R.locals; omega⟩) rfl rfl he2 rfl (Nat.le_of_ble_eq_true rfl) dL_law_1263 ⟨by omega, by omega⟩ (fun H locs hM => ?_)
  refine lv_iload hx hb dL_law_1266 (lv_at hl 1 rfl) ?_
  refine lv_icmp_eq (tgt := 1273) hx hb dL_law_1268 (by decide) (fun _ => ?_) (fun h => absurd rfl h)
  refine lv_iload hx hb dL_law_1273 (lv_at hl 1 rfl) ?_
  refine lv_if_ne (tgt := 1290) hx hb dL_law_1275 (by decide) (fun _ => ?_) (fun h0 => ?_)
  · refine lv_goto (tgt := 2920) hx hb dL_law_1290 (by decide) ?_
    exact kk ls H locs _ (lv_sub hl [2, 3, 4, 5, 6, 7] rfl) hM
  obtain ⟨f, ho, hf0⟩ := hk h0
  refine lv_aload_n hx hb dL_law_1278 rfl (lv_at hl 5 rfl) ?_
  refine lv_iconst (v := 0) hx hb dL_law_1279 (by decide) ?_
  refine me_lald (k := 0) hC hM ho rfl (by decide) (by decide) dL_law_1280 ?_
  refine lv_iload hx hb dL_law_1281 (lv_at hl 0 rfl) ?_
  refine lv_i2l hx hb dL_law_1283 rfl ?_
  refine W.lcmp hx hb dL_law_1284 ?_
  refine lv_if_eq (tgt := 1290) hx hb dL_law_1285 (by decide) (fun _ => ?_) (fun h => absurd (lw_lself hf0) h)
  refine lv_goto (tgt := 2920) hx hb dL_law_1290 (by decide) ?_
  exact kk ls H locs _ (lv_sub hl [2, 3, 4, 5, 6, 7] rfl) hM
set_option maxHeartbeats 4000000 in
theorem lw_c27 (hC : me_cx ws_all p c cL_law 10 s args m RL D tb X z0) (hl : lv_has ls 10 [(0, .ref b), (1, .ref bo), (2, .ref mo), (3, .ref oa), (4, .ref da), (5, .int (nI i))]) (hR : 14 ≤ R.frames ∧ 522 ≤ R.locals) (hM : me_at D z0 M n s H locs) (hX : va_X b L xs s s.heap) (hbl : b < s.heap.size) (hbA : ¬ me_A z0 b) (hi : i + 6 ≤ L) (hL : L ≤ 3072) (hrc2 : rm2.cells = mc2) (hrs2 : rm2.slots = ms2) (hr2 : rm2.frames ≤ 13 ∧ rm2.locals ≤ 480) (he1 : M1 mo = some (.inr (8, fs))) (he2 : M2 mo = some (.inr (8, fs2))) (hf : cells + mc + mc2 ≤ R.cells ∧ slots + ms + ms2 ≤ R.slots) (ct1 : Met l yL_priceOf (.codeWith yL_priceOf cL_priceOf 4 (some .int) [(0, 9, 12, 19)] :: ws_all) ({ frames := 13, cells := mc, slots := ms, locals := 480 } : Room) (me_Pc [.ref bo, .int (xs (i + 1)), .ref oa] D tb X z0 M n) (me_Qn D z0 k M1) mc ms (me_A z0)) (ct2 : ∀ n1, Met l yX8_priceOf (.code yX8_priceOf cX8_priceOf 2 (some .int) :: ws_all) rm2 (me_Pc [.ref mo, .int (xs (i + 1))] D tb X z0 M1 n1) (me_Qi D z0 r M2 (n2 n1)) mc2 ms2 (me_A z0)) (ct3 : ∀ n1, Met l yX8_thrown (.code yX8_thrown cX8_thrown 1 (some .int) :: ws_all) ({ frames := 0, cells := 0, slots := 0, locals := 0 } : Room) (me_Pc [.ref mo] D tb X z0 M2 n1) (me_Qi D z0 k M2 n1) 0 0 (me_A z0)) (hk : k = 0 → ∃ f : Nat → Int64, M2 oa = some (.inl (tb 3, 1, .inr (.inl f))) ∧ f 0 = r.toInt64) (kk : ∀ (ls1 : Array Slot) (H1 : Heap) (locs1 : List Loc) (n5 : Nat), lv_has ls1 10 [(0, .ref b), (1, .ref bo), (2, .ref mo), (3, .ref oa), (4, .ref da), (5, .int (nI i))] → me_at D z0 M2 n5 s H1 locs1 → W p l e R s m args below meth c H1 locs1 (cells + mc + mc2) (slots + ms + ms2) Q (F0 m 2920 ls1 [])) : W p l e R s m args below meth c H locs cells slots Q (F0 m 1293 ls []) := by
  have hx := hC.1
  have hb := hC.2.1
  have hw := hC.2.2.2.2.1
  refine lv_aload_n hx hb dL_law_1293 rfl (lv_at hl 1 rfl) ?_
  refine lv_aload_n hx hb dL_law_1294 rfl (lv_at hl 0 rfl) ?_
  refine lv_iload hx hb dL_law_1295 (lv_at hl 5 rfl) ?_
  refine lv_iconst (v := 1) hx hb dL_law_1297 (by decide) ?_
  refine lv_iadd hx hb dL_law_1298 ?_
  refine lw_rd (k := 1) hx hb hX hbl hbA hM.2.2.2.2 rfl (by omega) hL dL_law_1299 ?_
  refine lv_aload_n hx hb dL_law_1300 rfl (lv_at hl 3 rfl) ?_
  refine me_callSn (nA := 3) (As := [.ref bo, .int (xs (i + 1)), .ref oa]) (rest := []) hC hl.1 hM ct1 w_918 w_919 w_0 w_920 (by decide +kernel) rfl rfl ⟨by show 13 + 1 ≤ R.frames; omega, by show 8 + (4 + 11) + 480 ≤ R.locals; omega⟩ rfl rfl (Nat.le_of_ble_eq_true rfl) dL_law_1301 ⟨by omega, by omega⟩ (fun H locs n1 hM => ?_)
  refine lv_istore (lv' := [(6, .int k), (0, .ref b), (1, .ref bo), (2, .ref mo), (3, .ref oa), (4, .ref da), (5, .int (nI i))]) hx hb dL_law_1304 hl (by decide) rfl (fun ls hl => ?_)
  refine lv_aload_n hx hb dL_law_1306 rfl (lv_at hl 3 rfl) ?_
  refine lv_aload_n hx hb dL_law_1307 rfl (lv_at hl 1 rfl) ?_
  refine lv_iload hx hb dL_law_1308 (lv_at hl 6 rfl) ?_
  refine lv_iconst (v := 1) hx hb dL_law_1310 (by decide) ?_
  refine lv_iadd hx hb dL_law_1311 ?_
  refine lw_rd (k := 1) hx hb hX hbl hbA hM.2.2.2.2 rfl (by omega) hL dL_law_1312 ?_
  refine me_callVi (As := [.int (xs (i + 1))]) (rest := []) hC hl.1 hM (ct2 n1) (kv_L_244 hw hrc2 hrs2 ⟨by omega, by show 8 + (2 + 11) + rm2.locals ≤ R.locals; omega⟩) rfl rfl he1 rfl (Nat.le_of_ble_eq_true rfl) dL_law_1313 ⟨by omega, by omega⟩ (fun H locs hM => ?_)
  refine lv_istore (lv' := [(7, .int r), (6, .int k), (0, .ref b), (1, .ref bo), (2, .ref mo), (3, .ref oa), (4, .ref da), (5, .int (nI i))]) hx hb dL_law_1316 hl (by decide) rfl (fun ls hl => ?_)
  refine lv_aload_n hx hb dL_law_1318 rfl (lv_at hl 4 rfl) ?_
  refine me_callVi (As := []) (rest := []) hC hl.1 hM (ct3 _) (kv_L_145 hw rfl rfl ⟨by show 0 + 1 ≤ R.frames; omega, by show 8 + (1 + 11) + 0 ≤ R.locals; omega⟩) rfl rfl he2 rfl (Nat.le_of_ble_eq_true rfl) dL_law_1319 ⟨by omega, by omega⟩ (fun H locs hM => ?_)
  refine lv_iload hx hb dL_law_1322 (lv_at hl 1 rfl) ?_
  refine lv_icmp_eq (tgt := 1329) hx hb dL_law_1324 (by decide) (fun _ => ?_) (fun h => absurd rfl h)
  refine lv_iload hx hb dL_law_1329 (lv_at hl 1 rfl) ?_
  refine lv_if_ne (tgt := 1346) hx hb dL_law_1331 (by decide) (fun _ => ?_) (fun h0 => ?_)
  · refine lv_goto (tgt := 2920) hx hb dL_law_1346 (by decide) ?_
    exact kk ls H locs _ (lv_sub hl [2, 3, 4, 5, 6, 7] rfl) hM
  obtain ⟨f, ho, hf0⟩ := hk h0
  refine lv_aload_n hx hb dL_law_1334 rfl (lv_at hl 5 rfl) ?_
  refine lv_iconst (v := 0) hx hb dL_law_1335 (by decide) ?_
  refine me_lald (k := 0) hC hM ho rfl (by decide) (by decide) dL_law_1336 ?_
  refine lv_iload hx hb dL_law_1337 (lv_at hl 0 rfl) ?_
  refine lv_i2l hx hb dL_law_1339 rfl ?_
  refine W.lcmp hx hb dL_law_1340 ?_
  refine lv_if_eq (tgt := 1346) hx hb dL_law_1341 (by decide) (fun _ => ?_) (fun h => absurd (lw_lself hf0) h)
  refine lv_goto (tgt := 2920) hx hb dL_law_1346 (by decide) ?_
  exact kk ls H locs _ (lv_sub hl [2, 3, 4, 5, 6, 7] rfl) hM
set_option maxHeartbeats 4000000 in
theorem lw_c28 (hC : me_cx ws_all p c cL_law 10 s args m RL D tb X z0) (hl : lv_has ls 10 [(0, .ref b), (1, .ref bo), (2, .ref mo), (3, .ref oa), (4, .ref da), (5, .int (nI i))]) (hR : 14 ≤ R.frames ∧ 522 ≤ R.locals) (hM : me_at D z0 M n s H locs) (hX : va_X b L xs s s.heap) (hbl : b < s.heap.size) (hbA : ¬ me_A z0 b) (hi : i + 6 ≤ L) (hL : L ≤ 3072) (hrc2 : rm2.cells = mc2) (hrs2 : rm2.slots = ms2) (hr2 : rm2.frames ≤ 13 ∧ rm2.locals ≤ 480) (he1 : M1 mo = some (.inr (8, fs))) (he2 : M2 mo = some (.inr (8, fs2))) (hf : cells + mc + mc2 ≤ R.cells ∧ slots + ms + ms2 ≤ R.slots) (ct1 : Met l yL_statusOf (.codeWith yL_statusOf cL_statusOf 4 (some .int) [(0, 9, 12, 19)] :: ws_all) ({ frames := 13, cells := mc, slots := ms, locals := 480 } : Room) (me_Pc [.ref bo, .int (xs (i + 1)), .ref oa] D tb X z0 M n) (me_Qn D z0 k M1) mc ms (me_A z0)) (ct2 : ∀ n1, Met l yX8_statusOf (.code yX8_statusOf cX8_statusOf 2 (some .int) :: ws_all) rm2 (me_Pc [.ref mo, .int (xs (i + 1))] D tb X z0 M1 n1) (me_Qi D z0 r M2 (n2 n1)) mc2 ms2 (me_A z0)) (ct3 : ∀ n1, Met l yX8_thrown (.code yX8_thrown cX8_thrown 1 (some .int) :: ws_all) ({ frames := 0, cells := 0, slots := 0, locals := 0 } : Room) (me_Pc [.ref mo] D tb X z0 M2 n1) (me_Qi D z0 k M2 n1) 0 0 (me_A z0)) (hk : k = 0 → ∃ f : Nat → Int64, M2 oa = some (.inl (tb 3, 1, .inr (.inl f))) ∧ f 0 = r.toInt64) (kk : ∀ (ls1 : Array Slot) (H1 : Heap) (locs1 : List Loc) (n5 : Nat), lv_has ls1 10 [(0, .ref b), (1, .ref bo), (2, .ref mo), (3, .ref oa), (4, .ref da), (5, .int (nI i))] → me_at D z0 M2 n5 s H1 locs1 → W p l e R s m args below meth c H1 locs1 (cells + mc + mc2) (slots + ms + ms2) Q (F0 m 2920 ls1 [])) : W p l e R s m args below meth c H locs cells slots Q (F0 m 1349 ls []) := by
  have hx := hC.1
  have hb := hC.2.1
  have hw := hC.2.2.2.2.1
  refine lv_aload_n hx hb dL_law_1349 rfl (lv_at hl 1 rfl) ?_
  refine lv_aload_n hx hb dL_law_1350 rfl (lv_at hl 0 rfl) ?_
  refine lv_iload hx hb dL_law_1351 (lv_at hl 5 rfl) ?_
  refine lv_iconst (v := 1) hx hb dL_law_1353 (by decide) ?_
  refine lv_iadd hx hb dL_law_1354 ?_
  refine lw_rd (k := 1) hx hb hX hbl hbA hM.2.2.2.2 rfl (by omega) hL dL_law_1355 ?_
  refine lv_aload_n hx hb dL_law_1356 rfl (lv_at hl 3 rfl) ?_
  refine me_callSn (nA := 3) (As := [.ref bo, .int (xs (i + 1)), .ref oa]) (rest := []) hC hl.1 hM ct1 w_925 w_926 w_0 w_927 (by decide +kernel) rfl rfl ⟨by show 13 + 1 ≤ R.frames; omega, by show 8 + (4 + 11) + 480 ≤ R.locals; omega⟩ rfl rfl (Nat.le_of_ble_eq_true rfl) dL_law_1357 ⟨by omega, by omega⟩ (fun H locs n1 hM => ?_)
  refine lv_istore (lv' := [(6, .int k), (0, .ref b), (1, .ref bo), (2, .ref mo), (3, .ref oa), (4, .ref da), (5, .int (nI i))]) hx hb dL_law_1360 hl (by decide) rfl (fun ls hl => ?_)
  refine lv_aload_n hx hb dL_law_1362 rfl (lv_at hl 3 rfl) ?_
  refine lv_aload_n hx hb dL_law_1363 rfl (lv_at hl 1 rfl) ?_
  refine lv_iload hx hb dL_law_1364 (lv_at hl 6 rfl) ?_
  refine lv_iconst (v := 1) hx hb dL_law_1366 (by decide) ?_
  refine lv_iadd hx hb dL_law_1367 ?_
  refine lw_rd (k := 1) hx hb hX hbl hbA hM.2.2.2.2 rfl (by omega) hL dL_law_1368 ?_
  refine me_callVi (As := [.int (xs (i + 1))]) (rest := []) hC hl.1 hM (ct2 n1) (kv_L_247 hw hrc2 hrs2 ⟨by omega, by show 8 + (2 + 11) + rm2.locals ≤ R.locals; omega⟩) rfl rfl he1 rfl (Nat.le_of_ble_eq_true rfl) dL_law_1369 ⟨by omega, by omega⟩ (fun H locs hM => ?_)
  refine lv_istore (lv' := [(7, .int r), (6, .int k), (0, .ref b), (1, .ref bo), (2, .ref mo), (3, .ref oa), (4, .ref da), (5, .int (nI i))]) hx hb dL_law_1372 hl (by decide) rfl (fun ls hl => ?_)
  refine lv_aload_n hx hb dL_law_1374 rfl (lv_at hl 4 rfl) ?_
  refine me_callVi (As := []) (rest := []) hC hl.1 hM (ct3 _) (kv_L_145 hw rfl rfl ⟨by show 0 + 1 ≤ R.frames; omega, by show 8 + (1 + 11) + 0 ≤ R.locals; omega⟩) rfl rfl he2 rfl (Nat.le_of_ble_eq_true rfl) dL_law_1375 ⟨by omega, by omega⟩ (fun H locs hM => ?_)
  refine lv_iload hx hb dL_law_1378 (lv_at hl 1 rfl) ?_
  refine lv_icmp_eq (tgt := 1385) hx hb dL_law_1380 (by decide) (fun _ => ?_) (fun h => absurd rfl h)
  refine lv_iload hx hb dL_law_1385 (lv_at hl 1 rfl) ?_
  refine lv_if_ne (tgt := 1402) hx hb dL_law_1387 (by decide) (fun _ => ?_) (fun h0 => ?_)
  · refine lv_goto (tgt := 2920) hx hb dL_law_1402 (by decide) ?_
    exact kk ls H locs _ (lv_sub hl [2, 3, 4, 5, 6, 7] rfl) hM
  obtain ⟨f, ho, hf0⟩ := hk h0
  refine lv_aload_n hx hb dL_law_1390 rfl (lv_at hl 5 rfl) ?_
  refine lv_iconst (v := 0) hx hb dL_law_1391 (by decide) ?_
  refine me_lald (k := 0) hC hM ho rfl (by decide) (by decide) dL_law_1392 ?_
  refine lv_iload hx hb dL_law_1393 (lv_at hl 0 rfl) ?_
  refine lv_i2l hx hb dL_law_1395 rfl ?_
  refine W.lcmp hx hb dL_law_1396 ?_
  refine lv_if_eq (tgt := 1402) hx hb dL_law_1397 (by decide) (fun _ => ?_) (fun h => absurd (lw_lself hf0) h)
  refine lv_goto (tgt := 2920) hx hb dL_law_1402 (by decide) ?_
  exact kk ls H locs _ (lv_sub hl [2, 3, 4, 5, 6, 7] rfl) hM
set_option maxHeartbeats 4000000 in
theorem lw_c29 (hC : me_cx ws_all p c cL_law 10 s args m RL D tb X z0) (hl : lv_has ls 10 [(0, .ref b), (1, .ref bo), (2, .ref mo), (3, .ref oa), (4, .ref da), (5, .int (nI i))]) (hR : 14 ≤ R.frames ∧ 522 ≤ R.locals) (hM : me_at D z0 M n s H locs) (hX : va_X b L xs s s.heap) (hbl : b < s.heap.size) (hbA : ¬ me_A z0 b) (hi : i + 6 ≤ L) (hL : L ≤ 3072) (hrc2 : rm2.cells = mc2) (hrs2 : rm2.slots = ms2) (hr2 : rm2.frames ≤ 13 ∧ rm2.locals ≤ 480) (he1 : M1 mo = some (.inr (8, fs))) (he2 : M2 mo = some (.inr (8, fs2))) (hf : cells + mc + mc2 ≤ R.cells ∧ slots + ms + ms2 ≤ R.slots) (ct1 : Met l yL_holderOf (.codeWith yL_holderOf cL_holderOf 4 (some .int) [(0, 9, 12, 21)] :: ws_all) ({ frames := 13, cells := mc, slots := ms, locals := 480 } : Room) (me_Pc [.ref bo, .int (xs (i + 1)), .ref oa] D tb X z0 M n) (me_Qn D z0 k M1) mc ms (me_A z0)) (ct2 : ∀ n1, Met l yX8_holderOf (.code yX8_holderOf cX8_holderOf 2 (some .int) :: ws_all) rm2 (me_Pc [.ref mo, .int (xs (i + 1))] D tb X z0 M1 n1) (me_Qi D z0 r M2 (n2 n1)) mc2 ms2 (me_A z0)) (ct3 : ∀ n1, Met l yX8_thrown (.code yX8_thrown cX8_thrown 1 (some .int) :: ws_all) ({ frames := 0, cells := 0, slots := 0, locals := 0 } : Room) (me_Pc [.ref mo] D tb X z0 M2 n1) (me_Qi D z0 k M2 n1) 0 0 (me_A z0)) (hk : k = 0 → ∃ f : Nat → Int64, M2 oa = some (.inl (tb 3, 1, .inr (.inl f))) ∧ f 0 = r.toInt64) (kk : ∀ (ls1 : Array Slot) (H1 : Heap) (locs1 : List Loc) (n5 : Nat), lv_has ls1 10 [(0, .ref b), (1, .ref bo), (2, .ref mo), (3, .ref oa), (4, .ref da), (5, .int (nI i))] → me_at D z0 M2 n5 s H1 locs1 → W p l e R s m args below meth c H1 locs1 (cells + mc + mc2) (slots + ms + ms2) Q (F0 m 2920 ls1 [])) : W p l e R s m args below meth c H locs cells slots Q (F0 m 1405 ls []) := by
  have hx := hC.1
  have hb := hC.2.1
  have hw := hC.2.2.2.2.1
  refine lv_aload_n hx hb dL_law_1405 rfl (lv_at hl 1 rfl) ?_
  refine lv_aload_n hx hb dL_law_1406 rfl (lv_at hl 0 rfl) ?_
  refine lv_iload hx hb dL_law_1407 (lv_at hl 5 rfl) ?_
  refine lv_iconst (v := 1) hx hb dL_law_1409 (by decide) ?_
  refine lv_iadd hx hb dL_law_1410 ?_
  refine lw_rd (k := 1) hx hb hX hbl hbA hM.2.2.2.2 rfl (by omega) hL dL_law_1411 ?_
  refine lv_aload_n hx hb dL_law_1412 rfl (lv_at hl 3 rfl) ?_
  refine me_callSn (nA := 3) (As := [.ref bo, .int (xs (i + 1)), .ref oa]) (rest := []) hC hl.1 hM ct1 w_932 w_933 w_0 w_934 (by decide +kernel) rfl rfl ⟨by show 13 + 1 ≤ R.frames; omega, by show 8 + (4 + 11) + 480 ≤ R.locals; omega⟩ rfl rfl (Nat.le_of_ble_eq_true rfl) dL_law_1413 ⟨by omega, by omega⟩ (fun H locs n1 hM => ?_)
  refine lv_istore (lv' := [(6, .int k), (0, .ref b), (1, .ref bo), (2, .ref mo), (3, .ref oa), (4, .ref da), (5, .int (nI i))]) hx hb dL_law_1416 hl (by decide) rfl (fun ls hl => ?_)
  refine lv_aload_n hx hb dL_law_1418 rfl (lv_at hl 3 rfl) ?_
  refine lv_aload_n hx hb dL_law_1419 rfl (lv_at hl 1 rfl) ?_
  refine lv_iload hx hb dL_law_1420 (lv_at hl 6 rfl) ?_
  refine lv_iconst (v := 1) hx hb dL_law_1422 (by decide) ?_
  refine lv_iadd hx hb dL_law_1423 ?_
  refine lw_rd (k := 1) hx hb hX hbl hbA hM.2.2.2.2 rfl (by omega) hL dL_law_1424 ?_
  refine me_callVi (As := [.int (xs (i + 1))]) (rest := []) hC hl.1 hM (ct2 n1) (kv_L_250 hw hrc2 hrs2 ⟨by omega, by show 8 + (2 + 11) + rm2.locals ≤ R.locals; omega⟩) rfl rfl he1 rfl (Nat.le_of_ble_eq_true rfl) dL_law_1425 ⟨by omega, by omega⟩ (fun H locs hM => ?_)
  refine lv_istore (lv' := [(7, .int r), (6, .int k), (0, .ref b), (1, .ref bo), (2, .ref mo), (3, .ref oa), (4, .ref da), (5, .int (nI i))]) hx hb dL_law_1428 hl (by decide) rfl (fun ls hl => ?_)
  refine lv_aload_n hx hb dL_law_1430 rfl (lv_at hl 4 rfl) ?_
  refine me_callVi (As := []) (rest := []) hC hl.1 hM (ct3 _) (kv_L_145 hw rfl rfl ⟨by show 0 + 1 ≤ R.frames; omega, by show 8 + (1 + 11) + 0 ≤ R.locals; omega⟩) rfl rfl he2 rfl (Nat.le_of_ble_eq_true rfl) dL_law_1431 ⟨by omega, by omega⟩ (fun H locs hM => ?_)
  refine lv_iload hx hb dL_law_1434 (lv_at hl 1 rfl) ?_
  refine lv_icmp_eq (tgt := 1441) hx hb dL_law_1436 (by decide) (fun _ => ?_) (fun h => absurd rfl h)
  refine lv_iload hx hb dL_law_1441 (lv_at hl 1 rfl) ?_
  refine lv_if_ne (tgt := 1458) hx hb dL_law_1443 (by decide) (fun _ => ?_) (fun h0 => ?_)
  · refine lv_goto (tgt := 2920) hx hb dL_law_1458 (by decide) ?_
    exact kk ls H locs _ (lv_sub hl [2, 3, 4, 5, 6, 7] rfl) hM
  obtain ⟨f, ho, hf0⟩ := hk h0
  refine lv_aload_n hx hb dL_law_1446 rfl (lv_at hl 5 rfl) ?_
  refine lv_iconst (v := 0) hx hb dL_law_1447 (by decide) ?_
  refine me_lald (k := 0) hC hM ho rfl (by decide) (by decide) dL_law_1448 ?_
  refine lv_iload hx hb dL_law_1449 (lv_at hl 0 rfl) ?_
  refine lv_i2l hx hb dL_law_1451 rfl ?_
  refine W.lcmp hx hb dL_law_1452 ?_
  refine lv_if_eq (tgt := 1458) hx hb dL_law_1453 (by decide) (fun _ => ?_) (fun h => absurd (lw_lself hf0) h)
  refine lv_goto (tgt := 2920) hx hb dL_law_1458 (by decide) ?_
  exact kk ls H locs _ (lv_sub hl [2, 3, 4, 5, 6, 7] rfl) hM
set_option maxHeartbeats 4000000 in
theorem lw_c30 (hC : me_cx ws_all p c cL_law 10 s args m RL D tb X z0) (hl : lv_has ls 10 [(0, .ref b), (1, .ref bo), (2, .ref mo), (3, .ref oa), (4, .ref da), (5, .int (nI i))]) (hR : 14 ≤ R.frames ∧ 522 ≤ R.locals) (hM : me_at D z0 M n s H locs) (hX : va_X b L xs s s.heap) (hbl : b < s.heap.size) (hbA : ¬ me_A z0 b) (hi : i + 6 ≤ L) (hL : L ≤ 3072) (hrc2 : rm2.cells = mc2) (hrs2 : rm2.slots = ms2) (hr2 : rm2.frames ≤ 13 ∧ rm2.locals ≤ 480) (he1 : M1 mo = some (.inr (8, fs))) (he2 : M2 mo = some (.inr (8, fs2))) (hf : cells + mc + mc2 ≤ R.cells ∧ slots + ms + ms2 ≤ R.slots) (ct1 : Met l yL_permitFor (.codeWith yL_permitFor cL_permitFor 5 (some .int) [(0, 10, 13, 19), (0, 10, 17, 21)] :: ws_all) ({ frames := 13, cells := mc, slots := ms, locals := 480 } : Room) (me_Pc [.ref bo, .int (xs (i + 1)), .int (xs (i + 2)), .ref oa] D tb X z0 M n) (me_Qn D z0 k M1) mc ms (me_A z0)) (ct2 : ∀ n1, Met l yX8_permitFor (.code yX8_permitFor cX8_permitFor 3 (some .int) :: ws_all) rm2 (me_Pc [.ref mo, .int (xs (i + 1)), .int (xs (i + 2))] D tb X z0 M1 n1) (me_Qi D z0 r M2 (n2 n1)) mc2 ms2 (me_A z0)) (ct3 : ∀ n1, Met l yX8_thrown (.code yX8_thrown cX8_thrown 1 (some .int) :: ws_all) ({ frames := 0, cells := 0, slots := 0, locals := 0 } : Room) (me_Pc [.ref mo] D tb X z0 M2 n1) (me_Qi D z0 k M2 n1) 0 0 (me_A z0)) (hk : k = 0 → ∃ f : Nat → Int64, M2 oa = some (.inl (tb 3, 1, .inr (.inl f))) ∧ f 0 = r.toInt64) (kk : ∀ (ls1 : Array Slot) (H1 : Heap) (locs1 : List Loc) (n5 : Nat), lv_has ls1 10 [(0, .ref b), (1, .ref bo), (2, .ref mo), (3, .ref oa), (4, .ref da), (5, .int (nI i))] → me_at D z0 M2 n5 s H1 locs1 → W p l e R s m args below meth c H1 locs1 (cells + mc + mc2) (slots + ms + ms2) Q (F0 m 2920 ls1 [])) : W p l e R s m args below meth c H locs cells slots Q (F0 m 1461 ls []) := by
  have hx := hC.1
  have hb := hC.2.1
  have hw := hC.2.2.2.2.1
  refine lv_aload_n hx hb dL_law_1461 rfl (lv_at hl 1 rfl) ?_
  refine lv_aload_n hx hb dL_law_1462 rfl (lv_at hl 0 rfl) ?_
  refine lv_iload hx hb dL_law_1463 (lv_at hl 5 rfl) ?_
  refine lv_iconst (v := 1) hx hb dL_law_1465 (by decide) ?_
  refine lv_iadd hx hb dL_law_1466 ?_
  refine lw_rd (k := 1) hx hb hX hbl hbA hM.2.2.2.2 rfl (by omega) hL dL_law_1467 ?_
  refine lv_aload_n hx hb dL_law_1468 rfl (lv_at hl 0 rfl) ?_
  refine lv_iload hx hb dL_law_1469 (lv_at hl 5 rfl) ?_
  refine lv_iconst (v := 2) hx hb dL_law_1471 (by decide) ?_
  refine lv_iadd hx hb dL_law_1472 ?_
  refine lw_rd (k := 2) hx hb hX hbl hbA hM.2.2.2.2 rfl (by omega) hL dL_law_1473 ?_
  refine lv_aload_n hx hb dL_law_1474 rfl (lv_at hl 3 rfl) ?_
  refine me_callSn (nA := 4) (As := [.ref bo, .int (xs (i + 1)), .int (xs (i + 2)), .ref oa]) (rest := []) hC hl.1 hM ct1 w_939 w_940 w_0 w_941 (by decide +kernel) rfl rfl ⟨by show 13 + 1 ≤ R.frames; omega, by show 8 + (5 + 11) + 480 ≤ R.locals; omega⟩ rfl rfl (Nat.le_of_ble_eq_true rfl) dL_law_1475 ⟨by omega, by omega⟩ (fun H locs n1 hM => ?_)
  refine lv_istore (lv' := [(6, .int k), (0, .ref b), (1, .ref bo), (2, .ref mo), (3, .ref oa), (4, .ref da), (5, .int (nI i))]) hx hb dL_law_1478 hl (by decide) rfl (fun ls hl => ?_)
  refine lv_aload_n hx hb dL_law_1480 rfl (lv_at hl 3 rfl) ?_
  refine lv_aload_n hx hb dL_law_1481 rfl (lv_at hl 1 rfl) ?_
  refine lv_iload hx hb dL_law_1482 (lv_at hl 6 rfl) ?_
  refine lv_iconst (v := 1) hx hb dL_law_1484 (by decide) ?_
  refine lv_iadd hx hb dL_law_1485 ?_
  refine lw_rd (k := 1) hx hb hX hbl hbA hM.2.2.2.2 rfl (by omega) hL dL_law_1486 ?_
  refine lv_aload_n hx hb dL_law_1487 rfl (lv_at hl 1 rfl) ?_
  refine lv_iload hx hb dL_law_1488 (lv_at hl 6 rfl) ?_
  refine lv_iconst (v := 2) hx hb dL_law_1490 (by decide) ?_
  refine lv_iadd hx hb dL_law_1491 ?_
  refine lw_rd (k := 2) hx hb hX hbl hbA hM.2.2.2.2 rfl (by omega) hL dL_law_1492 ?_
  refine me_callVi (As := [.int (xs (i + 1)), .int (xs (i + 2))]) (rest := []) hC hl.1 hM (ct2 n1) (kv_L_253 hw hrc2 hrs2 ⟨by omega, by show 8 + (3 + 11) + rm2.locals ≤ R.locals; omega⟩) rfl rfl he1 rfl (Nat.le_of_ble_eq_true rfl) dL_law_1493 ⟨by omega, by omega⟩ (fun H locs hM => ?_)
  refine lv_istore (lv' := [(7, .int r), (6, .int k), (0, .ref b), (1, .ref bo), (2, .ref mo), (3, .ref oa), (4, .ref da), (5, .int (nI i))]) hx hb dL_law_1496 hl (by decide) rfl (fun ls hl => ?_)
  refine lv_aload_n hx hb dL_law_1498 rfl (lv_at hl 4 rfl) ?_
  refine me_callVi (As := []) (rest := []) hC hl.1 hM (ct3 _) (kv_L_145 hw rfl rfl ⟨by show 0 + 1 ≤ R.frames; omega, by show 8 + (1 + 11) + 0 ≤ R.locals; omega⟩) rfl rfl he2 rfl (Nat.le_of_ble_eq_true rfl) dL_law_1499 ⟨by omega, by omega⟩ (fun H locs hM => ?_)
  refine lv_iload hx hb dL_law_1502 (lv_at hl 1 rfl) ?_
  refine lv_icmp_eq (tgt := 1509) hx hb dL_law_1504 (by decide) (fun _ => ?_) (fun h => absurd rfl h)
  refine lv_iload hx hb dL_law_1509 (lv_at hl 1 rfl) ?_
  refine lv_if_ne (tgt := 1526) hx hb dL_law_1511 (by decide) (fun _ => ?_) (fun h0 => ?_)
  · refine lv_goto (tgt := 2920) hx hb dL_law_1526 (by decide) ?_
    exact kk ls H locs _ (lv_sub hl [2, 3, 4, 5, 6, 7] rfl) hM
  obtain ⟨f, ho, hf0⟩ := hk h0
  refine lv_aload_n hx hb dL_law_1514 rfl (lv_at hl 5 rfl) ?_
  refine lv_iconst (v := 0) hx hb dL_law_1515 (by decide) ?_
  refine me_lald (k := 0) hC hM ho rfl (by decide) (by decide) dL_law_1516 ?_
  refine lv_iload hx hb dL_law_1517 (lv_at hl 0 rfl) ?_
  refine lv_i2l hx hb dL_law_1519 rfl ?_
  refine W.lcmp hx hb dL_law_1520 ?_
  refine lv_if_eq (tgt := 1526) hx hb dL_law_1521 (by decide) (fun _ => ?_) (fun h => absurd (lw_lself hf0) h)
  refine lv_goto (tgt := 2920) hx hb dL_law_1526 (by decide) ?_
  exact kk ls H locs _ (lv_sub hl [2, 3, 4, 5, 6, 7] rfl) hM
set_option maxHeartbeats 4000000 in
theorem lw_c31 (hC : me_cx ws_all p c cL_law 10 s args m RL D tb X z0) (hl : lv_has ls 10 [(0, .ref b), (1, .ref bo), (2, .ref mo), (3, .ref oa), (4, .ref da), (5, .int (nI i))]) (hR : 14 ≤ R.frames ∧ 522 ≤ R.locals) (hM : me_at D z0 M n s H locs) (hrc1 : rm1.cells = mc) (hrs1 : rm1.slots = ms) (hr1 : rm1.frames ≤ 13 ∧ rm1.locals ≤ 480) (hrc2 : rm2.cells = mc2) (hrs2 : rm2.slots = ms2) (hr2 : rm2.frames ≤ 13 ∧ rm2.locals ≤ 480) (he : M bo = some (.inr (7, fs))) (he2 : M1 mo = some (.inr (8, fs2))) (hf : cells + mc + mc2 ≤ R.cells ∧ slots + ms + ms2 ≤ R.slots) (ct1 : Met l yX7_freeHours (.code yX7_freeHours cX7_freeHours 1 (some .int) :: ws_all) rm1 (me_Pc [.ref bo] D tb X z0 M n) (me_Qi D z0 r M1 n1) mc ms (me_A z0)) (ct2 : Met l yX8_freeHours (.code yX8_freeHours cX8_freeHours 1 (some .int) :: ws_all) rm2 (me_Pc [.ref mo] D tb X z0 M1 n1) (me_Qi D z0 r M2 n3) mc2 ms2 (me_A z0)) (kk : ∀ (ls1 : Array Slot) (H1 : Heap) (locs1 : List Loc) (n5 : Nat), lv_has ls1 10 [(0, .ref b), (1, .ref bo), (2, .ref mo), (3, .ref oa), (4, .ref da), (5, .int (nI i))] → me_at D z0 M2 n5 s H1 locs1 → W p l e R s m args below meth c H1 locs1 (cells + mc + mc2) (slots + ms + ms2) Q (F0 m 2920 ls1 [])) : W p l e R s m args below meth c H locs cells slots Q (F0 m 1529 ls []) := by
  have hx := hC.1
  have hb := hC.2.1
  have hw := hC.2.2.2.2.1
  refine lv_aload_n hx hb dL_law_1529 rfl (lv_at hl 1 rfl) ?_
  refine me_callVi (As := []) (rest := []) hC hl.1 hM ct1 (kv_L_254 hw hrc1 hrs1 ⟨by omega, by show 8 + (1 + 11) + rm1.locals ≤ R.locals; omega⟩) rfl rfl he rfl (Nat.le_of_ble_eq_true rfl) dL_law_1530 ⟨by omega, by omega⟩ (fun H locs hM => ?_)
  refine lv_aload_n hx hb dL_law_1533 rfl (lv_at hl 2 rfl) ?_
  refine me_callVi (As := []) (rest := [.int r]) hC hl.1 hM ct2 (kv_L_257 hw hrc2 hrs2 ⟨by omega, by show 8 + (1 + 11) + rm2.locals ≤ R.locals; omega⟩) rfl rfl he2 rfl (Nat.le_of_ble_eq_true rfl) dL_law_1534 ⟨by omega, by omega⟩ (fun H locs hM => ?_)
  refine lv_icmp_eq (tgt := 2920) hx hb dL_law_1537 (by decide) (fun _ => ?_) (fun h => absurd rfl h)
  exact kk ls H locs _ hl hM
set_option maxHeartbeats 4000000 in
theorem lw_c32 (hC : me_cx ws_all p c cL_law 10 s args m RL D tb X z0) (hl : lv_has ls 10 [(0, .ref b), (1, .ref bo), (2, .ref mo), (3, .ref oa), (4, .ref da), (5, .int (nI i))]) (hR : 14 ≤ R.frames ∧ 522 ≤ R.locals) (hM : me_at D z0 M n s H locs) (hX : va_X b L xs s s.heap) (hbl : b < s.heap.size) (hbA : ¬ me_A z0 b) (hi : i + 6 ≤ L) (hL : L ≤ 3072) (hrc2 : rm2.cells = mc2) (hrs2 : rm2.slots = ms2) (hr2 : rm2.frames ≤ 13 ∧ rm2.locals ≤ 480) (he1 : M1 mo = some (.inr (8, fs))) (he2 : M2 mo = some (.inr (8, fs2))) (hf : cells + mc + mc2 ≤ R.cells ∧ slots + ms + ms2 ≤ R.slots) (ct1 : Met l yL_quote (.codeWith yL_quote cL_quote 5 (some .int) [(0, 10, 13, 19), (0, 10, 17, 21)] :: ws_all) ({ frames := 13, cells := mc, slots := ms, locals := 480 } : Room) (me_Pc [.ref bo, .int (xs (i + 1)), .int (xs (i + 2)), .ref oa] D tb X z0 M n) (me_Qn D z0 k M1) mc ms (me_A z0)) (ct2 : ∀ n1, Met l yX8_quote (.code yX8_quote cX8_quote 3 (some .int) :: ws_all) rm2 (me_Pc [.ref mo, .int (xs (i + 1)), .int (xs (i + 2))] D tb X z0 M1 n1) (me_Qi D z0 r M2 (n2 n1)) mc2 ms2 (me_A z0)) (ct3 : ∀ n1, Met l yX8_thrown (.code yX8_thrown cX8_thrown 1 (some .int) :: ws_all) ({ frames := 0, cells := 0, slots := 0, locals := 0 } : Room) (me_Pc [.ref mo] D tb X z0 M2 n1) (me_Qi D z0 k M2 n1) 0 0 (me_A z0)) (hk : k = 0 → ∃ f : Nat → Int64, M2 oa = some (.inl (tb 3, 1, .inr (.inl f))) ∧ f 0 = r.toInt64) (kk : ∀ (ls1 : Array Slot) (H1 : Heap) (locs1 : List Loc) (n5 : Nat), lv_has ls1 10 [(0, .ref b), (1, .ref bo), (2, .ref mo), (3, .ref oa), (4, .ref da), (5, .int (nI i))] → me_at D z0 M2 n5 s H1 locs1 → W p l e R s m args below meth c H1 locs1 (cells + mc + mc2) (slots + ms + ms2) Q (F0 m 2920 ls1 [])) : W p l e R s m args below meth c H locs cells slots Q (F0 m 1542 ls []) := by
  have hx := hC.1
  have hb := hC.2.1
  have hw := hC.2.2.2.2.1
  refine lv_aload_n hx hb dL_law_1542 rfl (lv_at hl 1 rfl) ?_
  refine lv_aload_n hx hb dL_law_1543 rfl (lv_at hl 0 rfl) ?_
  refine lv_iload hx hb dL_law_1544 (lv_at hl 5 rfl) ?_
  refine lv_iconst (v := 1) hx hb dL_law_1546 (by decide) ?_
  refine lv_iadd hx hb dL_law_1547 ?_
  refine lw_rd (k := 1) hx hb hX hbl hbA hM.2.2.2.2 rfl (by omega) hL dL_law_1548 ?_
  refine lv_aload_n hx hb dL_law_1549 rfl (lv_at hl 0 rfl) ?_
  refine lv_iload hx hb dL_law_1550 (lv_at hl 5 rfl) ?_
  refine lv_iconst (v := 2) hx hb dL_law_1552 (by decide) ?_
  refine lv_iadd hx hb dL_law_1553 ?_
  refine lw_rd (k := 2) hx hb hX hbl hbA hM.2.2.2.2 rfl (by omega) hL dL_law_1554 ?_
  refine lv_aload_n hx hb dL_law_1555 rfl (lv_at hl 3 rfl) ?_
  refine me_callSn (nA := 4) (As := [.ref bo, .int (xs (i + 1)), .int (xs (i + 2)), .ref oa]) (rest := []) hC hl.1 hM ct1 w_947 w_948 w_0 w_949 (by decide +kernel) rfl rfl ⟨by show 13 + 1 ≤ R.frames; omega, by show 8 + (5 + 11) + 480 ≤ R.locals; omega⟩ rfl rfl (Nat.le_of_ble_eq_true rfl) dL_law_1556 ⟨by omega, by omega⟩ (fun H locs n1 hM => ?_)
  refine lv_istore (lv' := [(6, .int k), (0, .ref b), (1, .ref bo), (2, .ref mo), (3, .ref oa), (4, .ref da), (5, .int (nI i))]) hx hb dL_law_1559 hl (by decide) rfl (fun ls hl => ?_)
  refine lv_aload_n hx hb dL_law_1561 rfl (lv_at hl 3 rfl) ?_
  refine lv_aload_n hx hb dL_law_1562 rfl (lv_at hl 1 rfl) ?_
  refine lv_iload hx hb dL_law_1563 (lv_at hl 6 rfl) ?_
  refine lv_iconst (v := 1) hx hb dL_law_1565 (by decide) ?_
  refine lv_iadd hx hb dL_law_1566 ?_
  refine lw_rd (k := 1) hx hb hX hbl hbA hM.2.2.2.2 rfl (by omega) hL dL_law_1567 ?_
  refine lv_aload_n hx hb dL_law_1568 rfl (lv_at hl 1 rfl) ?_
  refine lv_iload hx hb dL_law_1569 (lv_at hl 6 rfl) ?_
  refine lv_iconst (v := 2) hx hb dL_law_1571 (by decide) ?_
  refine lv_iadd hx hb dL_law_1572 ?_
  refine lw_rd (k := 2) hx hb hX hbl hbA hM.2.2.2.2 rfl (by omega) hL dL_law_1573 ?_
  refine me_callVi (As := [.int (xs (i + 1)), .int (xs (i + 2))]) (rest := []) hC hl.1 hM (ct2 n1) (kv_L_260 hw hrc2 hrs2 ⟨by omega, by show 8 + (3 + 11) + rm2.locals ≤ R.locals; omega⟩) rfl rfl he1 rfl (Nat.le_of_ble_eq_true rfl) dL_law_1574 ⟨by omega, by omega⟩ (fun H locs hM => ?_)
  refine lv_istore (lv' := [(7, .int r), (6, .int k), (0, .ref b), (1, .ref bo), (2, .ref mo), (3, .ref oa), (4, .ref da), (5, .int (nI i))]) hx hb dL_law_1577 hl (by decide) rfl (fun ls hl => ?_)
  refine lv_aload_n hx hb dL_law_1579 rfl (lv_at hl 4 rfl) ?_
  refine me_callVi (As := []) (rest := []) hC hl.1 hM (ct3 _) (kv_L_145 hw rfl rfl ⟨by show 0 + 1 ≤ R.frames; omega, by show 8 + (1 + 11) + 0 ≤ R.locals; omega⟩) rfl rfl he2 rfl (Nat.le_of_ble_eq_true rfl) dL_law_1580 ⟨by omega, by omega⟩ (fun H locs hM => ?_)
  refine lv_iload hx hb dL_law_1583 (lv_at hl 1 rfl) ?_
  refine lv_icmp_eq (tgt := 1590) hx hb dL_law_1585 (by decide) (fun _ => ?_) (fun h => absurd rfl h)
  refine lv_iload hx hb dL_law_1590 (lv_at hl 1 rfl) ?_
  refine lv_if_ne (tgt := 1607) hx hb dL_law_1592 (by decide) (fun _ => ?_) (fun h0 => ?_)
  · refine lv_goto (tgt := 2920) hx hb dL_law_1607 (by decide) ?_
    exact kk ls H locs _ (lv_sub hl [2, 3, 4, 5, 6, 7] rfl) hM
  obtain ⟨f, ho, hf0⟩ := hk h0
  refine lv_aload_n hx hb dL_law_1595 rfl (lv_at hl 5 rfl) ?_
  refine lv_iconst (v := 0) hx hb dL_law_1596 (by decide) ?_
  refine me_lald (k := 0) hC hM ho rfl (by decide) (by decide) dL_law_1597 ?_
  refine lv_iload hx hb dL_law_1598 (lv_at hl 0 rfl) ?_
  refine lv_i2l hx hb dL_law_1600 rfl ?_
  refine W.lcmp hx hb dL_law_1601 ?_
  refine lv_if_eq (tgt := 1607) hx hb dL_law_1602 (by decide) (fun _ => ?_) (fun h => absurd (lw_lself hf0) h)
  refine lv_goto (tgt := 2920) hx hb dL_law_1607 (by decide) ?_
  exact kk ls H locs _ (lv_sub hl [2, 3, 4, 5, 6, 7] rfl) hM
set_option maxHeartbeats 4000000 in
theorem lw_c33 (hC : me_cx ws_all p c cL_law 10 s args m RL D tb X z0) (hl : lv_has ls 10 [(0, .ref b), (1, .ref bo), (2, .ref mo), (3, .ref oa), (4, .ref da), (5, .int (nI i))]) (hR : 14 ≤ R.frames ∧ 522 ≤ R.locals) (hM : me_at D z0 M n s H locs) (hX : va_X b L xs s s.heap) (hbl : b < s.heap.size) (hbA : ¬ me_A z0 b) (hi : i + 6 ≤ L) (hL : L ≤ 3072) (hrc2 : rm2.cells = mc2) (hrs2 : rm2.slots = ms2) (hr2 : rm2.frames ≤ 13 ∧ rm2.locals ≤ 480) (he1 : M1 mo = some (.inr (8, fs))) (he2 : M2 mo = some (.inr (8, fs2))) (hf : cells + mc + mc2 ≤ R.cells ∧ slots + ms + ms2 ≤ R.slots) (ct1 : Met l yL_refusal (.codeWith yL_refusal cL_refusal 6 (some .int) [(0, 12, 15, 19), (0, 12, 19, 21)] :: ws_all) ({ frames := 13, cells := mc, slots := ms, locals := 480 } : Room) (me_Pc [.ref bo, .int (xs (i + 1)), .int (xs (i + 2)), .int (xs (i + 3)), .ref oa] D tb X z0 M n) (me_Qn D z0 k M1) mc ms (me_A z0)) (ct2 : ∀ n1, Met l yX8_refusal (.code yX8_refusal cX8_refusal 4 (some .int) :: ws_all) rm2 (me_Pc [.ref mo, .int (xs (i + 1)), .int (xs (i + 2)), .int (xs (i + 3))] D tb X z0 M1 n1) (me_Qi D z0 r M2 (n2 n1)) mc2 ms2 (me_A z0)) (ct3 : ∀ n1, Met l yX8_thrown (.code yX8_thrown cX8_thrown 1 (some .int) :: ws_all) ({ frames := 0, cells := 0, slots := 0, locals := 0 } : Room) (me_Pc [.ref mo] D tb X z0 M2 n1) (me_Qi D z0 k M2 n1) 0 0 (me_A z0)) (hk : k = 0 → ∃ f : Nat → Int64, M2 oa = some (.inl (tb 3, 1, .inr (.inl f))) ∧ f 0 = r.toInt64) (kk : ∀ (ls1 : Array Slot) (H1 : Heap) (locs1 : List Loc) (n5 : Nat), lv_has ls1 10 [(0, .ref b), (1, .ref bo), (2, .ref mo), (3, .ref oa), (4, .ref da), (5, .int (nI i))] → me_at D z0 M2 n5 s H1 locs1 → W p l e R s m args below meth c H1 locs1 (cells + mc + mc2) (slots + ms + ms2) Q (F0 m 2920 ls1 [])) : W p l e R s m args below meth c H locs cells slots Q (F0 m 1610 ls []) := by
  have hx := hC.1
  have hb := hC.2.1
  have hw := hC.2.2.2.2.1
  refine lv_aload_n hx hb dL_law_1610 rfl (lv_at hl 1 rfl) ?_
  refine lv_aload_n hx hb dL_law_1611 rfl (lv_at hl 0 rfl) ?_
  refine lv_iload hx hb dL_law_1612 (lv_at hl 5 rfl) ?_
  refine lv_iconst (v := 1) hx hb dL_law_1614 (by decide) ?_
  refine lv_iadd hx hb dL_law_1615 ?_
  refine lw_rd (k := 1) hx hb hX hbl hbA hM.2.2.2.2 rfl (by omega) hL dL_law_1616 ?_
  refine lv_aload_n hx hb dL_law_1617 rfl (lv_at hl 0 rfl) ?_
  refine lv_iload hx hb dL_law_1618 (lv_at hl 5 rfl) ?_
  refine lv_iconst (v := 2) hx hb dL_law_1620 (by decide) ?_
  refine lv_iadd hx hb dL_law_1621 ?_
  refine lw_rd (k := 2) hx hb hX hbl hbA hM.2.2.2.2 rfl (by omega) hL dL_law_1622 ?_
  refine lv_aload_n hx hb dL_law_1623 rfl (lv_at hl 0 rfl) ?_
  refine lv_iload hx hb dL_law_1624 (lv_at hl 5 rfl) ?_
  refine lv_iconst (v := 3) hx hb dL_law_1626 (by decide) ?_
  refine lv_iadd hx hb dL_law_1627 ?_
  refine lw_rd (k := 3) hx hb hX hbl hbA hM.2.2.2.2 rfl (by omega) hL dL_law_1628 ?_
  refine lv_aload_n hx hb dL_law_1629 rfl (lv_at hl 3 rfl) ?_
  refine me_callSn (nA := 5) (As := [.ref bo, .int (xs (i + 1)), .int (xs (i + 2)), .int (xs (i + 3)), .ref oa]) (rest := []) hC hl.1 hM ct1 w_958 w_959 w_0 w_960 (by decide +kernel) rfl rfl ⟨by show 13 + 1 ≤ R.frames; omega, by show 8 + (6 + 11) + 480 ≤ R.locals; omega⟩ rfl rfl (Nat.le_of_ble_eq_true rfl) dL_law_1630 ⟨by omega, by omega⟩ (fun H locs n1 hM => ?_)
  refine lv_istore (lv' := [(6, .int k), (0, .ref b), (1, .ref bo), (2, .ref mo), (3, .ref oa), (4, .ref da), (5, .int (nI i))]) hx hb dL_law_1633 hl (by decide) rfl (fun ls hl => ?_)
  refine lv_aload_n hx hb dL_law_1635 rfl (lv_at hl 3 rfl) ?_
  refine lv_aload_n hx hb dL_law_1636 rfl (lv_at hl 1 rfl) ?_
  refine lv_iload hx hb dL_law_1637 (lv_at hl 6 rfl) ?_
  refine lv_iconst (v := 1) hx hb dL_law_1639 (by decide) ?_
  refine lv_iadd hx hb dL_law_1640 ?_
  refine lw_rd (k := 1) hx hb hX hbl hbA hM.2.2.2.2 rfl (by omega) hL dL_law_1641 ?_
  refine lv_aload_n hx hb dL_law_1642 rfl (lv_at hl 1 rfl) ?_
  refine lv_iload hx hb dL_law_1643 (lv_at hl 6 rfl) ?_
  refine lv_iconst (v := 2) hx hb dL_law_1645 (by decide) ?_
  refine lv_iadd hx hb dL_law_1646 ?_
  refine lw_rd (k := 2) hx hb hX hbl hbA hM.2.2.2.2 rfl (by omega) hL dL_law_1647 ?_
  refine lv_aload_n hx hb dL_law_1648 rfl (lv_at hl 1 rfl) ?_
  refine lv_iload hx hb dL_law_1649 (lv_at hl 6 rfl) ?_
  refine lv_iconst (v := 3) hx hb dL_law_1651 (by decide) ?_
  refine lv_iadd hx hb dL_law_1652 ?_
  refine lw_rd (k := 3) hx hb hX hbl hbA hM.2.2.2.2 rfl (by omega) hL dL_law_1653 ?_
  refine me_callVi (As := [.int (xs (i + 1)), .int (xs (i + 2)), .int (xs (i + 3))]) (rest := []) hC hl.1 hM (ct2 n1) (kv_L_264 hw hrc2 hrs2 ⟨by omega, by show 8 + (4 + 11) + rm2.locals ≤ R.locals; omega⟩) rfl rfl he1 rfl (Nat.le_of_ble_eq_true rfl) dL_law_1654 ⟨by omega, by omega⟩ (fun H locs hM => ?_)
  refine lv_istore (lv' := [(7, .int r), (6, .int k), (0, .ref b), (1, .ref bo), (2, .ref mo), (3, .ref oa), (4, .ref da), (5, .int (nI i))]) hx hb dL_law_1657 hl (by decide) rfl (fun ls hl => ?_)
  refine lv_aload_n hx hb dL_law_1659 rfl (lv_at hl 4 rfl) ?_
  refine me_callVi (As := []) (rest := []) hC hl.1 hM (ct3 _) (kv_L_145 hw rfl rfl ⟨by show 0 + 1 ≤ R.frames; omega, by show 8 + (1 + 11) + 0 ≤ R.locals; omega⟩) rfl rfl he2 rfl (Nat.le_of_ble_eq_true rfl) dL_law_1660 ⟨by omega, by omega⟩ (fun H locs hM => ?_)
  refine lv_iload hx hb dL_law_1663 (lv_at hl 1 rfl) ?_
  refine lv_icmp_eq (tgt := 1670) hx hb dL_law_1665 (by decide) (fun _ => ?_) (fun h => absurd rfl h)
  refine lv_iload hx hb dL_law_1670 (lv_at hl 1 rfl) ?_
  refine lv_if_ne (tgt := 1687) hx hb dL_law_1672 (by decide) (fun _ => ?_) (fun h0 => ?_)
  · refine lv_goto (tgt := 2920) hx hb dL_law_1687 (by decide) ?_
    exact kk ls H locs _ (lv_sub hl [2, 3, 4, 5, 6, 7] rfl) hM
  obtain ⟨f, ho, hf0⟩ := hk h0
  refine lv_aload_n hx hb dL_law_1675 rfl (lv_at hl 5 rfl) ?_
  refine lv_iconst (v := 0) hx hb dL_law_1676 (by decide) ?_
  refine me_lald (k := 0) hC hM ho rfl (by decide) (by decide) dL_law_1677 ?_
  refine lv_iload hx hb dL_law_1678 (lv_at hl 0 rfl) ?_
  refine lv_i2l hx hb dL_law_1680 rfl ?_
  refine W.lcmp hx hb dL_law_1681 ?_
  refine lv_if_eq (tgt := 1687) hx hb dL_law_1682 (by decide) (fun _ => ?_) (fun h => absurd (lw_lself hf0) h)
  refine lv_goto (tgt := 2920) hx hb dL_law_1687 (by decide) ?_
  exact kk ls H locs _ (lv_sub hl [2, 3, 4, 5, 6, 7] rfl) hM
set_option maxHeartbeats 4000000 in
theorem lw_c34 (hC : me_cx ws_all p c cL_law 10 s args m RL D tb X z0) (hl : lv_has ls 10 [(0, .ref b), (1, .ref bo), (2, .ref mo), (3, .ref oa), (4, .ref da), (5, .int (nI i))]) (hR : 14 ≤ R.frames ∧ 522 ≤ R.locals) (hM : me_at D z0 M n s H locs) (hX : va_X b L xs s s.heap) (hbl : b < s.heap.size) (hbA : ¬ me_A z0 b) (hi : i + 6 ≤ L) (hL : L ≤ 3072) (hrc2 : rm2.cells = mc2) (hrs2 : rm2.slots = ms2) (hr2 : rm2.frames ≤ 13 ∧ rm2.locals ≤ 480) (he1 : M1 mo = some (.inr (8, fs))) (he2 : M2 mo = some (.inr (8, fs2))) (hf : cells + mc + mc2 ≤ R.cells ∧ slots + ms + ms2 ≤ R.slots) (ct1 : Met l yL_refusalCause (.codeWith yL_refusalCause cL_refusalCause 6 (some .int) [(0, 12, 15, 19), (0, 12, 19, 21)] :: ws_all) ({ frames := 13, cells := mc, slots := ms, locals := 480 } : Room) (me_Pc [.ref bo, .int (xs (i + 1)), .int (xs (i + 2)), .int (xs (i + 3)), .ref oa] D tb X z0 M n) (me_Qn D z0 k M1) mc ms (me_A z0)) (ct2 : ∀ n1, Met l yX8_refusalCause (.code yX8_refusalCause cX8_refusalCause 4 (some .int) :: ws_all) rm2 (me_Pc [.ref mo, .int (xs (i + 1)), .int (xs (i + 2)), .int (xs (i + 3))] D tb X z0 M1 n1) (me_Qi D z0 r M2 (n2 n1)) mc2 ms2 (me_A z0)) (ct3 : ∀ n1, Met l yX8_thrown (.code yX8_thrown cX8_thrown 1 (some .int) :: ws_all) ({ frames := 0, cells := 0, slots := 0, locals := 0 } : Room) (me_Pc [.ref mo] D tb X z0 M2 n1) (me_Qi D z0 k M2 n1) 0 0 (me_A z0)) (hk : k = 0 → ∃ f : Nat → Int64, M2 oa = some (.inl (tb 3, 1, .inr (.inl f))) ∧ f 0 = r.toInt64) (kk : ∀ (ls1 : Array Slot) (H1 : Heap) (locs1 : List Loc) (n5 : Nat), lv_has ls1 10 [(0, .ref b), (1, .ref bo), (2, .ref mo), (3, .ref oa), (4, .ref da), (5, .int (nI i))] → me_at D z0 M2 n5 s H1 locs1 → W p l e R s m args below meth c H1 locs1 (cells + mc + mc2) (slots + ms + ms2) Q (F0 m 2920 ls1 [])) : W p l e R s m args below meth c H locs cells slots Q (F0 m 1690 ls []) := by
  have hx := hC.1
  have hb := hC.2.1
  have hw := hC.2.2.2.2.1
  refine lv_aload_n hx hb dL_law_1690 rfl (lv_at hl 1 rfl) ?_
  refine lv_aload_n hx hb dL_law_1691 rfl (lv_at hl 0 rfl) ?_
  refine lv_iload hx hb dL_law_1692 (lv_at hl 5 rfl) ?_
  refine lv_iconst (v := 1) hx hb dL_law_1694 (by decide) ?_
  refine lv_iadd hx hb dL_law_1695 ?_
  refine lw_rd (k := 1) hx hb hX hbl hbA hM.2.2.2.2 rfl (by omega) hL dL_law_1696 ?_
  refine lv_aload_n hx hb dL_law_1697 rfl (lv_at hl 0 rfl) ?_
  refine lv_iload hx hb dL_law_1698 (lv_at hl 5 rfl) ?_
  refine lv_iconst (v := 2) hx hb dL_law_1700 (by decide) ?_
  refine lv_iadd hx hb dL_law_1701 ?_
  refine lw_rd (k := 2) hx hb hX hbl hbA hM.2.2.2.2 rfl (by omega) hL dL_law_1702 ?_
  refine lv_aload_n hx hb dL_law_1703 rfl (lv_at hl 0 rfl) ?_
  refine lv_iload hx hb dL_law_1704 (lv_at hl 5 rfl) ?_
  refine lv_iconst (v := 3) hx hb dL_law_1706 (by decide) ?_
  refine lv_iadd hx hb dL_law_1707 ?_
  refine lw_rd (k := 3) hx hb hX hbl hbA hM.2.2.2.2 rfl (by omega) hL dL_law_1708 ?_
  refine lv_aload_n hx hb dL_law_1709 rfl (lv_at hl 3 rfl) ?_
  refine me_callSn (nA := 5) (As := [.ref bo, .int (xs (i + 1)), .int (xs (i + 2)), .int (xs (i + 3)), .ref oa]) (rest := []) hC hl.1 hM ct1 w_971 w_972 w_0 w_973 (by decide +kernel) rfl rfl ⟨by show 13 + 1 ≤ R.frames; omega, by show 8 + (6 + 11) + 480 ≤ R.locals; omega⟩ rfl rfl (Nat.le_of_ble_eq_true rfl) dL_law_1710 ⟨by omega, by omega⟩ (fun H locs n1 hM => ?_)
  refine lv_istore (lv' := [(6, .int k), (0, .ref b), (1, .ref bo), (2, .ref mo), (3, .ref oa), (4, .ref da), (5, .int (nI i))]) hx hb dL_law_1713 hl (by decide) rfl (fun ls hl => ?_)
  refine lv_aload_n hx hb dL_law_1715 rfl (lv_at hl 3 rfl) ?_
  refine lv_aload_n hx hb dL_law_1716 rfl (lv_at hl 1 rfl) ?_
  refine lv_iload hx hb dL_law_1717 (lv_at hl 6 rfl) ?_
  refine lv_iconst (v := 1) hx hb dL_law_1719 (by decide) ?_
  refine lv_iadd hx hb dL_law_1720 ?_
  refine lw_rd (k := 1) hx hb hX hbl hbA hM.2.2.2.2 rfl (by omega) hL dL_law_1721 ?_
  refine lv_aload_n hx hb dL_law_1722 rfl (lv_at hl 1 rfl) ?_
  refine lv_iload hx hb dL_law_1723 (lv_at hl 6 rfl) ?_
  refine lv_iconst (v := 2) hx hb dL_law_1725 (by decide) ?_
  refine lv_iadd hx hb dL_law_1726 ?_
  refine lw_rd (k := 2) hx hb hX hbl hbA hM.2.2.2.2 rfl (by omega) hL dL_law_1727 ?_
  refine lv_aload_n hx hb dL_law_1728 rfl (lv_at hl 1 rfl) ?_
  refine lv_iload hx hb dL_law_1729 (lv_at hl 6 rfl) ?_
  refine lv_iconst (v := 3) hx hb dL_law_1731 (by decide) ?_
  refine lv_iadd hx hb dL_law_1732 ?_
  refine lw_rd (k := 3) hx hb hX hbl hbA hM.2.2.2.2 rfl (by omega) hL dL_law_1733 ?_
  refine me_callVi (As := [.int (xs (i + 1)), .int (xs (i + 2)), .int (xs (i + 3))]) (rest := []) hC hl.1 hM (ct2 n1) (kv_L_267 hw hrc2 hrs2 ⟨by omega, by show 8 + (4 + 11) + rm2.locals ≤ R.locals; omega⟩) rfl rfl he1 rfl (Nat.le_of_ble_eq_true rfl) dL_law_1734 ⟨by omega, by omega⟩ (fun H locs hM => ?_)
  refine lv_istore (lv' := [(7, .int r), (6, .int k), (0, .ref b), (1, .ref bo), (2, .ref mo), (3, .ref oa), (4, .ref da), (5, .int (nI i))]) hx hb dL_law_1737 hl (by decide) rfl (fun ls hl => ?_)
  refine lv_aload_n hx hb dL_law_1739 rfl (lv_at hl 4 rfl) ?_
  refine me_callVi (As := []) (rest := []) hC hl.1 hM (ct3 _) (kv_L_145 hw rfl rfl ⟨by show 0 + 1 ≤ R.frames; omega, by show 8 + (1 + 11) + 0 ≤ R.locals; omega⟩) rfl rfl he2 rfl (Nat.le_of_ble_eq_true rfl) dL_law_1740 ⟨by omega, by omega⟩ (fun H locs hM => ?_)
  refine lv_iload hx hb dL_law_1743 (lv_at hl 1 rfl) ?_
  refine lv_icmp_eq (tgt := 1750) hx hb dL_law_1745 (by decide) (fun _ => ?_) (fun h => absurd rfl h)
  refine lv_iload hx hb dL_law_1750 (lv_at hl 1 rfl) ?_
  refine lv_if_ne (tgt := 1767) hx hb dL_law_1752 (by decide) (fun _ => ?_) (fun h0 => ?_)
  · refine lv_goto (tgt := 2920) hx hb dL_law_1767 (by decide) ?_
    exact kk ls H locs _ (lv_sub hl [2, 3, 4, 5, 6, 7] rfl) hM
  obtain ⟨f, ho, hf0⟩ := hk h0
  refine lv_aload_n hx hb dL_law_1755 rfl (lv_at hl 5 rfl) ?_
  refine lv_iconst (v := 0) hx hb dL_law_1756 (by decide) ?_
  refine me_lald (k := 0) hC hM ho rfl (by decide) (by decide) dL_law_1757 ?_
  refine lv_iload hx hb dL_law_1758 (lv_at hl 0 rfl) ?_
  refine lv_i2l hx hb dL_law_1760 rfl ?_
  refine W.lcmp hx hb dL_law_1761 ?_
  refine lv_if_eq (tgt := 1767) hx hb dL_law_1762 (by decide) (fun _ => ?_) (fun h => absurd (lw_lself hf0) h)
  refine lv_goto (tgt := 2920) hx hb dL_law_1767 (by decide) ?_
  exact kk ls H locs _ (lv_sub hl [2, 3, 4, 5, 6, 7] rfl) hM
set_option maxHeartbeats 4000000 in
theorem lw_c35 (hC : me_cx ws_all p c cL_law 10 s args m RL D tb X z0) (hl : lv_has ls 10 [(0, .ref b), (1, .ref bo), (2, .ref mo), (3, .ref oa), (4, .ref da), (5, .int (nI i))]) (hR : 14 ≤ R.frames ∧ 522 ≤ R.locals) (hM : me_at D z0 M n s H locs) (hX : va_X b L xs s s.heap) (hbl : b < s.heap.size) (hbA : ¬ me_A z0 b) (hi : i + 6 ≤ L) (hL : L ≤ 3072) (hrc2 : rm2.cells = mc2) (hrs2 : rm2.slots = ms2) (hr2 : rm2.frames ≤ 13 ∧ rm2.locals ≤ 480) (he1 : M1 mo = some (.inr (8, fs))) (he2 : M2 mo = some (.inr (8, fs2))) (hf : cells + mc + mc2 ≤ R.cells ∧ slots + ms + ms2 ≤ R.slots) (ct1 : Met l yL_displacedBy (.codeWith yL_displacedBy cL_displacedBy 6 (some .int) [(0, 12, 15, 19), (0, 12, 19, 21)] :: ws_all) ({ frames := 13, cells := mc, slots := ms, locals := 480 } : Room) (me_Pc [.ref bo, .int (xs (i + 1)), .int (xs (i + 2)), .int (xs (i + 3)), .ref oa] D tb X z0 M n) (me_Qn D z0 k M1) mc ms (me_A z0)) (ct2 : ∀ n1, Met l yX8_displacedBy (.code yX8_displacedBy cX8_displacedBy 4 (some .int) :: ws_all) rm2 (me_Pc [.ref mo, .int (xs (i + 1)), .int (xs (i + 2)), .int (xs (i + 3))] D tb X z0 M1 n1) (me_Qi D z0 r M2 (n2 n1)) mc2 ms2 (me_A z0)) (ct3 : ∀ n1, Met l yX8_thrown (.code yX8_thrown cX8_thrown 1 (some .int) :: ws_all) ({ frames := 0, cells := 0, slots := 0, locals := 0 } : Room) (me_Pc [.ref mo] D tb X z0 M2 n1) (me_Qi D z0 k M2 n1) 0 0 (me_A z0)) (hk : k = 0 → ∃ f : Nat → Int64, M2 oa = some (.inl (tb 3, 1, .inr (.inl f))) ∧ f 0 = r.toInt64) (kk : ∀ (ls1 : Array Slot) (H1 : Heap) (locs1 : List Loc) (n5 : Nat), lv_has ls1 10 [(0, .ref b), (1, .ref bo), (2, .ref mo), (3, .ref oa), (4, .ref da), (5, .int (nI i))] → me_at D z0 M2 n5 s H1 locs1 → W p l e R s m args below meth c H1 locs1 (cells + mc + mc2) (slots + ms + ms2) Q (F0 m 2920 ls1 [])) : W p l e R s m args below meth c H locs cells slots Q (F0 m 1770 ls []) := by
  have hx := hC.1
  have hb := hC.2.1
  have hw := hC.2.2.2.2.1
  refine lv_aload_n hx hb dL_law_1770 rfl (lv_at hl 1 rfl) ?_
  refine lv_aload_n hx hb dL_law_1771 rfl (lv_at hl 0 rfl) ?_
  refine lv_iload hx hb dL_law_1772 (lv_at hl 5 rfl) ?_
  refine lv_iconst (v := 1) hx hb dL_law_1774 (by decide) ?_
  refine lv_iadd hx hb dL_law_1775 ?_
  refine lw_rd (k := 1) hx hb hX hbl hbA hM.2.2.2.2 rfl (by omega) hL dL_law_1776 ?_
  refine lv_aload_n hx hb dL_law_1777 rfl (lv_at hl 0 rfl) ?_
  refine lv_iload hx hb dL_law_1778 (lv_at hl 5 rfl) ?_
  refine lv_iconst (v := 2) hx hb dL_law_1780 (by decide) ?_
  refine lv_iadd hx hb dL_law_1781 ?_
  refine lw_rd (k := 2) hx hb hX hbl hbA hM.2.2.2.2 rfl (by omega) hL dL_law_1782 ?_
  refine lv_aload_n hx hb dL_law_1783 rfl (lv_at hl 0 rfl) ?_
  refine lv_iload hx hb dL_law_1784 (lv_at hl 5 rfl) ?_
  refine lv_iconst (v := 3) hx hb dL_law_1786 (by decide) ?_
  refine lv_iadd hx hb dL_law_1787 ?_
  refine lw_rd (k := 3) hx hb hX hbl hbA hM.2.2.2.2 rfl (by omega) hL dL_law_1788 ?_
  refine lv_aload_n hx hb dL_law_1789 rfl (lv_at hl 3 rfl) ?_
  refine me_callSn (nA := 5) (As := [.ref bo, .int (xs (i + 1)), .int (xs (i + 2)), .int (xs (i + 3)), .ref oa]) (rest := []) hC hl.1 hM ct1 w_981 w_982 w_0 w_983 (by decide +kernel) rfl rfl ⟨by show 13 + 1 ≤ R.frames; omega, by show 8 + (6 + 11) + 480 ≤ R.locals; omega⟩ rfl rfl (Nat.le_of_ble_eq_true rfl) dL_law_1790 ⟨by omega, by omega⟩ (fun H locs n1 hM => ?_)
  refine lv_istore (lv' := [(6, .int k), (0, .ref b), (1, .ref bo), (2, .ref mo), (3, .ref oa), (4, .ref da), (5, .int (nI i))]) hx hb dL_law_1793 hl (by decide) rfl (fun ls hl => ?_)
  refine lv_aload_n hx hb dL_law_1795 rfl (lv_at hl 3 rfl) ?_
  refine lv_aload_n hx hb dL_law_1796 rfl (lv_at hl 1 rfl) ?_
  refine lv_iload hx hb dL_law_1797 (lv_at hl 6 rfl) ?_
  refine lv_iconst (v := 1) hx hb dL_law_1799 (by decide) ?_
  refine lv_iadd hx hb dL_law_1800 ?_
  refine lw_rd (k := 1) hx hb hX hbl hbA hM.2.2.2.2 rfl (by omega) hL dL_law_1801 ?_
  refine lv_aload_n hx hb dL_law_1802 rfl (lv_at hl 1 rfl) ?_
  refine lv_iload hx hb dL_law_1803 (lv_at hl 6 rfl) ?_
  refine lv_iconst (v := 2) hx hb dL_law_1805 (by decide) ?_
  refine lv_iadd hx hb dL_law_1806 ?_
  refine lw_rd (k := 2) hx hb hX hbl hbA hM.2.2.2.2 rfl (by omega) hL dL_law_1807 ?_
  refine lv_aload_n hx hb dL_law_1808 rfl (lv_at hl 1 rfl) ?_
  refine lv_iload hx hb dL_law_1809 (lv_at hl 6 rfl) ?_
  refine lv_iconst (v := 3) hx hb dL_law_1811 (by decide) ?_
  refine lv_iadd hx hb dL_law_1812 ?_
  refine lw_rd (k := 3) hx hb hX hbl hbA hM.2.2.2.2 rfl (by omega) hL dL_law_1813 ?_
  refine me_callVi (As := [.int (xs (i + 1)), .int (xs (i + 2)), .int (xs (i + 3))]) (rest := []) hC hl.1 hM (ct2 n1) (kv_L_270 hw hrc2 hrs2 ⟨by omega, by show 8 + (4 + 11) + rm2.locals ≤ R.locals; omega⟩) rfl rfl he1 rfl (Nat.le_of_ble_eq_true rfl) dL_law_1814 ⟨by omega, by omega⟩ (fun H locs hM => ?_)
  refine lv_istore (lv' := [(7, .int r), (6, .int k), (0, .ref b), (1, .ref bo), (2, .ref mo), (3, .ref oa), (4, .ref da), (5, .int (nI i))]) hx hb dL_law_1817 hl (by decide) rfl (fun ls hl => ?_)
  refine lv_aload_n hx hb dL_law_1819 rfl (lv_at hl 4 rfl) ?_
  refine me_callVi (As := []) (rest := []) hC hl.1 hM (ct3 _) (kv_L_145 hw rfl rfl ⟨by show 0 + 1 ≤ R.frames; omega, by show 8 + (1 + 11) + 0 ≤ R.locals; omega⟩) rfl rfl he2 rfl (Nat.le_of_ble_eq_true rfl) dL_law_1820 ⟨by omega, by omega⟩ (fun H locs hM => ?_)
  refine lv_iload hx hb dL_law_1823 (lv_at hl 1 rfl) ?_
  refine lv_icmp_eq (tgt := 1830) hx hb dL_law_1825 (by decide) (fun _ => ?_) (fun h => absurd rfl h)
  refine lv_iload hx hb dL_law_1830 (lv_at hl 1 rfl) ?_
  refine lv_if_ne (tgt := 1847) hx hb dL_law_1832 (by decide) (fun _ => ?_) (fun h0 => ?_)
  · refine lv_goto (tgt := 2920) hx hb dL_law_1847 (by decide) ?_
    exact kk ls H locs _ (lv_sub hl [2, 3, 4, 5, 6, 7] rfl) hM
  obtain ⟨f, ho, hf0⟩ := hk h0
  refine lv_aload_n hx hb dL_law_1835 rfl (lv_at hl 5 rfl) ?_
  refine lv_iconst (v := 0) hx hb dL_law_1836 (by decide) ?_
  refine me_lald (k := 0) hC hM ho rfl (by decide) (by decide) dL_law_1837 ?_
  refine lv_iload hx hb dL_law_1838 (lv_at hl 0 rfl) ?_
  refine lv_i2l hx hb dL_law_1840 rfl ?_
  refine W.lcmp hx hb dL_law_1841 ?_
  refine lv_if_eq (tgt := 1847) hx hb dL_law_1842 (by decide) (fun _ => ?_) (fun h => absurd (lw_lself hf0) h)
  refine lv_goto (tgt := 2920) hx hb dL_law_1847 (by decide) ?_
  exact kk ls H locs _ (lv_sub hl [2, 3, 4, 5, 6, 7] rfl) hM
set_option maxHeartbeats 4000000 in
theorem lw_c36 (hC : me_cx ws_all p c cL_law 10 s args m RL D tb X z0) (hl : lv_has ls 10 [(0, .ref b), (1, .ref bo), (2, .ref mo), (3, .ref oa), (4, .ref da), (5, .int (nI i))]) (hR : 14 ≤ R.frames ∧ 522 ≤ R.locals) (hM : me_at D z0 M n s H locs) (hX : va_X b L xs s s.heap) (hbl : b < s.heap.size) (hbA : ¬ me_A z0 b) (hi : i + 6 ≤ L) (hL : L ≤ 3072) (hrc2 : rm2.cells = mc2) (hrs2 : rm2.slots = ms2) (hr2 : rm2.frames ≤ 13 ∧ rm2.locals ≤ 480) (he1 : M1 mo = some (.inr (8, fs))) (he2 : M2 mo = some (.inr (8, fs2))) (hf : cells + mc + mc2 ≤ R.cells ∧ slots + ms + ms2 ≤ R.slots) (ct1 : Met l yL_earliestStart (.codeWith yL_earliestStart cL_earliestStart 5 (some .int) [(0, 10, 13, 19), (0, 10, 17, 21)] :: ws_all) ({ frames := 13, cells := mc, slots := ms, locals := 480 } : Room) (me_Pc [.ref bo, .int (xs (i + 1)), .int (xs (i + 2)), .ref oa] D tb X z0 M n) (me_Qn D z0 k M1) mc ms (me_A z0)) (ct2 : ∀ n1, Met l yX8_earliestStart (.code yX8_earliestStart cX8_earliestStart 3 (some .int) :: ws_all) rm2 (me_Pc [.ref mo, .int (xs (i + 1)), .int (xs (i + 2))] D tb X z0 M1 n1) (me_Qi D z0 r M2 (n2 n1)) mc2 ms2 (me_A z0)) (ct3 : ∀ n1, Met l yX8_thrown (.code yX8_thrown cX8_thrown 1 (some .int) :: ws_all) ({ frames := 0, cells := 0, slots := 0, locals := 0 } : Room) (me_Pc [.ref mo] D tb X z0 M2 n1) (me_Qi D z0 k M2 n1) 0 0 (me_A z0)) (hk : k = 0 → ∃ f : Nat → Int64, M2 oa = some (.inl (tb 3, 1, .inr (.inl f))) ∧ f 0 = r.toInt64) (kk : ∀ (ls1 : Array Slot) (H1 : Heap) (locs1 : List Loc) (n5 : Nat), lv_has ls1 10 [(0, .ref b), (1, .ref bo), (2, .ref mo), (3, .ref oa), (4, .ref da), (5, .int (nI i))] → me_at D z0 M2 n5 s H1 locs1 → W p l e R s m args below meth c H1 locs1 (cells + mc + mc2) (slots + ms + ms2) Q (F0 m 2920 ls1 [])) : W p l e R s m args below meth c H locs cells slots Q (F0 m 1850 ls []) := by
  have hx := hC.1
  have hb := hC.2.1
  have hw := hC.2.2.2.2.1
  refine lv_aload_n hx hb dL_law_1850 rfl (lv_at hl 1 rfl) ?_
  refine lv_aload_n hx hb dL_law_1851 rfl (lv_at hl 0 rfl) ?_
  refine lv_iload hx hb dL_law_1852 (lv_at hl 5 rfl) ?_
  refine lv_iconst (v := 1) hx hb dL_law_1854 (by decide) ?_
  refine lv_iadd hx hb dL_law_1855 ?_
  refine lw_rd (k := 1) hx hb hX hbl hbA hM.2.2.2.2 rfl (by omega) hL dL_law_1856 ?_
  refine lv_aload_n hx hb dL_law_1857 rfl (lv_at hl 0 rfl) ?_
  refine lv_iload hx hb dL_law_1858 (lv_at hl 5 rfl) ?_
  refine lv_iconst (v := 2) hx hb dL_law_1860 (by decide) ?_
  refine lv_iadd hx hb dL_law_1861 ?_
  refine lw_rd (k := 2) hx hb hX hbl hbA hM.2.2.2.2 rfl (by omega) hL dL_law_1862 ?_
  refine lv_aload_n hx hb dL_law_1863 rfl (lv_at hl 3 rfl) ?_
  refine me_callSn (nA := 4) (As := [.ref bo, .int (xs (i + 1)), .int (xs (i + 2)), .ref oa]) (rest := []) hC hl.1 hM ct1 w_989 w_990 w_0 w_991 (by decide +kernel) rfl rfl ⟨by show 13 + 1 ≤ R.frames; omega, by show 8 + (5 + 11) + 480 ≤ R.locals; omega⟩ rfl rfl (Nat.le_of_ble_eq_true rfl) dL_law_1864 ⟨by omega, by omega⟩ (fun H locs n1 hM => ?_)
  refine lv_istore (lv' := [(6, .int k), (0, .ref b), (1, .ref bo), (2, .ref mo), (3, .ref oa), (4, .ref da), (5, .int (nI i))]) hx hb dL_law_1867 hl (by decide) rfl (fun ls hl => ?_)
  refine lv_aload_n hx hb dL_law_1869 rfl (lv_at hl 3 rfl) ?_
  refine lv_aload_n hx hb dL_law_1870 rfl (lv_at hl 1 rfl) ?_
  refine lv_iload hx hb dL_law_1871 (lv_at hl 6 rfl) ?_
  refine lv_iconst (v := 1) hx hb dL_law_1873 (by decide) ?_
  refine lv_iadd hx hb dL_law_1874 ?_
  refine lw_rd (k := 1) hx hb hX hbl hbA hM.2.2.2.2 rfl (by omega) hL dL_law_1875 ?_
  refine lv_aload_n hx hb dL_law_1876 rfl (lv_at hl 1 rfl) ?_
  refine lv_iload hx hb dL_law_1877 (lv_at hl 6 rfl) ?_
  refine lv_iconst (v := 2) hx hb dL_law_1879 (by decide) ?_
  refine lv_iadd hx hb dL_law_1880 ?_
  refine lw_rd (k := 2) hx hb hX hbl hbA hM.2.2.2.2 rfl (by omega) hL dL_law_1881 ?_
  refine me_callVi (As := [.int (xs (i + 1)), .int (xs (i + 2))]) (rest := []) hC hl.1 hM (ct2 n1) (kv_L_273 hw hrc2 hrs2 ⟨by omega, by show 8 + (3 + 11) + rm2.locals ≤ R.locals; omega⟩) rfl rfl he1 rfl (Nat.le_of_ble_eq_true rfl) dL_law_1882 ⟨by omega, by omega⟩ (fun H locs hM => ?_)
  refine lv_istore (lv' := [(7, .int r), (6, .int k), (0, .ref b), (1, .ref bo), (2, .ref mo), (3, .ref oa), (4, .ref da), (5, .int (nI i))]) hx hb dL_law_1885 hl (by decide) rfl (fun ls hl => ?_)
  refine lv_aload_n hx hb dL_law_1887 rfl (lv_at hl 4 rfl) ?_
  refine me_callVi (As := []) (rest := []) hC hl.1 hM (ct3 _) (kv_L_145 hw rfl rfl ⟨by show 0 + 1 ≤ R.frames; omega, by show 8 + (1 + 11) + 0 ≤ R.locals; omega⟩) rfl rfl he2 rfl (Nat.le_of_ble_eq_true rfl) dL_law_1888 ⟨by omega, by omega⟩ (fun H locs hM => ?_)
  refine lv_iload hx hb dL_law_1891 (lv_at hl 1 rfl) ?_
  refine lv_icmp_eq (tgt := 1898) hx hb dL_law_1893 (by decide) (fun _ => ?_) (fun h => absurd rfl h)
  refine lv_iload hx hb dL_law_1898 (lv_at hl 1 rfl) ?_
  refine lv_if_ne (tgt := 1915) hx hb dL_law_1900 (by decide) (fun _ => ?_) (fun h0 => ?_)
  · refine lv_goto (tgt := 2920) hx hb dL_law_1915 (by decide) ?_
    exact kk ls H locs _ (lv_sub hl [2, 3, 4, 5, 6, 7] rfl) hM
  obtain ⟨f, ho, hf0⟩ := hk h0
  refine lv_aload_n hx hb dL_law_1903 rfl (lv_at hl 5 rfl) ?_
  refine lv_iconst (v := 0) hx hb dL_law_1904 (by decide) ?_
  refine me_lald (k := 0) hC hM ho rfl (by decide) (by decide) dL_law_1905 ?_
  refine lv_iload hx hb dL_law_1906 (lv_at hl 0 rfl) ?_
  refine lv_i2l hx hb dL_law_1908 rfl ?_
  refine W.lcmp hx hb dL_law_1909 ?_
  refine lv_if_eq (tgt := 1915) hx hb dL_law_1910 (by decide) (fun _ => ?_) (fun h => absurd (lw_lself hf0) h)
  refine lv_goto (tgt := 2920) hx hb dL_law_1915 (by decide) ?_
  exact kk ls H locs _ (lv_sub hl [2, 3, 4, 5, 6, 7] rfl) hM
end LC2
