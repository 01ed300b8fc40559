section LC3
variable {p : Program} {l : Launch} {e : Env} {R : Room} {s : State} {m : MethodId} {args : Array Value} {below : List Frame} {meth : Method} {c : Code} {H : Heap} {locs : List Loc} {cells slots : Nat} {Q : State → Prop} {ls : Array Slot}
variable {D : va_G} {tb : Nat → ClassId} {X : State → Prop} {z0 n : Nat} {M M1 M2 : me_M} {b L i bo mo oa da : Nat} {xs : Nat → Int32} {k r : Int32} {mc ms mc2 ms2 : Nat} {rm1 rm2 : Room} {fs fs2 : List Value} {n2 : Nat → Nat} {n1 n3 : Nat}
set_option maxHeartbeats 4000000 in
theorem lw_c37 (hC : me_cx ws_all p c cL_law 10 s args m RL D tb X z0) (hl : lv_has ls 10 [(0, .ref b), (1, .ref bo), (2, .ref mo), (3, .ref oa), (4, .ref da), (5, .int (nI i))]) (hR : 14 ≤ R.frames ∧ 522 ≤ R.locals) (hM : me_at D z0 M n s H locs) (hX : va_X b L xs s s.heap) (hbl : b < s.heap.size) (hbA : ¬ me_A z0 b) (hi : i + 6 ≤ L) (hL : L ≤ 3072) (hrc2 : rm2.cells = mc2) (hrs2 : rm2.slots = ms2) (hr2 : rm2.frames ≤ 13 ∧ rm2.locals ≤ 480) (he1 : M1 mo = some (.inr (8, fs))) (he2 : M2 mo = some (.inr (8, fs2))) (hf : cells + mc + mc2 ≤ R.cells ∧ slots + ms + ms2 ≤ R.slots) (ct1 : Met l yL_earliestPeacefulStart (.codeWith yL_earliestPeacefulStart cL_earliestPeacefulStart 5 (some .int) [(0, 10, 13, 19), (0, 10, 17, 21)] :: ws_all) ({ frames := 13, cells := mc, slots := ms, locals := 480 } : Room) (me_Pc [.ref bo, .int (xs (i + 1)), .int (xs (i + 2)), .ref oa] D tb X z0 M n) (me_Qn D z0 k M1) mc ms (me_A z0)) (ct2 : ∀ n1, Met l yX8_earliestPeacefulStart (.code yX8_earliestPeacefulStart cX8_earliestPeacefulStart 3 (some .int) :: ws_all) rm2 (me_Pc [.ref mo, .int (xs (i + 1)), .int (xs (i + 2))] D tb X z0 M1 n1) (me_Qi D z0 r M2 (n2 n1)) mc2 ms2 (me_A z0)) (ct3 : ∀ n1, Met l yX8_thrown (.code yX8_thrown cX8_thrown 1 (some .int) :: ws_all) ({ frames := 0, cells := 0, slots := 0, locals := 0 } : Room) (me_Pc [.ref mo] D tb X z0 M2 n1) (me_Qi D z0 k M2 n1) 0 0 (me_A z0)) (hk : k = 0 → ∃ f : Nat → Int64, M2 oa = some (.inl (tb 3, 1, .inr (.inl f))) ∧ f 0 = r.toInt64) (kk : ∀ (ls1 : Array Slot) (H1 : Heap) (locs1 : List Loc) (n5 : Nat), lv_has ls1 10 [(0, .ref b), (1, .ref bo), (2, .ref mo), (3, .ref oa), (4, .ref da), (5, .int (nI i))] → me_at D z0 M2 n5 s H1 locs1 → W p l e R s m args below meth c H1 locs1 (cells + mc + mc2) (slots + ms + ms2) Q (F0 m 2920 ls1 [])) : W p l e R s m args below meth c H locs cells slots Q (F0 m 1918 ls []) := by
  have hx := hC.1
  have hb := hC.2.1
  have hw := hC.2.2.2.2.1
  refine lv_aload_n hx hb dL_law_1918 rfl (lv_at hl 1 rfl) ?_
  refine lv_aload_n hx hb dL_law_1919 rfl (lv_at hl 0 rfl) ?_
  refine lv_iload hx hb dL_law_1920 (lv_at hl 5 rfl) ?_
  refine lv_iconst (v := 1) hx hb dL_law_1922 (by decide) ?_
  refine lv_iadd hx hb dL_law_1923 ?_
  refine lw_rd (k := 1) hx hb hX hbl hbA hM.2.2.2.2 rfl (by omega) hL dL_law_1924 ?_
  refine lv_aload_n hx hb dL_law_1925 rfl (lv_at hl 0 rfl) ?_
  refine lv_iload hx hb dL_law_1926 (lv_at hl 5 rfl) ?_
  refine lv_iconst (v := 2) hx hb dL_law_1928 (by decide) ?_
  refine lv_iadd hx hb dL_law_1929 ?_
  refine lw_rd (k := 2) hx hb hX hbl hbA hM.2.2.2.2 rfl (by omega) hL dL_law_1930 ?_
  refine lv_aload_n hx hb dL_law_1931 rfl (lv_at hl 3 rfl) ?_
  refine me_callSn (nA := 4) (As := [.ref bo, .int (xs (i + 1)), .int (xs (i + 2)), .ref oa]) (rest := []) hC hl.1 hM ct1 w_1001 w_1002 w_0 w_1003 (by decide +kernel) rfl rfl ⟨by show 13 + 1 ≤ R.frames; omega, by show 8 + (5 + 11) + 480 ≤ R.locals; omega⟩ rfl rfl (Nat.le_of_ble_eq_true rfl) dL_law_1932 ⟨by omega, by omega⟩ (fun H locs n1 hM => ?_)
  refine lv_istore (lv' := [(6, .int k), (0, .ref b), (1, .ref bo), (2, .ref mo), (3, .ref oa), (4, .ref da), (5, .int (nI i))]) hx hb dL_law_1935 hl (by decide) rfl (fun ls hl => ?_)
  refine lv_aload_n hx hb dL_law_1937 rfl (lv_at hl 3 rfl) ?_
  refine lv_aload_n hx hb dL_law_1938 rfl (lv_at hl 1 rfl) ?_
  refine lv_iload hx hb dL_law_1939 (lv_at hl 6 rfl) ?_
  refine lv_iconst (v := 1) hx hb dL_law_1941 (by decide) ?_
  refine lv_iadd hx hb dL_law_1942 ?_
  refine lw_rd (k := 1) hx hb hX hbl hbA hM.2.2.2.2 rfl (by omega) hL dL_law_1943 ?_
  refine lv_aload_n hx hb dL_law_1944 rfl (lv_at hl 1 rfl) ?_
  refine lv_iload hx hb dL_law_1945 (lv_at hl 6 rfl) ?_
  refine lv_iconst (v := 2) hx hb dL_law_1947 (by decide) ?_
  refine lv_iadd hx hb dL_law_1948 ?_
  refine lw_rd (k := 2) hx hb hX hbl hbA hM.2.2.2.2 rfl (by omega) hL dL_law_1949 ?_
  refine me_callVi (As := [.int (xs (i + 1)), .int (xs (i + 2))]) (rest := []) hC hl.1 hM (ct2 n1) (kv_L_276 hw hrc2 hrs2 ⟨by omega, by show 8 + (3 + 11) + rm2.locals ≤ R.locals; omega⟩) rfl rfl he1 rfl (Nat.le_of_ble_eq_true rfl) dL_law_1950 ⟨by omega, by omega⟩ (fun H locs hM => ?_)
  refine lv_istore (lv' := [(7, .int r), (6, .int k), (0, .ref b), (1, .ref bo), (2, .ref mo), (3, .ref oa), (4, .ref da), (5, .int (nI i))]) hx hb dL_law_1953 hl (by decide) rfl (fun ls hl => ?_)
  refine lv_aload_n hx hb dL_law_1955 rfl (lv_at hl 4 rfl) ?_
  refine me_callVi (As := []) (rest := []) hC hl.1 hM (ct3 _) (kv_L_145 hw rfl rfl ⟨by show 0 + 1 ≤ R.frames; omega, by show 8 + (1 + 11) + 0 ≤ R.locals; omega⟩) rfl rfl he2 rfl (Nat.le_of_ble_eq_true rfl) dL_law_1956 ⟨by omega, by omega⟩ (fun H locs hM => ?_)
  refine lv_iload hx hb dL_law_1959 (lv_at hl 1 rfl) ?_
  refine lv_icmp_eq (tgt := 1966) hx hb dL_law_1961 (by decide) (fun _ => ?_) (fun h => absurd rfl h)
  refine lv_iload hx hb dL_law_1966 (lv_at hl 1 rfl) ?_
  refine lv_if_ne (tgt := 1983) hx hb dL_law_1968 (by decide) (fun _ => ?_) (fun h0 => ?_)
  · refine lv_goto (tgt := 2920) hx hb dL_law_1983 (by decide) ?_
    exact kk ls H locs _ (lv_sub hl [2, 3, 4, 5, 6, 7] rfl) hM
  obtain ⟨f, ho, hf0⟩ := hk h0
  refine lv_aload_n hx hb dL_law_1971 rfl (lv_at hl 5 rfl) ?_
  refine lv_iconst (v := 0) hx hb dL_law_1972 (by decide) ?_
  refine me_lald (k := 0) hC hM ho rfl (by decide) (by decide) dL_law_1973 ?_
  refine lv_iload hx hb dL_law_1974 (lv_at hl 0 rfl) ?_
  refine lv_i2l hx hb dL_law_1976 rfl ?_
  refine W.lcmp hx hb dL_law_1977 ?_
  refine lv_if_eq (tgt := 1983) hx hb dL_law_1978 (by decide) (fun _ => ?_) (fun h => absurd (lw_lself hf0) h)
  refine lv_goto (tgt := 2920) hx hb dL_law_1983 (by decide) ?_
  exact kk ls H locs _ (lv_sub hl [2, 3, 4, 5, 6, 7] rfl) hM
set_option maxHeartbeats 4000000 in
theorem lw_c38 (hC : me_cx ws_all p c cL_law 10 s args m RL D tb X z0) (hl : lv_has ls 10 [(0, .ref b), (1, .ref bo), (2, .ref mo), (3, .ref oa), (4, .ref da), (5, .int (nI i))]) (hR : 14 ≤ R.frames ∧ 522 ≤ R.locals) (hM : me_at D z0 M n s H locs) (hX : va_X b L xs s s.heap) (hbl : b < s.heap.size) (hbA : ¬ me_A z0 b) (hi : i + 6 ≤ L) (hL : L ≤ 3072) (hrc2 : rm2.cells = mc2) (hrs2 : rm2.slots = ms2) (hr2 : rm2.frames ≤ 13 ∧ rm2.locals ≤ 480) (he1 : M1 mo = some (.inr (8, fs))) (he2 : M2 mo = some (.inr (8, fs2))) (hf : cells + mc + mc2 ≤ R.cells ∧ slots + ms + ms2 ≤ R.slots) (ct1 : Met l yL_illnessAfter (.codeWith yL_illnessAfter cL_illnessAfter 5 (some .int) [(0, 10, 13, 19), (0, 10, 17, 21)] :: ws_all) ({ frames := 13, cells := mc, slots := ms, locals := 480 } : Room) (me_Pc [.ref bo, .int (xs (i + 1)), .int (xs (i + 2)), .ref oa] D tb X z0 M n) (me_Qn D z0 k M1) mc ms (me_A z0)) (ct2 : ∀ n1, Met l yX8_illnessAfter (.code yX8_illnessAfter cX8_illnessAfter 5 (some .int) :: ws_all) rm2 (me_Pc [.ref mo, .int (xs (i + 1)), .int (xs (i + 2))] D tb X z0 M1 n1) (me_Qi D z0 r M2 (n2 n1)) mc2 ms2 (me_A z0)) (ct3 : ∀ n1, Met l yX8_thrown (.code yX8_thrown cX8_thrown 1 (some .int) :: ws_all) ({ frames := 0, cells := 0, slots := 0, locals := 0 } : Room) (me_Pc [.ref mo] D tb X z0 M2 n1) (me_Qi D z0 k M2 n1) 0 0 (me_A z0)) (hk : k = 0 → ∃ f : Nat → Int64, M2 oa = some (.inl (tb 3, 1, .inr (.inl f))) ∧ f 0 = r.toInt64) (kk : ∀ (ls1 : Array Slot) (H1 : Heap) (locs1 : List Loc) (n5 : Nat), lv_has ls1 10 [(0, .ref b), (1, .ref bo), (2, .ref mo), (3, .ref oa), (4, .ref da), (5, .int (nI i))] → me_at D z0 M2 n5 s H1 locs1 → W p l e R s m args below meth c H1 locs1 (cells + mc + mc2) (slots + ms + ms2) Q (F0 m 2920 ls1 [])) : W p l e R s m args below meth c H locs cells slots Q (F0 m 1986 ls []) := by
  have hx := hC.1
  have hb := hC.2.1
  have hw := hC.2.2.2.2.1
  refine lv_aload_n hx hb dL_law_1986 rfl (lv_at hl 1 rfl) ?_
  refine lv_aload_n hx hb dL_law_1987 rfl (lv_at hl 0 rfl) ?_
  refine lv_iload hx hb dL_law_1988 (lv_at hl 5 rfl) ?_
  refine lv_iconst (v := 1) hx hb dL_law_1990 (by decide) ?_
  refine lv_iadd hx hb dL_law_1991 ?_
  refine lw_rd (k := 1) hx hb hX hbl hbA hM.2.2.2.2 rfl (by omega) hL dL_law_1992 ?_
  refine lv_aload_n hx hb dL_law_1993 rfl (lv_at hl 0 rfl) ?_
  refine lv_iload hx hb dL_law_1994 (lv_at hl 5 rfl) ?_
  refine lv_iconst (v := 2) hx hb dL_law_1996 (by decide) ?_
  refine lv_iadd hx hb dL_law_1997 ?_
  refine lw_rd (k := 2) hx hb hX hbl hbA hM.2.2.2.2 rfl (by omega) hL dL_law_1998 ?_
  refine lv_aload_n hx hb dL_law_1999 rfl (lv_at hl 3 rfl) ?_
  refine me_callSn (nA := 4) (As := [.ref bo, .int (xs (i + 1)), .int (xs (i + 2)), .ref oa]) (rest := []) hC hl.1 hM ct1 w_1008 w_1009 w_0 w_1010 (by decide +kernel) rfl rfl ⟨by show 13 + 1 ≤ R.frames; omega, by show 8 + (5 + 11) + 480 ≤ R.locals; omega⟩ rfl rfl (Nat.le_of_ble_eq_true rfl) dL_law_2000 ⟨by omega, by omega⟩ (fun H locs n1 hM => ?_)
  refine lv_istore (lv' := [(6, .int k), (0, .ref b), (1, .ref bo), (2, .ref mo), (3, .ref oa), (4, .ref da), (5, .int (nI i))]) hx hb dL_law_2003 hl (by decide) rfl (fun ls hl => ?_)
  refine lv_aload_n hx hb dL_law_2005 rfl (lv_at hl 3 rfl) ?_
  refine lv_aload_n hx hb dL_law_2006 rfl (lv_at hl 1 rfl) ?_
  refine lv_iload hx hb dL_law_2007 (lv_at hl 6 rfl) ?_
  refine lv_iconst (v := 1) hx hb dL_law_2009 (by decide) ?_
  refine lv_iadd hx hb dL_law_2010 ?_
  refine lw_rd (k := 1) hx hb hX hbl hbA hM.2.2.2.2 rfl (by omega) hL dL_law_2011 ?_
  refine lv_aload_n hx hb dL_law_2012 rfl (lv_at hl 1 rfl) ?_
  refine lv_iload hx hb dL_law_2013 (lv_at hl 6 rfl) ?_
  refine lv_iconst (v := 2) hx hb dL_law_2015 (by decide) ?_
  refine lv_iadd hx hb dL_law_2016 ?_
  refine lw_rd (k := 2) hx hb hX hbl hbA hM.2.2.2.2 rfl (by omega) hL dL_law_2017 ?_
  refine me_callVi (As := [.int (xs (i + 1)), .int (xs (i + 2))]) (rest := []) hC hl.1 hM (ct2 n1) (kv_L_279 hw hrc2 hrs2 ⟨by omega, by show 8 + (5 + 11) + rm2.locals ≤ R.locals; omega⟩) rfl rfl he1 rfl (Nat.le_of_ble_eq_true rfl) dL_law_2018 ⟨by omega, by omega⟩ (fun H locs hM => ?_)
  refine lv_istore (lv' := [(7, .int r), (6, .int k), (0, .ref b), (1, .ref bo), (2, .ref mo), (3, .ref oa), (4, .ref da), (5, .int (nI i))]) hx hb dL_law_2021 hl (by decide) rfl (fun ls hl => ?_)
  refine lv_aload_n hx hb dL_law_2023 rfl (lv_at hl 4 rfl) ?_
  refine me_callVi (As := []) (rest := []) hC hl.1 hM (ct3 _) (kv_L_145 hw rfl rfl ⟨by show 0 + 1 ≤ R.frames; omega, by show 8 + (1 + 11) + 0 ≤ R.locals; omega⟩) rfl rfl he2 rfl (Nat.le_of_ble_eq_true rfl) dL_law_2024 ⟨by omega, by omega⟩ (fun H locs hM => ?_)
  refine lv_iload hx hb dL_law_2027 (lv_at hl 1 rfl) ?_
  refine lv_icmp_eq (tgt := 2034) hx hb dL_law_2029 (by decide) (fun _ => ?_) (fun h => absurd rfl h)
  refine lv_iload hx hb dL_law_2034 (lv_at hl 1 rfl) ?_
  refine lv_if_ne (tgt := 2051) hx hb dL_law_2036 (by decide) (fun _ => ?_) (fun h0 => ?_)
  · refine lv_goto (tgt := 2920) hx hb dL_law_2051 (by decide) ?_
    exact kk ls H locs _ (lv_sub hl [2, 3, 4, 5, 6, 7] rfl) hM
  obtain ⟨f, ho, hf0⟩ := hk h0
  refine lv_aload_n hx hb dL_law_2039 rfl (lv_at hl 5 rfl) ?_
  refine lv_iconst (v := 0) hx hb dL_law_2040 (by decide) ?_
  refine me_lald (k := 0) hC hM ho rfl (by decide) (by decide) dL_law_2041 ?_
  refine lv_iload hx hb dL_law_2042 (lv_at hl 0 rfl) ?_
  refine lv_i2l hx hb dL_law_2044 rfl ?_
  refine W.lcmp hx hb dL_law_2045 ?_
  refine lv_if_eq (tgt := 2051) hx hb dL_law_2046 (by decide) (fun _ => ?_) (fun h => absurd (lw_lself hf0) h)
  refine lv_goto (tgt := 2920) hx hb dL_law_2051 (by decide) ?_
  exact kk ls H locs _ (lv_sub hl [2, 3, 4, 5, 6, 7] rfl) hM
set_option maxHeartbeats 4000000 in
theorem lw_c39 {r : UInt64} (hC : me_cx ws_all p c cL_law 10 s args m RL D tb X z0) (hl : lv_has ls 10 [(0, .ref b), (1, .ref bo), (2, .ref mo), (3, .ref oa), (4, .ref da), (5, .int (nI i))]) (hR : 14 ≤ R.frames ∧ 522 ≤ R.locals) (hM : me_at D z0 M n s H locs) (hX : va_X b L xs s s.heap) (hbl : b < s.heap.size) (hbA : ¬ me_A z0 b) (hi : i + 6 ≤ L) (hL : L ≤ 3072) (hrc2 : rm2.cells = mc2) (hrs2 : rm2.slots = ms2) (hr2 : rm2.frames ≤ 13 ∧ rm2.locals ≤ 480) (he1 : M1 mo = some (.inr (8, fs))) (he2 : M2 mo = some (.inr (8, fs2))) (hf : cells + mc + mc2 ≤ R.cells ∧ slots + ms + ms2 ≤ R.slots) (ct1 : Met l yL_meanNoise (.codeWith yL_meanNoise cL_meanNoise 4 (some .int) [(0, 8, 11, 19)] :: ws_all) ({ frames := 13, cells := mc, slots := ms, locals := 480 } : Room) (me_Pc [.ref bo, .int (xs (i + 1)), .ref da] D tb X z0 M n) (me_Qn D z0 k M1) mc ms (me_A z0)) (ct2 : ∀ n1, Met l yX8_meanNoise (.code yX8_meanNoise cX8_meanNoise 2 (some .double) :: ws_all) rm2 (me_Pc [.ref mo, .int (xs (i + 1))] D tb X z0 M1 n1) (me_Qd D z0 r M2 (n2 n1)) mc2 ms2 (me_A z0)) (ct3 : ∀ n1, Met l yX8_thrown (.code yX8_thrown cX8_thrown 1 (some .int) :: ws_all) ({ frames := 0, cells := 0, slots := 0, locals := 0 } : Room) (me_Pc [.ref mo] D tb X z0 M2 n1) (me_Qi D z0 k M2 n1) 0 0 (me_A z0)) (hk : k = 0 → ∃ f : Nat → UInt64, M2 da = some (.inl (tb 4, 1, .inr (.inr (.inr (.inl f))))) ∧ f 0 = r) (kk : ∀ (ls1 : Array Slot) (H1 : Heap) (locs1 : List Loc) (n5 : Nat), lv_has ls1 10 [(0, .ref b), (1, .ref bo), (2, .ref mo), (3, .ref oa), (4, .ref da), (5, .int (nI i))] → me_at D z0 M2 n5 s H1 locs1 → W p l e R s m args below meth c H1 locs1 (cells + mc + mc2) (slots + ms + ms2) Q (F0 m 2920 ls1 [])) : W p l e R s m args below meth c H locs cells slots Q (F0 m 2054 ls []) := by
  have hx := hC.1
  have hb := hC.2.1
  have hw := hC.2.2.2.2.1
  refine lv_aload_n hx hb dL_law_2054 rfl (lv_at hl 1 rfl) ?_
  refine lv_aload_n hx hb dL_law_2055 rfl (lv_at hl 0 rfl) ?_
  refine lv_iload hx hb dL_law_2056 (lv_at hl 5 rfl) ?_
  refine lv_iconst (v := 1) hx hb dL_law_2058 (by decide) ?_
  refine lv_iadd hx hb dL_law_2059 ?_
  refine lw_rd (k := 1) hx hb hX hbl hbA hM.2.2.2.2 rfl (by omega) hL dL_law_2060 ?_
  refine lv_aload hx hb dL_law_2061 (lv_at hl 4 rfl) ?_
  refine me_callSn (nA := 3) (As := [.ref bo, .int (xs (i + 1)), .ref da]) (rest := []) hC hl.1 hM ct1 w_1021 w_1022 w_0 w_1023 (by decide +kernel) rfl rfl ⟨by show 13 + 1 ≤ R.frames; omega, by show 8 + (4 + 11) + 480 ≤ R.locals; omega⟩ rfl rfl (Nat.le_of_ble_eq_true rfl) dL_law_2063 ⟨by omega, by omega⟩ (fun H locs n1 hM => ?_)
  refine lv_istore (lv' := [(6, .int k), (0, .ref b), (1, .ref bo), (2, .ref mo), (3, .ref oa), (4, .ref da), (5, .int (nI i))]) hx hb dL_law_2066 hl (by decide) rfl (fun ls hl => ?_)
  refine lv_aload_n hx hb dL_law_2068 rfl (lv_at hl 3 rfl) ?_
  refine lv_aload_n hx hb dL_law_2069 rfl (lv_at hl 1 rfl) ?_
  refine lv_iload hx hb dL_law_2070 (lv_at hl 6 rfl) ?_
  refine lv_iconst (v := 1) hx hb dL_law_2072 (by decide) ?_
  refine lv_iadd hx hb dL_law_2073 ?_
  refine lw_rd (k := 1) hx hb hX hbl hbA hM.2.2.2.2 rfl (by omega) hL dL_law_2074 ?_
  refine me_callVd (As := [.int (xs (i + 1))]) (rest := []) hC hl.1 hM (ct2 n1) (kv_L_283 hw hrc2 hrs2 ⟨by omega, by show 8 + (2 + 11) + rm2.locals ≤ R.locals; omega⟩) rfl rfl he1 rfl (Nat.le_of_ble_eq_true rfl) dL_law_2075 ⟨by omega, by omega⟩ (fun H locs hM => ?_)
  refine lv_dstore (lv' := [(7, .double r), (6, .int k), (0, .ref b), (1, .ref bo), (2, .ref mo), (3, .ref oa), (4, .ref da), (5, .int (nI i))]) hx hb dL_law_2078 hl (by decide) rfl (fun ls hl => ?_)
  refine lv_aload_n hx hb dL_law_2080 rfl (lv_at hl 4 rfl) ?_
  refine me_callVi (As := []) (rest := []) hC hl.1 hM (ct3 _) (kv_L_145 hw rfl rfl ⟨by show 0 + 1 ≤ R.frames; omega, by show 8 + (1 + 11) + 0 ≤ R.locals; omega⟩) rfl rfl he2 rfl (Nat.le_of_ble_eq_true rfl) dL_law_2081 ⟨by omega, by omega⟩ (fun H locs hM => ?_)
  refine lv_iload hx hb dL_law_2084 (lv_at hl 1 rfl) ?_
  refine lv_icmp_eq (tgt := 2091) hx hb dL_law_2086 (by decide) (fun _ => ?_) (fun h => absurd rfl h)
  refine lv_iload hx hb dL_law_2091 (lv_at hl 1 rfl) ?_
  refine lv_if_ne (tgt := 2128) hx hb dL_law_2093 (by decide) (fun _ => ?_) (fun h0 => ?_)
  · refine lv_goto (tgt := 2920) hx hb dL_law_2128 (by decide) ?_
    exact kk ls H locs _ (lv_sub hl [2, 3, 4, 5, 6, 7] rfl) hM
  obtain ⟨f, ho, hf0⟩ := hk h0
  refine lv_aload hx hb dL_law_2096 (lv_at hl 6 rfl) ?_
  refine lv_iconst (v := 0) hx hb dL_law_2098 (by decide) ?_
  refine me_dald (k := 0) hC hM ho rfl (by decide) (by decide) dL_law_2099 ?_
  refine lv_dload hx hb dL_law_2100 (lv_at hl 0 rfl) ?_
  refine lv_dcmp hx hb dL_law_2102 ?_
  rw [hf0]
  refine lv_if_eq (tgt := 2128) hx hb dL_law_2103 (by decide) (fun _ => ?_) (fun h1 => ?_)
  · refine lv_goto (tgt := 2920) hx hb dL_law_2128 (by decide) ?_
    exact kk ls H locs _ (lv_sub hl [2, 3, 4, 5, 6, 7] rfl) hM
  refine lv_aload hx hb dL_law_2106 (lv_at hl 6 rfl) ?_
  refine lv_iconst (v := 0) hx hb dL_law_2108 (by decide) ?_
  refine me_dald (k := 0) hC hM ho rfl (by decide) (by decide) dL_law_2109 ?_
  refine lv_aload hx hb dL_law_2110 (lv_at hl 6 rfl) ?_
  refine lv_iconst (v := 0) hx hb dL_law_2112 (by decide) ?_
  refine me_dald (k := 0) hC hM ho rfl (by decide) (by decide) dL_law_2113 ?_
  refine lv_dcmp hx hb dL_law_2114 ?_
  rw [hf0]
  refine lv_if_eq (tgt := 2126) hx hb dL_law_2115 (by decide) (fun h => absurd h h1) (fun h1 => ?_)
  refine lv_dload hx hb dL_law_2118 (lv_at hl 0 rfl) ?_
  refine lv_dload hx hb dL_law_2120 (lv_at hl 0 rfl) ?_
  refine lv_dcmp hx hb dL_law_2122 ?_
  refine lv_if_ne (tgt := 2128) hx hb dL_law_2123 (by decide) (fun _ => ?_) (fun h => absurd h h1)
  refine lv_goto (tgt := 2920) hx hb dL_law_2128 (by decide) ?_
  exact kk ls H locs _ (lv_sub hl [2, 3, 4, 5, 6, 7] rfl) hM
set_option maxHeartbeats 4000000 in
theorem lw_c40 {r : UInt32} (hC : me_cx ws_all p c cL_law 10 s args m RL D tb X z0) (hl : lv_has ls 10 [(0, .ref b), (1, .ref bo), (2, .ref mo), (3, .ref oa), (4, .ref da), (5, .int (nI i))]) (hR : 14 ≤ R.frames ∧ 522 ≤ R.locals) (hM : me_at D z0 M n s H locs) (hrc1 : rm1.cells = mc) (hrs1 : rm1.slots = ms) (hr1 : rm1.frames ≤ 13 ∧ rm1.locals ≤ 480) (hrc2 : rm2.cells = mc2) (hrs2 : rm2.slots = ms2) (hr2 : rm2.frames ≤ 13 ∧ rm2.locals ≤ 480) (he : M bo = some (.inr (7, fs))) (he2 : M1 mo = some (.inr (8, fs2))) (hf : cells + mc + mc2 ≤ R.cells ∧ slots + ms + ms2 ≤ R.slots) (hnn : vf_n64 (FP.f2d r)) (ct1 : Met l yX7_lentShare (.code yX7_lentShare cX7_lentShare 1 (some .float) :: ws_all) rm1 (me_Pc [.ref bo] D tb X z0 M n) (me_Qf D z0 r M1 n1) mc ms (me_A z0)) (ct2 : Met l yX8_lentShare (.code yX8_lentShare cX8_lentShare 1 (some .float) :: ws_all) rm2 (me_Pc [.ref mo] D tb X z0 M1 n1) (me_Qf D z0 r M2 n3) mc2 ms2 (me_A z0)) (kk : ∀ (ls1 : Array Slot) (H1 : Heap) (locs1 : List Loc) (n5 : Nat), lv_has ls1 10 [(0, .ref b), (1, .ref bo), (2, .ref mo), (3, .ref oa), (4, .ref da), (5, .int (nI i))] → me_at D z0 M2 n5 s H1 locs1 → W p l e R s m args below meth c H1 locs1 (cells + mc + mc2) (slots + ms + ms2) Q (F0 m 2920 ls1 [])) : W p l e R s m args below meth c H locs cells slots Q (F0 m 2131 ls []) := by
  have hx := hC.1
  have hb := hC.2.1
  have hw := hC.2.2.2.2.1
  refine lv_aload_n hx hb dL_law_2131 rfl (lv_at hl 1 rfl) ?_
  refine me_callVf (As := []) (rest := []) hC hl.1 hM ct1 (kv_L_284 hw hrc1 hrs1 ⟨by omega, by show 8 + (1 + 11) + rm1.locals ≤ R.locals; omega⟩) rfl rfl he rfl (Nat.le_of_ble_eq_true rfl) dL_law_2132 ⟨by omega, by omega⟩ (fun H locs hM => ?_)
  refine lv_f2d hx hb dL_law_2135 hnn ?_
  refine lv_dstore (lv' := [(6, .double (FP.f2d r)), (0, .ref b), (1, .ref bo), (2, .ref mo), (3, .ref oa), (4, .ref da), (5, .int (nI i))]) hx hb dL_law_2136 hl (by decide) rfl (fun ls hl => ?_)
  refine lv_aload_n hx hb dL_law_2138 rfl (lv_at hl 3 rfl) ?_
  refine me_callVf (As := []) (rest := []) hC hl.1 hM ct2 (kv_L_288 hw hrc2 hrs2 ⟨by omega, by show 8 + (1 + 11) + rm2.locals ≤ R.locals; omega⟩) rfl rfl he2 rfl (Nat.le_of_ble_eq_true rfl) dL_law_2139 ⟨by omega, by omega⟩ (fun H locs hM => ?_)
  refine lv_f2d hx hb dL_law_2142 hnn ?_
  refine lv_dstore (lv' := [(8, .double (FP.f2d r)), (6, .double (FP.f2d r)), (0, .ref b), (1, .ref bo), (2, .ref mo), (3, .ref oa), (4, .ref da), (5, .int (nI i))]) hx hb dL_law_2143 hl (by decide) rfl (fun ls hl => ?_)
  refine lv_dload hx hb dL_law_2145 (lv_at hl 1 rfl) ?_
  refine lv_dload hx hb dL_law_2147 (lv_at hl 0 rfl) ?_
  refine lv_dcmp hx hb dL_law_2149 ?_
  refine lv_if_eq (tgt := 2171) hx hb dL_law_2150 (by decide) (fun _ => ?_) (fun h1 => ?_)
  · refine lv_goto (tgt := 2920) hx hb dL_law_2171 (by decide) ?_
    exact kk ls H locs _ (lv_sub hl [2, 3, 4, 5, 6, 7] rfl) hM
  refine lv_dload hx hb dL_law_2153 (lv_at hl 1 rfl) ?_
  refine lv_dload hx hb dL_law_2155 (lv_at hl 1 rfl) ?_
  refine lv_dcmp hx hb dL_law_2157 ?_
  refine lv_if_eq (tgt := 2169) hx hb dL_law_2158 (by decide) (fun h => absurd h h1) (fun h1 => ?_)
  refine lv_dload hx hb dL_law_2161 (lv_at hl 0 rfl) ?_
  refine lv_dload hx hb dL_law_2163 (lv_at hl 0 rfl) ?_
  refine lv_dcmp hx hb dL_law_2165 ?_
  refine lv_if_ne (tgt := 2171) hx hb dL_law_2166 (by decide) (fun _ => ?_) (fun h => absurd h h1)
  refine lv_goto (tgt := 2920) hx hb dL_law_2171 (by decide) ?_
  exact kk ls H locs _ (lv_sub hl [2, 3, 4, 5, 6, 7] rfl) hM
set_option maxHeartbeats 4000000 in
theorem lw_c41 (hC : me_cx ws_all p c cL_law 10 s args m RL D tb X z0) (hl : lv_has ls 10 [(0, .ref b), (1, .ref bo), (2, .ref mo), (3, .ref oa), (4, .ref da), (5, .int (nI i))]) (hR : 14 ≤ R.frames ∧ 522 ≤ R.locals) (hM : me_at D z0 M n s H locs) (hrc1 : rm1.cells = mc) (hrs1 : rm1.slots = ms) (hr1 : rm1.frames ≤ 13 ∧ rm1.locals ≤ 480) (hrc2 : rm2.cells = mc2) (hrs2 : rm2.slots = ms2) (hr2 : rm2.frames ≤ 13 ∧ rm2.locals ≤ 480) (he : M bo = some (.inr (7, fs))) (he2 : M1 mo = some (.inr (8, fs2))) (hf : cells + mc + mc2 ≤ R.cells ∧ slots + ms + ms2 ≤ R.slots) (ct1 : Met l yX7_ledgerDifference (.code yX7_ledgerDifference cX7_ledgerDifference 2 (some .int) :: ws_all) rm1 (me_Pc [.ref bo] D tb X z0 M n) (me_Qi D z0 r M1 n1) mc ms (me_A z0)) (ct2 : Met l yX8_ledgerDifference (.code yX8_ledgerDifference cX8_ledgerDifference 3 (some .int) :: ws_all) rm2 (me_Pc [.ref mo] D tb X z0 M1 n1) (me_Qi D z0 r M2 n3) mc2 ms2 (me_A z0)) (kk : ∀ (ls1 : Array Slot) (H1 : Heap) (locs1 : List Loc) (n5 : Nat), lv_has ls1 10 [(0, .ref b), (1, .ref bo), (2, .ref mo), (3, .ref oa), (4, .ref da), (5, .int (nI i))] → me_at D z0 M2 n5 s H1 locs1 → W p l e R s m args below meth c H1 locs1 (cells + mc + mc2) (slots + ms + ms2) Q (F0 m 2920 ls1 [])) : W p l e R s m args below meth c H locs cells slots Q (F0 m 2174 ls []) := by
  have hx := hC.1
  have hb := hC.2.1
  have hw := hC.2.2.2.2.1
  refine lv_aload_n hx hb dL_law_2174 rfl (lv_at hl 1 rfl) ?_
  refine me_callVi (As := []) (rest := []) hC hl.1 hM ct1 (kv_L_289 hw hrc1 hrs1 ⟨by omega, by show 8 + (2 + 11) + rm1.locals ≤ R.locals; omega⟩) rfl rfl he rfl (Nat.le_of_ble_eq_true rfl) dL_law_2175 ⟨by omega, by omega⟩ (fun H locs hM => ?_)
  refine lv_aload_n hx hb dL_law_2178 rfl (lv_at hl 2 rfl) ?_
  refine me_callVi (As := []) (rest := [.int r]) hC hl.1 hM ct2 (kv_L_292 hw hrc2 hrs2 ⟨by omega, by show 8 + (3 + 11) + rm2.locals ≤ R.locals; omega⟩) rfl rfl he2 rfl (Nat.le_of_ble_eq_true rfl) dL_law_2179 ⟨by omega, by omega⟩ (fun H locs hM => ?_)
  refine lv_icmp_eq (tgt := 2920) hx hb dL_law_2182 (by decide) (fun _ => ?_) (fun h => absurd rfl h)
  exact kk ls H locs _ hl hM
set_option maxHeartbeats 4000000 in
theorem lw_c42 (hC : me_cx ws_all p c cL_law 10 s args m RL D tb X z0) (hl : lv_has ls 10 [(0, .ref b), (1, .ref bo), (2, .ref mo), (3, .ref oa), (4, .ref da), (5, .int (nI i))]) (hR : 14 ≤ R.frames ∧ 522 ≤ R.locals) (hM : me_at D z0 M n s H locs) (hX : va_X b L xs s s.heap) (hbl : b < s.heap.size) (hbA : ¬ me_A z0 b) (hi : i + 6 ≤ L) (hL : L ≤ 3072) (hrc2 : rm2.cells = mc2) (hrs2 : rm2.slots = ms2) (hr2 : rm2.frames ≤ 13 ∧ rm2.locals ≤ 480) (he1 : M1 mo = some (.inr (8, fs))) (he2 : M2 mo = some (.inr (8, fs2))) (hf : cells + mc + mc2 ≤ R.cells ∧ slots + ms + ms2 ≤ R.slots) (ct1 : Met l yL_lend (.codeWith yL_lend cL_lend 6 (some .int) [(0, 12, 15, 19), (0, 12, 19, 21), (0, 12, 23, 13)] :: ws_all) ({ frames := 13, cells := mc, slots := ms, locals := 480 } : Room) (me_Pc [.ref bo, .int (xs (i + 1)), .int (xs (i + 2)), .int (xs (i + 3)), .ref oa] D tb X z0 M n) (me_Qn D z0 k M1) mc ms (me_A z0)) (ct2 : ∀ n1, Met l yX8_lend (.code yX8_lend cX8_lend 4 (some .int) :: ws_all) rm2 (me_Pc [.ref mo, .int (xs (i + 1)), .int (xs (i + 2)), .int (xs (i + 3))] D tb X z0 M1 n1) (me_Qi D z0 r M2 (n2 n1)) mc2 ms2 (me_A z0)) (ct3 : ∀ n1, Met l yX8_thrown (.code yX8_thrown cX8_thrown 1 (some .int) :: ws_all) ({ frames := 0, cells := 0, slots := 0, locals := 0 } : Room) (me_Pc [.ref mo] D tb X z0 M2 n1) (me_Qi D z0 k M2 n1) 0 0 (me_A z0)) (hk : k = 0 → ∃ f : Nat → Int64, M2 oa = some (.inl (tb 3, 1, .inr (.inl f))) ∧ f 0 = r.toInt64) (kk : ∀ (ls1 : Array Slot) (H1 : Heap) (locs1 : List Loc) (n5 : Nat), lv_has ls1 10 [(0, .ref b), (1, .ref bo), (2, .ref mo), (3, .ref oa), (4, .ref da), (5, .int (nI i))] → me_at D z0 M2 n5 s H1 locs1 → W p l e R s m args below meth c H1 locs1 (cells + mc + mc2) (slots + ms + ms2) Q (F0 m 2920 ls1 [])) : W p l e R s m args below meth c H locs cells slots Q (F0 m 2187 ls []) := by
  have hx := hC.1
  have hb := hC.2.1
  have hw := hC.2.2.2.2.1
  refine lv_aload_n hx hb dL_law_2187 rfl (lv_at hl 1 rfl) ?_
  refine lv_aload_n hx hb dL_law_2188 rfl (lv_at hl 0 rfl) ?_
  refine lv_iload hx hb dL_law_2189 (lv_at hl 5 rfl) ?_
  refine lv_iconst (v := 1) hx hb dL_law_2191 (by decide) ?_
  refine lv_iadd hx hb dL_law_2192 ?_
  refine lw_rd (k := 1) hx hb hX hbl hbA hM.2.2.2.2 rfl (by omega) hL dL_law_2193 ?_
  refine lv_aload_n hx hb dL_law_2194 rfl (lv_at hl 0 rfl) ?_
  refine lv_iload hx hb dL_law_2195 (lv_at hl 5 rfl) ?_
  refine lv_iconst (v := 2) hx hb dL_law_2197 (by decide) ?_
  refine lv_iadd hx hb dL_law_2198 ?_
  refine lw_rd (k := 2) hx hb hX hbl hbA hM.2.2.2.2 rfl (by omega) hL dL_law_2199 ?_
  refine lv_aload_n hx hb dL_law_2200 rfl (lv_at hl 0 rfl) ?_
  refine lv_iload hx hb dL_law_2201 (lv_at hl 5 rfl) ?_
  refine lv_iconst (v := 3) hx hb dL_law_2203 (by decide) ?_
  refine lv_iadd hx hb dL_law_2204 ?_
  refine lw_rd (k := 3) hx hb hX hbl hbA hM.2.2.2.2 rfl (by omega) hL dL_law_2205 ?_
  refine lv_aload_n hx hb dL_law_2206 rfl (lv_at hl 3 rfl) ?_
  refine me_callSn (nA := 5) (As := [.ref bo, .int (xs (i + 1)), .int (xs (i + 2)), .int (xs (i + 3)), .ref oa]) (rest := []) hC hl.1 hM ct1 w_1028 w_1029 w_0 w_1030 (by decide +kernel) rfl rfl ⟨by show 13 + 1 ≤ R.frames; omega, by show 8 + (6 + 11) + 480 ≤ R.locals; omega⟩ rfl rfl (Nat.le_of_ble_eq_true rfl) dL_law_2207 ⟨by omega, by omega⟩ (fun H locs n1 hM => ?_)
  refine lv_istore (lv' := [(6, .int k), (0, .ref b), (1, .ref bo), (2, .ref mo), (3, .ref oa), (4, .ref da), (5, .int (nI i))]) hx hb dL_law_2210 hl (by decide) rfl (fun ls hl => ?_)
  refine lv_aload_n hx hb dL_law_2212 rfl (lv_at hl 3 rfl) ?_
  refine lv_aload_n hx hb dL_law_2213 rfl (lv_at hl 1 rfl) ?_
  refine lv_iload hx hb dL_law_2214 (lv_at hl 6 rfl) ?_
  refine lv_iconst (v := 1) hx hb dL_law_2216 (by decide) ?_
  refine lv_iadd hx hb dL_law_2217 ?_
  refine lw_rd (k := 1) hx hb hX hbl hbA hM.2.2.2.2 rfl (by omega) hL dL_law_2218 ?_
  refine lv_aload_n hx hb dL_law_2219 rfl (lv_at hl 1 rfl) ?_
  refine lv_iload hx hb dL_law_2220 (lv_at hl 6 rfl) ?_
  refine lv_iconst (v := 2) hx hb dL_law_2222 (by decide) ?_
  refine lv_iadd hx hb dL_law_2223 ?_
  refine lw_rd (k := 2) hx hb hX hbl hbA hM.2.2.2.2 rfl (by omega) hL dL_law_2224 ?_
  refine lv_aload_n hx hb dL_law_2225 rfl (lv_at hl 1 rfl) ?_
  refine lv_iload hx hb dL_law_2226 (lv_at hl 6 rfl) ?_
  refine lv_iconst (v := 3) hx hb dL_law_2228 (by decide) ?_
  refine lv_iadd hx hb dL_law_2229 ?_
  refine lw_rd (k := 3) hx hb hX hbl hbA hM.2.2.2.2 rfl (by omega) hL dL_law_2230 ?_
  refine me_callVi (As := [.int (xs (i + 1)), .int (xs (i + 2)), .int (xs (i + 3))]) (rest := []) hC hl.1 hM (ct2 n1) (kv_L_295 hw hrc2 hrs2 ⟨by omega, by show 8 + (4 + 11) + rm2.locals ≤ R.locals; omega⟩) rfl rfl he1 rfl (Nat.le_of_ble_eq_true rfl) dL_law_2231 ⟨by omega, by omega⟩ (fun H locs hM => ?_)
  refine lv_istore (lv' := [(7, .int r), (6, .int k), (0, .ref b), (1, .ref bo), (2, .ref mo), (3, .ref oa), (4, .ref da), (5, .int (nI i))]) hx hb dL_law_2234 hl (by decide) rfl (fun ls hl => ?_)
  refine lv_aload_n hx hb dL_law_2236 rfl (lv_at hl 4 rfl) ?_
  refine me_callVi (As := []) (rest := []) hC hl.1 hM (ct3 _) (kv_L_145 hw rfl rfl ⟨by show 0 + 1 ≤ R.frames; omega, by show 8 + (1 + 11) + 0 ≤ R.locals; omega⟩) rfl rfl he2 rfl (Nat.le_of_ble_eq_true rfl) dL_law_2237 ⟨by omega, by omega⟩ (fun H locs hM => ?_)
  refine lv_iload hx hb dL_law_2240 (lv_at hl 1 rfl) ?_
  refine lv_icmp_eq (tgt := 2247) hx hb dL_law_2242 (by decide) (fun _ => ?_) (fun h => absurd rfl h)
  refine lv_iload hx hb dL_law_2247 (lv_at hl 1 rfl) ?_
  refine lv_if_ne (tgt := 2264) hx hb dL_law_2249 (by decide) (fun _ => ?_) (fun h0 => ?_)
  · refine lv_goto (tgt := 2920) hx hb dL_law_2264 (by decide) ?_
    exact kk ls H locs _ (lv_sub hl [2, 3, 4, 5, 6, 7] rfl) hM
  obtain ⟨f, ho, hf0⟩ := hk h0
  refine lv_aload_n hx hb dL_law_2252 rfl (lv_at hl 5 rfl) ?_
  refine lv_iconst (v := 0) hx hb dL_law_2253 (by decide) ?_
  refine me_lald (k := 0) hC hM ho rfl (by decide) (by decide) dL_law_2254 ?_
  refine lv_iload hx hb dL_law_2255 (lv_at hl 0 rfl) ?_
  refine lv_i2l hx hb dL_law_2257 rfl ?_
  refine W.lcmp hx hb dL_law_2258 ?_
  refine lv_if_eq (tgt := 2264) hx hb dL_law_2259 (by decide) (fun _ => ?_) (fun h => absurd (lw_lself hf0) h)
  refine lv_goto (tgt := 2920) hx hb dL_law_2264 (by decide) ?_
  exact kk ls H locs _ (lv_sub hl [2, 3, 4, 5, 6, 7] rfl) hM
set_option maxHeartbeats 4000000 in
theorem lw_c43 (hC : me_cx ws_all p c cL_law 10 s args m RL D tb X z0) (hl : lv_has ls 10 [(0, .ref b), (1, .ref bo), (2, .ref mo), (3, .ref oa), (4, .ref da), (5, .int (nI i))]) (hR : 14 ≤ R.frames ∧ 522 ≤ R.locals) (hM : me_at D z0 M n s H locs) (hX : va_X b L xs s s.heap) (hbl : b < s.heap.size) (hbA : ¬ me_A z0 b) (hi : i + 6 ≤ L) (hL : L ≤ 3072) (hrc2 : rm2.cells = mc2) (hrs2 : rm2.slots = ms2) (hr2 : rm2.frames ≤ 13 ∧ rm2.locals ≤ 480) (he1 : M1 mo = some (.inr (8, fs))) (he2 : M2 mo = some (.inr (8, fs2))) (hf : cells + mc + mc2 ≤ R.cells ∧ slots + ms + ms2 ≤ R.slots) (ct1 : Met l yL_cancel (.codeWith yL_cancel cL_cancel 4 (some .int) [(0, 9, 12, 19), (0, 9, 15, 13)] :: ws_all) ({ frames := 13, cells := mc, slots := ms, locals := 480 } : Room) (me_Pc [.ref bo, .int (xs (i + 1)), .ref oa] D tb X z0 M n) (me_Qn D z0 k M1) mc ms (me_A z0)) (ct2 : ∀ n1, Met l yX8_cancel (.code yX8_cancel cX8_cancel 2 (some .int) :: ws_all) rm2 (me_Pc [.ref mo, .int (xs (i + 1))] D tb X z0 M1 n1) (me_Qi D z0 r M2 (n2 n1)) mc2 ms2 (me_A z0)) (ct3 : ∀ n1, Met l yX8_thrown (.code yX8_thrown cX8_thrown 1 (some .int) :: ws_all) ({ frames := 0, cells := 0, slots := 0, locals := 0 } : Room) (me_Pc [.ref mo] D tb X z0 M2 n1) (me_Qi D z0 k M2 n1) 0 0 (me_A z0)) (hk : k = 0 → ∃ f : Nat → Int64, M2 oa = some (.inl (tb 3, 1, .inr (.inl f))) ∧ f 0 = r.toInt64) (kk : ∀ (ls1 : Array Slot) (H1 : Heap) (locs1 : List Loc) (n5 : Nat), lv_has ls1 10 [(0, .ref b), (1, .ref bo), (2, .ref mo), (3, .ref oa), (4, .ref da), (5, .int (nI i))] → me_at D z0 M2 n5 s H1 locs1 → W p l e R s m args below meth c H1 locs1 (cells + mc + mc2) (slots + ms + ms2) Q (F0 m 2920 ls1 [])) : W p l e R s m args below meth c H locs cells slots Q (F0 m 2267 ls []) := by
  have hx := hC.1
  have hb := hC.2.1
  have hw := hC.2.2.2.2.1
  refine lv_aload_n hx hb dL_law_2267 rfl (lv_at hl 1 rfl) ?_
  refine lv_aload_n hx hb dL_law_2268 rfl (lv_at hl 0 rfl) ?_
  refine lv_iload hx hb dL_law_2269 (lv_at hl 5 rfl) ?_
  refine lv_iconst (v := 1) hx hb dL_law_2271 (by decide) ?_
  refine lv_iadd hx hb dL_law_2272 ?_
  refine lw_rd (k := 1) hx hb hX hbl hbA hM.2.2.2.2 rfl (by omega) hL dL_law_2273 ?_
  refine lv_aload_n hx hb dL_law_2274 rfl (lv_at hl 3 rfl) ?_
  refine me_callSn (nA := 3) (As := [.ref bo, .int (xs (i + 1)), .ref oa]) (rest := []) hC hl.1 hM ct1 w_1043 w_1044 w_0 w_1045 (by decide +kernel) rfl rfl ⟨by show 13 + 1 ≤ R.frames; omega, by show 8 + (4 + 11) + 480 ≤ R.locals; omega⟩ rfl rfl (Nat.le_of_ble_eq_true rfl) dL_law_2275 ⟨by omega, by omega⟩ (fun H locs n1 hM => ?_)
  refine lv_istore (lv' := [(6, .int k), (0, .ref b), (1, .ref bo), (2, .ref mo), (3, .ref oa), (4, .ref da), (5, .int (nI i))]) hx hb dL_law_2278 hl (by decide) rfl (fun ls hl => ?_)
  refine lv_aload_n hx hb dL_law_2280 rfl (lv_at hl 3 rfl) ?_
  refine lv_aload_n hx hb dL_law_2281 rfl (lv_at hl 1 rfl) ?_
  refine lv_iload hx hb dL_law_2282 (lv_at hl 6 rfl) ?_
  refine lv_iconst (v := 1) hx hb dL_law_2284 (by decide) ?_
  refine lv_iadd hx hb dL_law_2285 ?_
  refine lw_rd (k := 1) hx hb hX hbl hbA hM.2.2.2.2 rfl (by omega) hL dL_law_2286 ?_
  refine me_callVi (As := [.int (xs (i + 1))]) (rest := []) hC hl.1 hM (ct2 n1) (kv_L_298 hw hrc2 hrs2 ⟨by omega, by show 8 + (2 + 11) + rm2.locals ≤ R.locals; omega⟩) rfl rfl he1 rfl (Nat.le_of_ble_eq_true rfl) dL_law_2287 ⟨by omega, by omega⟩ (fun H locs hM => ?_)
  refine lv_istore (lv' := [(7, .int r), (6, .int k), (0, .ref b), (1, .ref bo), (2, .ref mo), (3, .ref oa), (4, .ref da), (5, .int (nI i))]) hx hb dL_law_2290 hl (by decide) rfl (fun ls hl => ?_)
  refine lv_aload_n hx hb dL_law_2292 rfl (lv_at hl 4 rfl) ?_
  refine me_callVi (As := []) (rest := []) hC hl.1 hM (ct3 _) (kv_L_145 hw rfl rfl ⟨by show 0 + 1 ≤ R.frames; omega, by show 8 + (1 + 11) + 0 ≤ R.locals; omega⟩) rfl rfl he2 rfl (Nat.le_of_ble_eq_true rfl) dL_law_2293 ⟨by omega, by omega⟩ (fun H locs hM => ?_)
  refine lv_iload hx hb dL_law_2296 (lv_at hl 1 rfl) ?_
  refine lv_icmp_eq (tgt := 2303) hx hb dL_law_2298 (by decide) (fun _ => ?_) (fun h => absurd rfl h)
  refine lv_iload hx hb dL_law_2303 (lv_at hl 1 rfl) ?_
  refine lv_if_ne (tgt := 2320) hx hb dL_law_2305 (by decide) (fun _ => ?_) (fun h0 => ?_)
  · refine lv_goto (tgt := 2920) hx hb dL_law_2320 (by decide) ?_
    exact kk ls H locs _ (lv_sub hl [2, 3, 4, 5, 6, 7] rfl) hM
  obtain ⟨f, ho, hf0⟩ := hk h0
  refine lv_aload_n hx hb dL_law_2308 rfl (lv_at hl 5 rfl) ?_
  refine lv_iconst (v := 0) hx hb dL_law_2309 (by decide) ?_
  refine me_lald (k := 0) hC hM ho rfl (by decide) (by decide) dL_law_2310 ?_
  refine lv_iload hx hb dL_law_2311 (lv_at hl 0 rfl) ?_
  refine lv_i2l hx hb dL_law_2313 rfl ?_
  refine W.lcmp hx hb dL_law_2314 ?_
  refine lv_if_eq (tgt := 2320) hx hb dL_law_2315 (by decide) (fun _ => ?_) (fun h => absurd (lw_lself hf0) h)
  refine lv_goto (tgt := 2920) hx hb dL_law_2320 (by decide) ?_
  exact kk ls H locs _ (lv_sub hl [2, 3, 4, 5, 6, 7] rfl) hM
set_option maxHeartbeats 4000000 in
theorem lw_c44 (hC : me_cx ws_all p c cL_law 10 s args m RL D tb X z0) (hl : lv_has ls 10 [(0, .ref b), (1, .ref bo), (2, .ref mo), (3, .ref oa), (4, .ref da), (5, .int (nI i))]) (hR : 14 ≤ R.frames ∧ 522 ≤ R.locals) (hM : me_at D z0 M n s H locs) (hX : va_X b L xs s s.heap) (hbl : b < s.heap.size) (hbA : ¬ me_A z0 b) (hi : i + 6 ≤ L) (hL : L ≤ 3072) (hrc2 : rm2.cells = mc2) (hrs2 : rm2.slots = ms2) (hr2 : rm2.frames ≤ 13 ∧ rm2.locals ≤ 480) (he1 : M1 mo = some (.inr (8, fs))) (he2 : M2 mo = some (.inr (8, fs2))) (hf : cells + mc + mc2 ≤ R.cells ∧ slots + ms + ms2 ≤ R.slots) (ct1 : Met l yL_whistle (.codeWith yL_whistle cL_whistle 4 (some .int) [(0, 9, 12, 19), (0, 9, 15, 13)] :: ws_all) ({ frames := 13, cells := mc, slots := ms, locals := 480 } : Room) (me_Pc [.ref bo, .int (xs (i + 1)), .ref oa] D tb X z0 M n) (me_Qn D z0 k M1) mc ms (me_A z0)) (ct2 : ∀ n1, Met l yX8_whistle (.code yX8_whistle cX8_whistle 2 (some .int) :: ws_all) rm2 (me_Pc [.ref mo, .int (xs (i + 1))] D tb X z0 M1 n1) (me_Qi D z0 r M2 (n2 n1)) mc2 ms2 (me_A z0)) (ct3 : ∀ n1, Met l yX8_thrown (.code yX8_thrown cX8_thrown 1 (some .int) :: ws_all) ({ frames := 0, cells := 0, slots := 0, locals := 0 } : Room) (me_Pc [.ref mo] D tb X z0 M2 n1) (me_Qi D z0 k M2 n1) 0 0 (me_A z0)) (hk : k = 0 → ∃ f : Nat → Int64, M2 oa = some (.inl (tb 3, 1, .inr (.inl f))) ∧ f 0 = r.toInt64) (kk : ∀ (ls1 : Array Slot) (H1 : Heap) (locs1 : List Loc) (n5 : Nat), lv_has ls1 10 [(0, .ref b), (1, .ref bo), (2, .ref mo), (3, .ref oa), (4, .ref da), (5, .int (nI i))] → me_at D z0 M2 n5 s H1 locs1 → W p l e R s m args below meth c H1 locs1 (cells + mc + mc2) (slots + ms + ms2) Q (F0 m 2920 ls1 [])) : W p l e R s m args below meth c H locs cells slots Q (F0 m 2323 ls []) := by
  have hx := hC.1
  have hb := hC.2.1
  have hw := hC.2.2.2.2.1
  refine lv_aload_n hx hb dL_law_2323 rfl (lv_at hl 1 rfl) ?_
  refine lv_aload_n hx hb dL_law_2324 rfl (lv_at hl 0 rfl) ?_
  refine lv_iload hx hb dL_law_2325 (lv_at hl 5 rfl) ?_
  refine lv_iconst (v := 1) hx hb dL_law_2327 (by decide) ?_
  refine lv_iadd hx hb dL_law_2328 ?_
  refine lw_rd (k := 1) hx hb hX hbl hbA hM.2.2.2.2 rfl (by omega) hL dL_law_2329 ?_
  refine lv_aload_n hx hb dL_law_2330 rfl (lv_at hl 3 rfl) ?_
  refine me_callSn (nA := 3) (As := [.ref bo, .int (xs (i + 1)), .ref oa]) (rest := []) hC hl.1 hM ct1 w_1052 w_1053 w_0 w_1054 (by decide +kernel) rfl rfl ⟨by show 13 + 1 ≤ R.frames; omega, by show 8 + (4 + 11) + 480 ≤ R.locals; omega⟩ rfl rfl (Nat.le_of_ble_eq_true rfl) dL_law_2331 ⟨by omega, by omega⟩ (fun H locs n1 hM => ?_)
  refine lv_istore (lv' := [(6, .int k), (0, .ref b), (1, .ref bo), (2, .ref mo), (3, .ref oa), (4, .ref da), (5, .int (nI i))]) hx hb dL_law_2334 hl (by decide) rfl (fun ls hl => ?_)
  refine lv_aload_n hx hb dL_law_2336 rfl (lv_at hl 3 rfl) ?_
  refine lv_aload_n hx hb dL_law_2337 rfl (lv_at hl 1 rfl) ?_
  refine lv_iload hx hb dL_law_2338 (lv_at hl 6 rfl) ?_
  refine lv_iconst (v := 1) hx hb dL_law_2340 (by decide) ?_
  refine lv_iadd hx hb dL_law_2341 ?_
  refine lw_rd (k := 1) hx hb hX hbl hbA hM.2.2.2.2 rfl (by omega) hL dL_law_2342 ?_
  refine me_callVi (As := [.int (xs (i + 1))]) (rest := []) hC hl.1 hM (ct2 n1) (kv_L_301 hw hrc2 hrs2 ⟨by omega, by show 8 + (2 + 11) + rm2.locals ≤ R.locals; omega⟩) rfl rfl he1 rfl (Nat.le_of_ble_eq_true rfl) dL_law_2343 ⟨by omega, by omega⟩ (fun H locs hM => ?_)
  refine lv_istore (lv' := [(7, .int r), (6, .int k), (0, .ref b), (1, .ref bo), (2, .ref mo), (3, .ref oa), (4, .ref da), (5, .int (nI i))]) hx hb dL_law_2346 hl (by decide) rfl (fun ls hl => ?_)
  refine lv_aload_n hx hb dL_law_2348 rfl (lv_at hl 4 rfl) ?_
  refine me_callVi (As := []) (rest := []) hC hl.1 hM (ct3 _) (kv_L_145 hw rfl rfl ⟨by show 0 + 1 ≤ R.frames; omega, by show 8 + (1 + 11) + 0 ≤ R.locals; omega⟩) rfl rfl he2 rfl (Nat.le_of_ble_eq_true rfl) dL_law_2349 ⟨by omega, by omega⟩ (fun H locs hM => ?_)
  refine lv_iload hx hb dL_law_2352 (lv_at hl 1 rfl) ?_
  refine lv_icmp_eq (tgt := 2359) hx hb dL_law_2354 (by decide) (fun _ => ?_) (fun h => absurd rfl h)
  refine lv_iload hx hb dL_law_2359 (lv_at hl 1 rfl) ?_
  refine lv_if_ne (tgt := 2376) hx hb dL_law_2361 (by decide) (fun _ => ?_) (fun h0 => ?_)
  · refine lv_goto (tgt := 2920) hx hb dL_law_2376 (by decide) ?_
    exact kk ls H locs _ (lv_sub hl [2, 3, 4, 5, 6, 7] rfl) hM
  obtain ⟨f, ho, hf0⟩ := hk h0
  refine lv_aload_n hx hb dL_law_2364 rfl (lv_at hl 5 rfl) ?_
  refine lv_iconst (v := 0) hx hb dL_law_2365 (by decide) ?_
  refine me_lald (k := 0) hC hM ho rfl (by decide) (by decide) dL_law_2366 ?_
  refine lv_iload hx hb dL_law_2367 (lv_at hl 0 rfl) ?_
  refine lv_i2l hx hb dL_law_2369 rfl ?_
  refine W.lcmp hx hb dL_law_2370 ?_
  refine lv_if_eq (tgt := 2376) hx hb dL_law_2371 (by decide) (fun _ => ?_) (fun h => absurd (lw_lself hf0) h)
  refine lv_goto (tgt := 2920) hx hb dL_law_2376 (by decide) ?_
  exact kk ls H locs _ (lv_sub hl [2, 3, 4, 5, 6, 7] rfl) hM
set_option maxHeartbeats 4000000 in
theorem lw_c45 (hC : me_cx ws_all p c cL_law 10 s args m RL D tb X z0) (hl : lv_has ls 10 [(0, .ref b), (1, .ref bo), (2, .ref mo), (3, .ref oa), (4, .ref da), (5, .int (nI i))]) (hR : 14 ≤ R.frames ∧ 522 ≤ R.locals) (hM : me_at D z0 M n s H locs) (hX : va_X b L xs s s.heap) (hbl : b < s.heap.size) (hbA : ¬ me_A z0 b) (hi : i + 6 ≤ L) (hL : L ≤ 3072) (hrc2 : rm2.cells = mc2) (hrs2 : rm2.slots = ms2) (hr2 : rm2.frames ≤ 13 ∧ rm2.locals ≤ 480) (he1 : M1 mo = some (.inr (8, fs))) (he2 : M2 mo = some (.inr (8, fs2))) (hf : cells + mc + mc2 ≤ R.cells ∧ slots + ms + ms2 ≤ R.slots) (ct1 : Met l yL_grantPermit (.codeWith yL_grantPermit cL_grantPermit 6 (some .int) [(0, 12, 15, 19), (0, 12, 19, 21), (0, 12, 23, 13)] :: ws_all) ({ frames := 13, cells := mc, slots := ms, locals := 480 } : Room) (me_Pc [.ref bo, .int (xs (i + 1)), .int (xs (i + 2)), .int (xs (i + 3)), .ref oa] D tb X z0 M n) (me_Qn D z0 k M1) mc ms (me_A z0)) (ct2 : ∀ n1, Met l yX8_grantPermit (.code yX8_grantPermit cX8_grantPermit 4 (some .int) :: ws_all) rm2 (me_Pc [.ref mo, .int (xs (i + 1)), .int (xs (i + 2)), .int (xs (i + 3))] D tb X z0 M1 n1) (me_Qi D z0 r M2 (n2 n1)) mc2 ms2 (me_A z0)) (ct3 : ∀ n1, Met l yX8_thrown (.code yX8_thrown cX8_thrown 1 (some .int) :: ws_all) ({ frames := 0, cells := 0, slots := 0, locals := 0 } : Room) (me_Pc [.ref mo] D tb X z0 M2 n1) (me_Qi D z0 k M2 n1) 0 0 (me_A z0)) (hk : k = 0 → ∃ f : Nat → Int64, M2 oa = some (.inl (tb 3, 1, .inr (.inl f))) ∧ f 0 = r.toInt64) (kk : ∀ (ls1 : Array Slot) (H1 : Heap) (locs1 : List Loc) (n5 : Nat), lv_has ls1 10 [(0, .ref b), (1, .ref bo), (2, .ref mo), (3, .ref oa), (4, .ref da), (5, .int (nI i))] → me_at D z0 M2 n5 s H1 locs1 → W p l e R s m args below meth c H1 locs1 (cells + mc + mc2) (slots + ms + ms2) Q (F0 m 2920 ls1 [])) : W p l e R s m args below meth c H locs cells slots Q (F0 m 2379 ls []) := by
  have hx := hC.1
  have hb := hC.2.1
  have hw := hC.2.2.2.2.1
  refine lv_aload_n hx hb dL_law_2379 rfl (lv_at hl 1 rfl) ?_
  refine lv_aload_n hx hb dL_law_2380 rfl (lv_at hl 0 rfl) ?_
  refine lv_iload hx hb dL_law_2381 (lv_at hl 5 rfl) ?_
  refine lv_iconst (v := 1) hx hb dL_law_2383 (by decide) ?_
  refine lv_iadd hx hb dL_law_2384 ?_
  refine lw_rd (k := 1) hx hb hX hbl hbA hM.2.2.2.2 rfl (by omega) hL dL_law_2385 ?_
  refine lv_aload_n hx hb dL_law_2386 rfl (lv_at hl 0 rfl) ?_
  refine lv_iload hx hb dL_law_2387 (lv_at hl 5 rfl) ?_
  refine lv_iconst (v := 2) hx hb dL_law_2389 (by decide) ?_
  refine lv_iadd hx hb dL_law_2390 ?_
  refine lw_rd (k := 2) hx hb hX hbl hbA hM.2.2.2.2 rfl (by omega) hL dL_law_2391 ?_
  refine lv_aload_n hx hb dL_law_2392 rfl (lv_at hl 0 rfl) ?_
  refine lv_iload hx hb dL_law_2393 (lv_at hl 5 rfl) ?_
  refine lv_iconst (v := 3) hx hb dL_law_2395 (by decide) ?_
  refine lv_iadd hx hb dL_law_2396 ?_
  refine lw_rd (k := 3) hx hb hX hbl hbA hM.2.2.2.2 rfl (by omega) hL dL_law_2397 ?_
  refine lv_aload_n hx hb dL_law_2398 rfl (lv_at hl 3 rfl) ?_
  refine me_callSn (nA := 5) (As := [.ref bo, .int (xs (i + 1)), .int (xs (i + 2)), .int (xs (i + 3)), .ref oa]) (rest := []) hC hl.1 hM ct1 w_1062 w_1063 w_0 w_1064 (by decide +kernel) rfl rfl ⟨by show 13 + 1 ≤ R.frames; omega, by show 8 + (6 + 11) + 480 ≤ R.locals; omega⟩ rfl rfl (Nat.le_of_ble_eq_true rfl) dL_law_2399 ⟨by omega, by omega⟩ (fun H locs n1 hM => ?_)
  refine lv_istore (lv' := [(6, .int k), (0, .ref b), (1, .ref bo), (2, .ref mo), (3, .ref oa), (4, .ref da), (5, .int (nI i))]) hx hb dL_law_2402 hl (by decide) rfl (fun ls hl => ?_)
  refine lv_aload_n hx hb dL_law_2404 rfl (lv_at hl 3 rfl) ?_
  refine lv_aload_n hx hb dL_law_2405 rfl (lv_at hl 1 rfl) ?_
  refine lv_iload hx hb dL_law_2406 (lv_at hl 6 rfl) ?_
  refine lv_iconst (v := 1) hx hb dL_law_2408 (by decide) ?_
  refine lv_iadd hx hb dL_law_2409 ?_
  refine lw_rd (k := 1) hx hb hX hbl hbA hM.2.2.2.2 rfl (by omega) hL dL_law_2410 ?_
  refine lv_aload_n hx hb dL_law_2411 rfl (lv_at hl 1 rfl) ?_
  refine lv_iload hx hb dL_law_2412 (lv_at hl 6 rfl) ?_
  refine lv_iconst (v := 2) hx hb dL_law_2414 (by decide) ?_
  refine lv_iadd hx hb dL_law_2415 ?_
  refine lw_rd (k := 2) hx hb hX hbl hbA hM.2.2.2.2 rfl (by omega) hL dL_law_2416 ?_
  refine lv_aload_n hx hb dL_law_2417 rfl (lv_at hl 1 rfl) ?_
  refine lv_iload hx hb dL_law_2418 (lv_at hl 6 rfl) ?_
  refine lv_iconst (v := 3) hx hb dL_law_2420 (by decide) ?_
  refine lv_iadd hx hb dL_law_2421 ?_
  refine lw_rd (k := 3) hx hb hX hbl hbA hM.2.2.2.2 rfl (by omega) hL dL_law_2422 ?_
  refine me_callVi (As := [.int (xs (i + 1)), .int (xs (i + 2)), .int (xs (i + 3))]) (rest := []) hC hl.1 hM (ct2 n1) (kv_L_304 hw hrc2 hrs2 ⟨by omega, by show 8 + (4 + 11) + rm2.locals ≤ R.locals; omega⟩) rfl rfl he1 rfl (Nat.le_of_ble_eq_true rfl) dL_law_2423 ⟨by omega, by omega⟩ (fun H locs hM => ?_)
  refine lv_istore (lv' := [(7, .int r), (6, .int k), (0, .ref b), (1, .ref bo), (2, .ref mo), (3, .ref oa), (4, .ref da), (5, .int (nI i))]) hx hb dL_law_2426 hl (by decide) rfl (fun ls hl => ?_)
  refine lv_aload_n hx hb dL_law_2428 rfl (lv_at hl 4 rfl) ?_
  refine me_callVi (As := []) (rest := []) hC hl.1 hM (ct3 _) (kv_L_145 hw rfl rfl ⟨by show 0 + 1 ≤ R.frames; omega, by show 8 + (1 + 11) + 0 ≤ R.locals; omega⟩) rfl rfl he2 rfl (Nat.le_of_ble_eq_true rfl) dL_law_2429 ⟨by omega, by omega⟩ (fun H locs hM => ?_)
  refine lv_iload hx hb dL_law_2432 (lv_at hl 1 rfl) ?_
  refine lv_icmp_eq (tgt := 2439) hx hb dL_law_2434 (by decide) (fun _ => ?_) (fun h => absurd rfl h)
  refine lv_iload hx hb dL_law_2439 (lv_at hl 1 rfl) ?_
  refine lv_if_ne (tgt := 2456) hx hb dL_law_2441 (by decide) (fun _ => ?_) (fun h0 => ?_)
  · refine lv_goto (tgt := 2920) hx hb dL_law_2456 (by decide) ?_
    exact kk ls H locs _ (lv_sub hl [2, 3, 4, 5, 6, 7] rfl) hM
  obtain ⟨f, ho, hf0⟩ := hk h0
  refine lv_aload_n hx hb dL_law_2444 rfl (lv_at hl 5 rfl) ?_
  refine lv_iconst (v := 0) hx hb dL_law_2445 (by decide) ?_
  refine me_lald (k := 0) hC hM ho rfl (by decide) (by decide) dL_law_2446 ?_
  refine lv_iload hx hb dL_law_2447 (lv_at hl 0 rfl) ?_
  refine lv_i2l hx hb dL_law_2449 rfl ?_
  refine W.lcmp hx hb dL_law_2450 ?_
  refine lv_if_eq (tgt := 2456) hx hb dL_law_2451 (by decide) (fun _ => ?_) (fun h => absurd (lw_lself hf0) h)
  refine lv_goto (tgt := 2920) hx hb dL_law_2456 (by decide) ?_
  exact kk ls H locs _ (lv_sub hl [2, 3, 4, 5, 6, 7] rfl) hM
set_option maxHeartbeats 4000000 in
theorem lw_c46 (hC : me_cx ws_all p c cL_law 10 s args m RL D tb X z0) (hl : lv_has ls 10 [(0, .ref b), (1, .ref bo), (2, .ref mo), (3, .ref oa), (4, .ref da), (5, .int (nI i))]) (hR : 14 ≤ R.frames ∧ 522 ≤ R.locals) (hM : me_at D z0 M n s H locs) (hX : va_X b L xs s s.heap) (hbl : b < s.heap.size) (hbA : ¬ me_A z0 b) (hi : i + 6 ≤ L) (hL : L ≤ 3072) (hrc2 : rm2.cells = mc2) (hrs2 : rm2.slots = ms2) (hr2 : rm2.frames ≤ 13 ∧ rm2.locals ≤ 480) (he1 : M1 mo = some (.inr (8, fs))) (he2 : M2 mo = some (.inr (8, fs2))) (hf : cells + mc + mc2 ≤ R.cells ∧ slots + ms + ms2 ≤ R.slots) (ct1 : Met l yL_revokePermit (.codeWith yL_revokePermit cL_revokePermit 4 (some .int) [(0, 9, 12, 19), (0, 9, 15, 13)] :: ws_all) ({ frames := 13, cells := mc, slots := ms, locals := 480 } : Room) (me_Pc [.ref bo, .int (xs (i + 1)), .ref oa] D tb X z0 M n) (me_Qn D z0 k M1) mc ms (me_A z0)) (ct2 : ∀ n1, Met l yX8_revokePermit (.code yX8_revokePermit cX8_revokePermit 4 (some .int) :: ws_all) rm2 (me_Pc [.ref mo, .int (xs (i + 1))] D tb X z0 M1 n1) (me_Qi D z0 r M2 (n2 n1)) mc2 ms2 (me_A z0)) (ct3 : ∀ n1, Met l yX8_thrown (.code yX8_thrown cX8_thrown 1 (some .int) :: ws_all) ({ frames := 0, cells := 0, slots := 0, locals := 0 } : Room) (me_Pc [.ref mo] D tb X z0 M2 n1) (me_Qi D z0 k M2 n1) 0 0 (me_A z0)) (hk : k = 0 → ∃ f : Nat → Int64, M2 oa = some (.inl (tb 3, 1, .inr (.inl f))) ∧ f 0 = r.toInt64) (kk : ∀ (ls1 : Array Slot) (H1 : Heap) (locs1 : List Loc) (n5 : Nat), lv_has ls1 10 [(0, .ref b), (1, .ref bo), (2, .ref mo), (3, .ref oa), (4, .ref da), (5, .int (nI i))] → me_at D z0 M2 n5 s H1 locs1 → W p l e R s m args below meth c H1 locs1 (cells + mc + mc2) (slots + ms + ms2) Q (F0 m 2920 ls1 [])) : W p l e R s m args below meth c H locs cells slots Q (F0 m 2459 ls []) := by
  have hx := hC.1
  have hb := hC.2.1
  have hw := hC.2.2.2.2.1
  refine lv_aload_n hx hb dL_law_2459 rfl (lv_at hl 1 rfl) ?_
  refine lv_aload_n hx hb dL_law_2460 rfl (lv_at hl 0 rfl) ?_
  refine lv_iload hx hb dL_law_2461 (lv_at hl 5 rfl) ?_
  refine lv_iconst (v := 1) hx hb dL_law_2463 (by decide) ?_
  refine lv_iadd hx hb dL_law_2464 ?_
  refine lw_rd (k := 1) hx hb hX hbl hbA hM.2.2.2.2 rfl (by omega) hL dL_law_2465 ?_
  refine lv_aload_n hx hb dL_law_2466 rfl (lv_at hl 3 rfl) ?_
  refine me_callSn (nA := 3) (As := [.ref bo, .int (xs (i + 1)), .ref oa]) (rest := []) hC hl.1 hM ct1 w_1072 w_1073 w_0 w_1074 (by decide +kernel) rfl rfl ⟨by show 13 + 1 ≤ R.frames; omega, by show 8 + (4 + 11) + 480 ≤ R.locals; omega⟩ rfl rfl (Nat.le_of_ble_eq_true rfl) dL_law_2467 ⟨by omega, by omega⟩ (fun H locs n1 hM => ?_)
  refine lv_istore (lv' := [(6, .int k), (0, .ref b), (1, .ref bo), (2, .ref mo), (3, .ref oa), (4, .ref da), (5, .int (nI i))]) hx hb dL_law_2470 hl (by decide) rfl (fun ls hl => ?_)
  refine lv_aload_n hx hb dL_law_2472 rfl (lv_at hl 3 rfl) ?_
  refine lv_aload_n hx hb dL_law_2473 rfl (lv_at hl 1 rfl) ?_
  refine lv_iload hx hb dL_law_2474 (lv_at hl 6 rfl) ?_
  refine lv_iconst (v := 1) hx hb dL_law_2476 (by decide) ?_
  refine lv_iadd hx hb dL_law_2477 ?_
  refine lw_rd (k := 1) hx hb hX hbl hbA hM.2.2.2.2 rfl (by omega) hL dL_law_2478 ?_
  refine me_callVi (As := [.int (xs (i + 1))]) (rest := []) hC hl.1 hM (ct2 n1) (kv_L_307 hw hrc2 hrs2 ⟨by omega, by show 8 + (4 + 11) + rm2.locals ≤ R.locals; omega⟩) rfl rfl he1 rfl (Nat.le_of_ble_eq_true rfl) dL_law_2479 ⟨by omega, by omega⟩ (fun H locs hM => ?_)
  refine lv_istore (lv' := [(7, .int r), (6, .int k), (0, .ref b), (1, .ref bo), (2, .ref mo), (3, .ref oa), (4, .ref da), (5, .int (nI i))]) hx hb dL_law_2482 hl (by decide) rfl (fun ls hl => ?_)
  refine lv_aload_n hx hb dL_law_2484 rfl (lv_at hl 4 rfl) ?_
  refine me_callVi (As := []) (rest := []) hC hl.1 hM (ct3 _) (kv_L_145 hw rfl rfl ⟨by show 0 + 1 ≤ R.frames; omega, by show 8 + (1 + 11) + 0 ≤ R.locals; omega⟩) rfl rfl he2 rfl (Nat.le_of_ble_eq_true rfl) dL_law_2485 ⟨by omega, by omega⟩ (fun H locs hM => ?_)
  refine lv_iload hx hb dL_law_2488 (lv_at hl 1 rfl) ?_
  refine lv_icmp_eq (tgt := 2495) hx hb dL_law_2490 (by decide) (fun _ => ?_) (fun h => absurd rfl h)
  refine lv_iload hx hb dL_law_2495 (lv_at hl 1 rfl) ?_
  refine lv_if_ne (tgt := 2512) hx hb dL_law_2497 (by decide) (fun _ => ?_) (fun h0 => ?_)
  · refine lv_goto (tgt := 2920) hx hb dL_law_2512 (by decide) ?_
    exact kk ls H locs _ (lv_sub hl [2, 3, 4, 5, 6, 7] rfl) hM
  obtain ⟨f, ho, hf0⟩ := hk h0
  refine lv_aload_n hx hb dL_law_2500 rfl (lv_at hl 5 rfl) ?_
  refine lv_iconst (v := 0) hx hb dL_law_2501 (by decide) ?_
  refine me_lald (k := 0) hC hM ho rfl (by decide) (by decide) dL_law_2502 ?_
  refine lv_iload hx hb dL_law_2503 (lv_at hl 0 rfl) ?_
  refine lv_i2l hx hb dL_law_2505 rfl ?_
  refine W.lcmp hx hb dL_law_2506 ?_
  refine lv_if_eq (tgt := 2512) hx hb dL_law_2507 (by decide) (fun _ => ?_) (fun h => absurd (lw_lself hf0) h)
  refine lv_goto (tgt := 2920) hx hb dL_law_2512 (by decide) ?_
  exact kk ls H locs _ (lv_sub hl [2, 3, 4, 5, 6, 7] rfl) hM
set_option maxHeartbeats 4000000 in
theorem lw_c47 (hC : me_cx ws_all p c cL_law 10 s args m RL D tb X z0) (hl : lv_has ls 10 [(0, .ref b), (1, .ref bo), (2, .ref mo), (3, .ref oa), (4, .ref da), (5, .int (nI i))]) (hR : 14 ≤ R.frames ∧ 522 ≤ R.locals) (hM : me_at D z0 M n s H locs) (hX : va_X b L xs s s.heap) (hbl : b < s.heap.size) (hbA : ¬ me_A z0 b) (hi : i + 6 ≤ L) (hL : L ≤ 3072) (hrc2 : rm2.cells = mc2) (hrs2 : rm2.slots = ms2) (hr2 : rm2.frames ≤ 13 ∧ rm2.locals ≤ 480) (he1 : M1 mo = some (.inr (8, fs))) (he2 : M2 mo = some (.inr (8, fs2))) (hf : cells + mc + mc2 ≤ R.cells ∧ slots + ms + ms2 ≤ R.slots) (ct1 : Met l yL_pay (.codeWith yL_pay cL_pay 5 (some .int) [(0, 10, 13, 19), (0, 10, 17, 21)] :: ws_all) ({ frames := 13, cells := mc, slots := ms, locals := 480 } : Room) (me_Pc [.ref bo, .int (xs (i + 1)), .int (xs (i + 2)), .ref oa] D tb X z0 M n) (me_Qn D z0 k M1) mc ms (me_A z0)) (ct2 : ∀ n1, Met l yX8_pay (.code yX8_pay cX8_pay 3 (some .int) :: ws_all) rm2 (me_Pc [.ref mo, .int (xs (i + 1)), .int (xs (i + 2))] D tb X z0 M1 n1) (me_Qi D z0 r M2 (n2 n1)) mc2 ms2 (me_A z0)) (ct3 : ∀ n1, Met l yX8_thrown (.code yX8_thrown cX8_thrown 1 (some .int) :: ws_all) ({ frames := 0, cells := 0, slots := 0, locals := 0 } : Room) (me_Pc [.ref mo] D tb X z0 M2 n1) (me_Qi D z0 k M2 n1) 0 0 (me_A z0)) (hk : k = 0 → ∃ f : Nat → Int64, M2 oa = some (.inl (tb 3, 1, .inr (.inl f))) ∧ f 0 = r.toInt64) (kk : ∀ (ls1 : Array Slot) (H1 : Heap) (locs1 : List Loc) (n5 : Nat), lv_has ls1 10 [(0, .ref b), (1, .ref bo), (2, .ref mo), (3, .ref oa), (4, .ref da), (5, .int (nI i))] → me_at D z0 M2 n5 s H1 locs1 → W p l e R s m args below meth c H1 locs1 (cells + mc + mc2) (slots + ms + ms2) Q (F0 m 2920 ls1 [])) : W p l e R s m args below meth c H locs cells slots Q (F0 m 2515 ls []) := by
  have hx := hC.1
  have hb := hC.2.1
  have hw := hC.2.2.2.2.1
  refine lv_aload_n hx hb dL_law_2515 rfl (lv_at hl 1 rfl) ?_
  refine lv_aload_n hx hb dL_law_2516 rfl (lv_at hl 0 rfl) ?_
  refine lv_iload hx hb dL_law_2517 (lv_at hl 5 rfl) ?_
  refine lv_iconst (v := 1) hx hb dL_law_2519 (by decide) ?_
  refine lv_iadd hx hb dL_law_2520 ?_
  refine lw_rd (k := 1) hx hb hX hbl hbA hM.2.2.2.2 rfl (by omega) hL dL_law_2521 ?_
  refine lv_aload_n hx hb dL_law_2522 rfl (lv_at hl 0 rfl) ?_
  refine lv_iload hx hb dL_law_2523 (lv_at hl 5 rfl) ?_
  refine lv_iconst (v := 2) hx hb dL_law_2525 (by decide) ?_
  refine lv_iadd hx hb dL_law_2526 ?_
  refine lw_rd (k := 2) hx hb hX hbl hbA hM.2.2.2.2 rfl (by omega) hL dL_law_2527 ?_
  refine lv_aload_n hx hb dL_law_2528 rfl (lv_at hl 3 rfl) ?_
  refine me_callSn (nA := 4) (As := [.ref bo, .int (xs (i + 1)), .int (xs (i + 2)), .ref oa]) (rest := []) hC hl.1 hM ct1 w_1085 w_1086 w_0 w_1087 (by decide +kernel) rfl rfl ⟨by show 13 + 1 ≤ R.frames; omega, by show 8 + (5 + 11) + 480 ≤ R.locals; omega⟩ rfl rfl (Nat.le_of_ble_eq_true rfl) dL_law_2529 ⟨by omega, by omega⟩ (fun H locs n1 hM => ?_)
  refine lv_istore (lv' := [(6, .int k), (0, .ref b), (1, .ref bo), (2, .ref mo), (3, .ref oa), (4, .ref da), (5, .int (nI i))]) hx hb dL_law_2532 hl (by decide) rfl (fun ls hl => ?_)
  refine lv_aload_n hx hb dL_law_2534 rfl (lv_at hl 3 rfl) ?_
  refine lv_aload_n hx hb dL_law_2535 rfl (lv_at hl 1 rfl) ?_
  refine lv_iload hx hb dL_law_2536 (lv_at hl 6 rfl) ?_
  refine lv_iconst (v := 1) hx hb dL_law_2538 (by decide) ?_
  refine lv_iadd hx hb dL_law_2539 ?_
  refine lw_rd (k := 1) hx hb hX hbl hbA hM.2.2.2.2 rfl (by omega) hL dL_law_2540 ?_
  refine lv_aload_n hx hb dL_law_2541 rfl (lv_at hl 1 rfl) ?_
  refine lv_iload hx hb dL_law_2542 (lv_at hl 6 rfl) ?_
  refine lv_iconst (v := 2) hx hb dL_law_2544 (by decide) ?_
  refine lv_iadd hx hb dL_law_2545 ?_
  refine lw_rd (k := 2) hx hb hX hbl hbA hM.2.2.2.2 rfl (by omega) hL dL_law_2546 ?_
  refine me_callVi (As := [.int (xs (i + 1)), .int (xs (i + 2))]) (rest := []) hC hl.1 hM (ct2 n1) (kv_L_310 hw hrc2 hrs2 ⟨by omega, by show 8 + (3 + 11) + rm2.locals ≤ R.locals; omega⟩) rfl rfl he1 rfl (Nat.le_of_ble_eq_true rfl) dL_law_2547 ⟨by omega, by omega⟩ (fun H locs hM => ?_)
  refine lv_istore (lv' := [(7, .int r), (6, .int k), (0, .ref b), (1, .ref bo), (2, .ref mo), (3, .ref oa), (4, .ref da), (5, .int (nI i))]) hx hb dL_law_2550 hl (by decide) rfl (fun ls hl => ?_)
  refine lv_aload_n hx hb dL_law_2552 rfl (lv_at hl 4 rfl) ?_
  refine me_callVi (As := []) (rest := []) hC hl.1 hM (ct3 _) (kv_L_145 hw rfl rfl ⟨by show 0 + 1 ≤ R.frames; omega, by show 8 + (1 + 11) + 0 ≤ R.locals; omega⟩) rfl rfl he2 rfl (Nat.le_of_ble_eq_true rfl) dL_law_2553 ⟨by omega, by omega⟩ (fun H locs hM => ?_)
  refine lv_iload hx hb dL_law_2556 (lv_at hl 1 rfl) ?_
  refine lv_icmp_eq (tgt := 2563) hx hb dL_law_2558 (by decide) (fun _ => ?_) (fun h => absurd rfl h)
  refine lv_iload hx hb dL_law_2563 (lv_at hl 1 rfl) ?_
  refine lv_if_ne (tgt := 2580) hx hb dL_law_2565 (by decide) (fun _ => ?_) (fun h0 => ?_)
  · refine lv_goto (tgt := 2920) hx hb dL_law_2580 (by decide) ?_
    exact kk ls H locs _ (lv_sub hl [2, 3, 4, 5, 6, 7] rfl) hM
  obtain ⟨f, ho, hf0⟩ := hk h0
  refine lv_aload_n hx hb dL_law_2568 rfl (lv_at hl 5 rfl) ?_
  refine lv_iconst (v := 0) hx hb dL_law_2569 (by decide) ?_
  refine me_lald (k := 0) hC hM ho rfl (by decide) (by decide) dL_law_2570 ?_
  refine lv_iload hx hb dL_law_2571 (lv_at hl 0 rfl) ?_
  refine lv_i2l hx hb dL_law_2573 rfl ?_
  refine W.lcmp hx hb dL_law_2574 ?_
  refine lv_if_eq (tgt := 2580) hx hb dL_law_2575 (by decide) (fun _ => ?_) (fun h => absurd (lw_lself hf0) h)
  refine lv_goto (tgt := 2920) hx hb dL_law_2580 (by decide) ?_
  exact kk ls H locs _ (lv_sub hl [2, 3, 4, 5, 6, 7] rfl) hM
set_option maxHeartbeats 4000000 in
theorem lw_c48 (hC : me_cx ws_all p c cL_law 10 s args m RL D tb X z0) (hl : lv_has ls 10 [(0, .ref b), (1, .ref bo), (2, .ref mo), (3, .ref oa), (4, .ref da), (5, .int (nI i))]) (hR : 14 ≤ R.frames ∧ 522 ≤ R.locals) (hM : me_at D z0 M n s H locs) (hX : va_X b L xs s s.heap) (hbl : b < s.heap.size) (hbA : ¬ me_A z0 b) (hi : i + 6 ≤ L) (hL : L ≤ 3072) (hrc2 : rm2.cells = mc2) (hrs2 : rm2.slots = ms2) (hr2 : rm2.frames ≤ 13 ∧ rm2.locals ≤ 480) (he1 : M1 mo = some (.inr (8, fs))) (he2 : M2 mo = some (.inr (8, fs2))) (hf : cells + mc + mc2 ≤ R.cells ∧ slots + ms + ms2 ≤ R.slots) (ct1 : Met l yL_advance (.codeWith yL_advance cL_advance 4 (some .int) [(0, 9, 12, 21), (0, 9, 15, 13)] :: ws_all) ({ frames := 13, cells := mc, slots := ms, locals := 480 } : Room) (me_Pc [.ref bo, .int (xs (i + 1)), .ref oa] D tb X z0 M n) (me_Qn D z0 k M1) mc ms (me_A z0)) (ct2 : ∀ n1, Met l yX8_advance (.code yX8_advance cX8_advance 2 (some .int) :: ws_all) rm2 (me_Pc [.ref mo, .int (xs (i + 1))] D tb X z0 M1 n1) (me_Qi D z0 r M2 (n2 n1)) mc2 ms2 (me_A z0)) (ct3 : ∀ n1, Met l yX8_thrown (.code yX8_thrown cX8_thrown 1 (some .int) :: ws_all) ({ frames := 0, cells := 0, slots := 0, locals := 0 } : Room) (me_Pc [.ref mo] D tb X z0 M2 n1) (me_Qi D z0 k M2 n1) 0 0 (me_A z0)) (hk : k = 0 → ∃ f : Nat → Int64, M2 oa = some (.inl (tb 3, 1, .inr (.inl f))) ∧ f 0 = r.toInt64) (kk : ∀ (ls1 : Array Slot) (H1 : Heap) (locs1 : List Loc) (n5 : Nat), lv_has ls1 10 [(0, .ref b), (1, .ref bo), (2, .ref mo), (3, .ref oa), (4, .ref da), (5, .int (nI i))] → me_at D z0 M2 n5 s H1 locs1 → W p l e R s m args below meth c H1 locs1 (cells + mc + mc2) (slots + ms + ms2) Q (F0 m 2920 ls1 [])) : W p l e R s m args below meth c H locs cells slots Q (F0 m 2583 ls []) := by
  have hx := hC.1
  have hb := hC.2.1
  have hw := hC.2.2.2.2.1
  refine lv_aload_n hx hb dL_law_2583 rfl (lv_at hl 1 rfl) ?_
  refine lv_aload_n hx hb dL_law_2584 rfl (lv_at hl 0 rfl) ?_
  refine lv_iload hx hb dL_law_2585 (lv_at hl 5 rfl) ?_
  refine lv_iconst (v := 1) hx hb dL_law_2587 (by decide) ?_
  refine lv_iadd hx hb dL_law_2588 ?_
  refine lw_rd (k := 1) hx hb hX hbl hbA hM.2.2.2.2 rfl (by omega) hL dL_law_2589 ?_
  refine lv_aload_n hx hb dL_law_2590 rfl (lv_at hl 3 rfl) ?_
  refine me_callSn (nA := 3) (As := [.ref bo, .int (xs (i + 1)), .ref oa]) (rest := []) hC hl.1 hM ct1 w_1093 w_1094 w_0 w_1095 (by decide +kernel) rfl rfl ⟨by show 13 + 1 ≤ R.frames; omega, by show 8 + (4 + 11) + 480 ≤ R.locals; omega⟩ rfl rfl (Nat.le_of_ble_eq_true rfl) dL_law_2591 ⟨by omega, by omega⟩ (fun H locs n1 hM => ?_)
  refine lv_istore (lv' := [(6, .int k), (0, .ref b), (1, .ref bo), (2, .ref mo), (3, .ref oa), (4, .ref da), (5, .int (nI i))]) hx hb dL_law_2594 hl (by decide) rfl (fun ls hl => ?_)
  refine lv_aload_n hx hb dL_law_2596 rfl (lv_at hl 3 rfl) ?_
  refine lv_aload_n hx hb dL_law_2597 rfl (lv_at hl 1 rfl) ?_
  refine lv_iload hx hb dL_law_2598 (lv_at hl 6 rfl) ?_
  refine lv_iconst (v := 1) hx hb dL_law_2600 (by decide) ?_
  refine lv_iadd hx hb dL_law_2601 ?_
  refine lw_rd (k := 1) hx hb hX hbl hbA hM.2.2.2.2 rfl (by omega) hL dL_law_2602 ?_
  refine me_callVi (As := [.int (xs (i + 1))]) (rest := []) hC hl.1 hM (ct2 n1) (kv_L_313 hw hrc2 hrs2 ⟨by omega, by show 8 + (2 + 11) + rm2.locals ≤ R.locals; omega⟩) rfl rfl he1 rfl (Nat.le_of_ble_eq_true rfl) dL_law_2603 ⟨by omega, by omega⟩ (fun H locs hM => ?_)
  refine lv_istore (lv' := [(7, .int r), (6, .int k), (0, .ref b), (1, .ref bo), (2, .ref mo), (3, .ref oa), (4, .ref da), (5, .int (nI i))]) hx hb dL_law_2606 hl (by decide) rfl (fun ls hl => ?_)
  refine lv_aload_n hx hb dL_law_2608 rfl (lv_at hl 4 rfl) ?_
  refine me_callVi (As := []) (rest := []) hC hl.1 hM (ct3 _) (kv_L_145 hw rfl rfl ⟨by show 0 + 1 ≤ R.frames; omega, by show 8 + (1 + 11) + 0 ≤ R.locals; omega⟩) rfl rfl he2 rfl (Nat.le_of_ble_eq_true rfl) dL_law_2609 ⟨by omega, by omega⟩ (fun H locs hM => ?_)
  refine lv_iload hx hb dL_law_2612 (lv_at hl 1 rfl) ?_
  refine lv_icmp_eq (tgt := 2619) hx hb dL_law_2614 (by decide) (fun _ => ?_) (fun h => absurd rfl h)
  refine lv_iload hx hb dL_law_2619 (lv_at hl 1 rfl) ?_
  refine lv_if_ne (tgt := 2636) hx hb dL_law_2621 (by decide) (fun _ => ?_) (fun h0 => ?_)
  · refine lv_goto (tgt := 2920) hx hb dL_law_2636 (by decide) ?_
    exact kk ls H locs _ (lv_sub hl [2, 3, 4, 5, 6, 7] rfl) hM
  obtain ⟨f, ho, hf0⟩ := hk h0
  refine lv_aload_n hx hb dL_law_2624 rfl (lv_at hl 5 rfl) ?_
  refine lv_iconst (v := 0) hx hb dL_law_2625 (by decide) ?_
  refine me_lald (k := 0) hC hM ho rfl (by decide) (by decide) dL_law_2626 ?_
  refine lv_iload hx hb dL_law_2627 (lv_at hl 0 rfl) ?_
  refine lv_i2l hx hb dL_law_2629 rfl ?_
  refine W.lcmp hx hb dL_law_2630 ?_
  refine lv_if_eq (tgt := 2636) hx hb dL_law_2631 (by decide) (fun _ => ?_) (fun h => absurd (lw_lself hf0) h)
  refine lv_goto (tgt := 2920) hx hb dL_law_2636 (by decide) ?_
  exact kk ls H locs _ (lv_sub hl [2, 3, 4, 5, 6, 7] rfl) hM
set_option maxHeartbeats 4000000 in
theorem lw_c49 (hC : me_cx ws_all p c cL_law 10 s args m RL D tb X z0) (hl : lv_has ls 10 [(0, .ref b), (1, .ref bo), (2, .ref mo), (3, .ref oa), (4, .ref da), (5, .int (nI i))]) (hR : 14 ≤ R.frames ∧ 522 ≤ R.locals) (hM : me_at D z0 M n s H locs) (hX : va_X b L xs s s.heap) (hbl : b < s.heap.size) (hbA : ¬ me_A z0 b) (hi : i + 6 ≤ L) (hL : L ≤ 3072) (hrc2 : rm2.cells = mc2) (hrs2 : rm2.slots = ms2) (hr2 : rm2.frames ≤ 13 ∧ rm2.locals ≤ 480) (he1 : M1 mo = some (.inr (8, fs))) (he2 : M2 mo = some (.inr (8, fs2))) (hf : cells + mc + mc2 ≤ R.cells ∧ slots + ms + ms2 ≤ R.slots) (ct1 : Met l yL_restore (.codeWith yL_restore cL_restore 4 (some .int) [(0, 9, 12, 19), (0, 9, 15, 13)] :: ws_all) ({ frames := 13, cells := mc, slots := ms, locals := 480 } : Room) (me_Pc [.ref bo, .int (xs (i + 1)), .ref oa] D tb X z0 M n) (me_Qn D z0 k M1) mc ms (me_A z0)) (ct2 : ∀ n1, Met l yX8_restore (.code yX8_restore cX8_restore 3 (some .int) :: ws_all) rm2 (me_Pc [.ref mo, .int (xs (i + 1))] D tb X z0 M1 n1) (me_Qi D z0 r M2 (n2 n1)) mc2 ms2 (me_A z0)) (ct3 : ∀ n1, Met l yX8_thrown (.code yX8_thrown cX8_thrown 1 (some .int) :: ws_all) ({ frames := 0, cells := 0, slots := 0, locals := 0 } : Room) (me_Pc [.ref mo] D tb X z0 M2 n1) (me_Qi D z0 k M2 n1) 0 0 (me_A z0)) (hk : k = 0 → ∃ f : Nat → Int64, M2 oa = some (.inl (tb 3, 1, .inr (.inl f))) ∧ f 0 = r.toInt64) (kk : ∀ (ls1 : Array Slot) (H1 : Heap) (locs1 : List Loc) (n5 : Nat), lv_has ls1 10 [(0, .ref b), (1, .ref bo), (2, .ref mo), (3, .ref oa), (4, .ref da), (5, .int (nI i))] → me_at D z0 M2 n5 s H1 locs1 → W p l e R s m args below meth c H1 locs1 (cells + mc + mc2) (slots + ms + ms2) Q (F0 m 2920 ls1 [])) : W p l e R s m args below meth c H locs cells slots Q (F0 m 2639 ls []) := by
  have hx := hC.1
  have hb := hC.2.1
  have hw := hC.2.2.2.2.1
  refine lv_aload_n hx hb dL_law_2639 rfl (lv_at hl 1 rfl) ?_
  refine lv_aload_n hx hb dL_law_2640 rfl (lv_at hl 0 rfl) ?_
  refine lv_iload hx hb dL_law_2641 (lv_at hl 5 rfl) ?_
  refine lv_iconst (v := 1) hx hb dL_law_2643 (by decide) ?_
  refine lv_iadd hx hb dL_law_2644 ?_
  refine lw_rd (k := 1) hx hb hX hbl hbA hM.2.2.2.2 rfl (by omega) hL dL_law_2645 ?_
  refine lv_aload_n hx hb dL_law_2646 rfl (lv_at hl 3 rfl) ?_
  refine me_callSn (nA := 3) (As := [.ref bo, .int (xs (i + 1)), .ref oa]) (rest := []) hC hl.1 hM ct1 w_1102 w_1103 w_0 w_1104 (by decide +kernel) rfl rfl ⟨by show 13 + 1 ≤ R.frames; omega, by show 8 + (4 + 11) + 480 ≤ R.locals; omega⟩ rfl rfl (Nat.le_of_ble_eq_true rfl) dL_law_2647 ⟨by omega, by omega⟩ (fun H locs n1 hM => ?_)
  refine lv_istore (lv' := [(6, .int k), (0, .ref b), (1, .ref bo), (2, .ref mo), (3, .ref oa), (4, .ref da), (5, .int (nI i))]) hx hb dL_law_2650 hl (by decide) rfl (fun ls hl => ?_)
  refine lv_aload_n hx hb dL_law_2652 rfl (lv_at hl 3 rfl) ?_
  refine lv_aload_n hx hb dL_law_2653 rfl (lv_at hl 1 rfl) ?_
  refine lv_iload hx hb dL_law_2654 (lv_at hl 6 rfl) ?_
  refine lv_iconst (v := 1) hx hb dL_law_2656 (by decide) ?_
  refine lv_iadd hx hb dL_law_2657 ?_
  refine lw_rd (k := 1) hx hb hX hbl hbA hM.2.2.2.2 rfl (by omega) hL dL_law_2658 ?_
  refine me_callVi (As := [.int (xs (i + 1))]) (rest := []) hC hl.1 hM (ct2 n1) (kv_L_316 hw hrc2 hrs2 ⟨by omega, by show 8 + (3 + 11) + rm2.locals ≤ R.locals; omega⟩) rfl rfl he1 rfl (Nat.le_of_ble_eq_true rfl) dL_law_2659 ⟨by omega, by omega⟩ (fun H locs hM => ?_)
  refine lv_istore (lv' := [(7, .int r), (6, .int k), (0, .ref b), (1, .ref bo), (2, .ref mo), (3, .ref oa), (4, .ref da), (5, .int (nI i))]) hx hb dL_law_2662 hl (by decide) rfl (fun ls hl => ?_)
  refine lv_aload_n hx hb dL_law_2664 rfl (lv_at hl 4 rfl) ?_
  refine me_callVi (As := []) (rest := []) hC hl.1 hM (ct3 _) (kv_L_145 hw rfl rfl ⟨by show 0 + 1 ≤ R.frames; omega, by show 8 + (1 + 11) + 0 ≤ R.locals; omega⟩) rfl rfl he2 rfl (Nat.le_of_ble_eq_true rfl) dL_law_2665 ⟨by omega, by omega⟩ (fun H locs hM => ?_)
  refine lv_iload hx hb dL_law_2668 (lv_at hl 1 rfl) ?_
  refine lv_icmp_eq (tgt := 2675) hx hb dL_law_2670 (by decide) (fun _ => ?_) (fun h => absurd rfl h)
  refine lv_iload hx hb dL_law_2675 (lv_at hl 1 rfl) ?_
  refine lv_if_ne (tgt := 2692) hx hb dL_law_2677 (by decide) (fun _ => ?_) (fun h0 => ?_)
  · refine lv_goto (tgt := 2920) hx hb dL_law_2692 (by decide) ?_
    exact kk ls H locs _ (lv_sub hl [2, 3, 4, 5, 6, 7] rfl) hM
  obtain ⟨f, ho, hf0⟩ := hk h0
  refine lv_aload_n hx hb dL_law_2680 rfl (lv_at hl 5 rfl) ?_
  refine lv_iconst (v := 0) hx hb dL_law_2681 (by decide) ?_
  refine me_lald (k := 0) hC hM ho rfl (by decide) (by decide) dL_law_2682 ?_
  refine lv_iload hx hb dL_law_2683 (lv_at hl 0 rfl) ?_
  refine lv_i2l hx hb dL_law_2685 rfl ?_
  refine W.lcmp hx hb dL_law_2686 ?_
  refine lv_if_eq (tgt := 2692) hx hb dL_law_2687 (by decide) (fun _ => ?_) (fun h => absurd (lw_lself hf0) h)
  refine lv_goto (tgt := 2920) hx hb dL_law_2692 (by decide) ?_
  exact kk ls H locs _ (lv_sub hl [2, 3, 4, 5, 6, 7] rfl) hM
set_option maxHeartbeats 4000000 in
theorem lw_c50 (hC : me_cx ws_all p c cL_law 10 s args m RL D tb X z0) (hl : lv_has ls 10 [(0, .ref b), (1, .ref bo), (2, .ref mo), (3, .ref oa), (4, .ref da), (5, .int (nI i))]) (hR : 14 ≤ R.frames ∧ 522 ≤ R.locals) (hM : me_at D z0 M n s H locs) (hrc2 : rm2.cells = mc2) (hrs2 : rm2.slots = ms2) (hr2 : rm2.frames ≤ 13 ∧ rm2.locals ≤ 480) (he1 : M1 mo = some (.inr (8, fs))) (he2 : M2 mo = some (.inr (8, fs2))) (hf : cells + mc + mc2 ≤ R.cells ∧ slots + ms + ms2 ≤ R.slots) (ct1 : Met l yL_undo (.codeWith yL_undo cL_undo 3 (some .int) [(0, 8, 11, 13)] :: ws_all) ({ frames := 13, cells := mc, slots := ms, locals := 480 } : Room) (me_Pc [.ref bo, .ref oa] D tb X z0 M n) (me_Qn D z0 k M1) mc ms (me_A z0)) (ct2 : ∀ n1, Met l yX8_undo (.code yX8_undo cX8_undo 2 (some .int) :: ws_all) rm2 (me_Pc [.ref mo] D tb X z0 M1 n1) (me_Qi D z0 r M2 (n2 n1)) mc2 ms2 (me_A z0)) (ct3 : ∀ n1, Met l yX8_thrown (.code yX8_thrown cX8_thrown 1 (some .int) :: ws_all) ({ frames := 0, cells := 0, slots := 0, locals := 0 } : Room) (me_Pc [.ref mo] D tb X z0 M2 n1) (me_Qi D z0 k M2 n1) 0 0 (me_A z0)) (hk : k = 0 → ∃ f : Nat → Int64, M2 oa = some (.inl (tb 3, 1, .inr (.inl f))) ∧ f 0 = r.toInt64) (kk : ∀ (ls1 : Array Slot) (H1 : Heap) (locs1 : List Loc) (n5 : Nat), lv_has ls1 10 [(0, .ref b), (1, .ref bo), (2, .ref mo), (3, .ref oa), (4, .ref da), (5, .int (nI i))] → me_at D z0 M2 n5 s H1 locs1 → W p l e R s m args below meth c H1 locs1 (cells + mc + mc2) (slots + ms + ms2) Q (F0 m 2920 ls1 [])) : W p l e R s m args below meth c H locs cells slots Q (F0 m 2695 ls []) := by
  have hx := hC.1
  have hb := hC.2.1
  have hw := hC.2.2.2.2.1
  refine lv_aload_n hx hb dL_law_2695 rfl (lv_at hl 1 rfl) ?_
  refine lv_aload_n hx hb dL_law_2696 rfl (lv_at hl 3 rfl) ?_
  refine me_callSn (nA := 2) (As := [.ref bo, .ref oa]) (rest := []) hC hl.1 hM ct1 w_1114 w_1115 w_0 w_1116 (by decide +kernel) rfl rfl ⟨by show 13 + 1 ≤ R.frames; omega, by show 8 + (3 + 11) + 480 ≤ R.locals; omega⟩ rfl rfl (Nat.le_of_ble_eq_true rfl) dL_law_2697 ⟨by omega, by omega⟩ (fun H locs n1 hM => ?_)
  refine lv_istore (lv' := [(6, .int k), (0, .ref b), (1, .ref bo), (2, .ref mo), (3, .ref oa), (4, .ref da), (5, .int (nI i))]) hx hb dL_law_2700 hl (by decide) rfl (fun ls hl => ?_)
  refine lv_aload_n hx hb dL_law_2702 rfl (lv_at hl 3 rfl) ?_
  refine me_callVi (As := []) (rest := []) hC hl.1 hM (ct2 n1) (kv_L_320 hw hrc2 hrs2 ⟨by omega, by show 8 + (2 + 11) + rm2.locals ≤ R.locals; omega⟩) rfl rfl he1 rfl (Nat.le_of_ble_eq_true rfl) dL_law_2703 ⟨by omega, by omega⟩ (fun H locs hM => ?_)
  refine lv_istore (lv' := [(7, .int r), (6, .int k), (0, .ref b), (1, .ref bo), (2, .ref mo), (3, .ref oa), (4, .ref da), (5, .int (nI i))]) hx hb dL_law_2706 hl (by decide) rfl (fun ls hl => ?_)
  refine lv_aload_n hx hb dL_law_2708 rfl (lv_at hl 4 rfl) ?_
  refine me_callVi (As := []) (rest := []) hC hl.1 hM (ct3 _) (kv_L_145 hw rfl rfl ⟨by show 0 + 1 ≤ R.frames; omega, by show 8 + (1 + 11) + 0 ≤ R.locals; omega⟩) rfl rfl he2 rfl (Nat.le_of_ble_eq_true rfl) dL_law_2709 ⟨by omega, by omega⟩ (fun H locs hM => ?_)
  refine lv_iload hx hb dL_law_2712 (lv_at hl 1 rfl) ?_
  refine lv_icmp_eq (tgt := 2719) hx hb dL_law_2714 (by decide) (fun _ => ?_) (fun h => absurd rfl h)
  refine lv_iload hx hb dL_law_2719 (lv_at hl 1 rfl) ?_
  refine lv_if_ne (tgt := 2736) hx hb dL_law_2721 (by decide) (fun _ => ?_) (fun h0 => ?_)
  · refine lv_goto (tgt := 2920) hx hb dL_law_2736 (by decide) ?_
    exact kk ls H locs _ (lv_sub hl [2, 3, 4, 5, 6, 7] rfl) hM
  obtain ⟨f, ho, hf0⟩ := hk h0
  refine lv_aload_n hx hb dL_law_2724 rfl (lv_at hl 5 rfl) ?_
  refine lv_iconst (v := 0) hx hb dL_law_2725 (by decide) ?_
  refine me_lald (k := 0) hC hM ho rfl (by decide) (by decide) dL_law_2726 ?_
  refine lv_iload hx hb dL_law_2727 (lv_at hl 0 rfl) ?_
  refine lv_i2l hx hb dL_law_2729 rfl ?_
  refine W.lcmp hx hb dL_law_2730 ?_
  refine lv_if_eq (tgt := 2736) hx hb dL_law_2731 (by decide) (fun _ => ?_) (fun h => absurd (lw_lself hf0) h)
  refine lv_goto (tgt := 2920) hx hb dL_law_2736 (by decide) ?_
  exact kk ls H locs _ (lv_sub hl [2, 3, 4, 5, 6, 7] rfl) hM
set_option maxHeartbeats 4000000 in
theorem lw_c51 (hC : me_cx ws_all p c cL_law 10 s args m RL D tb X z0) (hl : lv_has ls 10 [(0, .ref b), (1, .ref bo), (2, .ref mo), (3, .ref oa), (4, .ref da), (5, .int (nI i))]) (hR : 14 ≤ R.frames ∧ 522 ≤ R.locals) (hM : me_at D z0 M n s H locs) (hX : va_X b L xs s s.heap) (hbl : b < s.heap.size) (hbA : ¬ me_A z0 b) (hi : i + 6 ≤ L) (hL : L ≤ 3072) (hrc2 : rm2.cells = mc2) (hrs2 : rm2.slots = ms2) (hr2 : rm2.frames ≤ 13 ∧ rm2.locals ≤ 480) (he1 : M1 mo = some (.inr (8, fs))) (he2 : M2 mo = some (.inr (8, fs2))) (hf : cells + mc + mc2 ≤ R.cells ∧ slots + ms + ms2 ≤ R.slots) (ct1 : Met l yL_save (.codeWith yL_save cL_save 4 (some .int) [(0, 9, 12, 19)] :: ws_all) ({ frames := 13, cells := mc, slots := ms, locals := 480 } : Room) (me_Pc [.ref bo, .int (xs (i + 1)), .ref oa] D tb X z0 M n) (me_Qn D z0 k M1) mc ms (me_A z0)) (ct2 : ∀ n1, Met l yX8_save (.code yX8_save cX8_save 3 (some .int) :: ws_all) rm2 (me_Pc [.ref mo, .int (xs (i + 1))] D tb X z0 M1 n1) (me_Qi D z0 r M2 (n2 n1)) mc2 ms2 (me_A z0)) (ct3 : ∀ n1, Met l yX8_thrown (.code yX8_thrown cX8_thrown 1 (some .int) :: ws_all) ({ frames := 0, cells := 0, slots := 0, locals := 0 } : Room) (me_Pc [.ref mo] D tb X z0 M2 n1) (me_Qi D z0 k M2 n1) 0 0 (me_A z0)) (hk : k = 0 → ∃ f : Nat → Int64, M2 oa = some (.inl (tb 3, 1, .inr (.inl f))) ∧ f 0 = r.toInt64) (kk : ∀ (ls1 : Array Slot) (H1 : Heap) (locs1 : List Loc) (n5 : Nat), lv_has ls1 10 [(0, .ref b), (1, .ref bo), (2, .ref mo), (3, .ref oa), (4, .ref da), (5, .int (nI i))] → me_at D z0 M2 n5 s H1 locs1 → W p l e R s m args below meth c H1 locs1 (cells + mc + mc2) (slots + ms + ms2) Q (F0 m 2920 ls1 [])) : W p l e R s m args below meth c H locs cells slots Q (F0 m 2739 ls []) := by
  have hx := hC.1
  have hb := hC.2.1
  have hw := hC.2.2.2.2.1
  refine lv_aload_n hx hb dL_law_2739 rfl (lv_at hl 1 rfl) ?_
  refine lv_aload_n hx hb dL_law_2740 rfl (lv_at hl 0 rfl) ?_
  refine lv_iload hx hb dL_law_2741 (lv_at hl 5 rfl) ?_
  refine lv_iconst (v := 1) hx hb dL_law_2743 (by decide) ?_
  refine lv_iadd hx hb dL_law_2744 ?_
  refine lw_rd (k := 1) hx hb hX hbl hbA hM.2.2.2.2 rfl (by omega) hL dL_law_2745 ?_
  refine lv_aload_n hx hb dL_law_2746 rfl (lv_at hl 3 rfl) ?_
  refine me_callSn (nA := 3) (As := [.ref bo, .int (xs (i + 1)), .ref oa]) (rest := []) hC hl.1 hM ct1 w_1126 w_1127 w_0 w_1128 (by decide +kernel) rfl rfl ⟨by show 13 + 1 ≤ R.frames; omega, by show 8 + (4 + 11) + 480 ≤ R.locals; omega⟩ rfl rfl (Nat.le_of_ble_eq_true rfl) dL_law_2747 ⟨by omega, by omega⟩ (fun H locs n1 hM => ?_)
  refine lv_istore (lv' := [(6, .int k), (0, .ref b), (1, .ref bo), (2, .ref mo), (3, .ref oa), (4, .ref da), (5, .int (nI i))]) hx hb dL_law_2750 hl (by decide) rfl (fun ls hl => ?_)
  refine lv_aload_n hx hb dL_law_2752 rfl (lv_at hl 3 rfl) ?_
  refine lv_aload_n hx hb dL_law_2753 rfl (lv_at hl 1 rfl) ?_
  refine lv_iload hx hb dL_law_2754 (lv_at hl 6 rfl) ?_
  refine lv_iconst (v := 1) hx hb dL_law_2756 (by decide) ?_
  refine lv_iadd hx hb dL_law_2757 ?_
  refine lw_rd (k := 1) hx hb hX hbl hbA hM.2.2.2.2 rfl (by omega) hL dL_law_2758 ?_
  refine me_callVi (As := [.int (xs (i + 1))]) (rest := []) hC hl.1 hM (ct2 n1) (kv_L_323 hw hrc2 hrs2 ⟨by omega, by show 8 + (3 + 11) + rm2.locals ≤ R.locals; omega⟩) rfl rfl he1 rfl (Nat.le_of_ble_eq_true rfl) dL_law_2759 ⟨by omega, by omega⟩ (fun H locs hM => ?_)
  refine lv_istore (lv' := [(7, .int r), (6, .int k), (0, .ref b), (1, .ref bo), (2, .ref mo), (3, .ref oa), (4, .ref da), (5, .int (nI i))]) hx hb dL_law_2762 hl (by decide) rfl (fun ls hl => ?_)
  refine lv_aload_n hx hb dL_law_2764 rfl (lv_at hl 4 rfl) ?_
  refine me_callVi (As := []) (rest := []) hC hl.1 hM (ct3 _) (kv_L_145 hw rfl rfl ⟨by show 0 + 1 ≤ R.frames; omega, by show 8 + (1 + 11) + 0 ≤ R.locals; omega⟩) rfl rfl he2 rfl (Nat.le_of_ble_eq_true rfl) dL_law_2765 ⟨by omega, by omega⟩ (fun H locs hM => ?_)
  refine lv_iload hx hb dL_law_2768 (lv_at hl 1 rfl) ?_
  refine lv_icmp_eq (tgt := 2775) hx hb dL_law_2770 (by decide) (fun _ => ?_) (fun h => absurd rfl h)
  refine lv_iload hx hb dL_law_2775 (lv_at hl 1 rfl) ?_
  refine lv_if_ne (tgt := 2792) hx hb dL_law_2777 (by decide) (fun _ => ?_) (fun h0 => ?_)
  · refine lv_goto (tgt := 2920) hx hb dL_law_2792 (by decide) ?_
    exact kk ls H locs _ (lv_sub hl [2, 3, 4, 5, 6, 7] rfl) hM
  obtain ⟨f, ho, hf0⟩ := hk h0
  refine lv_aload_n hx hb dL_law_2780 rfl (lv_at hl 5 rfl) ?_
  refine lv_iconst (v := 0) hx hb dL_law_2781 (by decide) ?_
  refine me_lald (k := 0) hC hM ho rfl (by decide) (by decide) dL_law_2782 ?_
  refine lv_iload hx hb dL_law_2783 (lv_at hl 0 rfl) ?_
  refine lv_i2l hx hb dL_law_2785 rfl ?_
  refine W.lcmp hx hb dL_law_2786 ?_
  refine lv_if_eq (tgt := 2792) hx hb dL_law_2787 (by decide) (fun _ => ?_) (fun h => absurd (lw_lself hf0) h)
  refine lv_goto (tgt := 2920) hx hb dL_law_2792 (by decide) ?_
  exact kk ls H locs _ (lv_sub hl [2, 3, 4, 5, 6, 7] rfl) hM
set_option maxHeartbeats 4000000 in
theorem lw_c52 (hC : me_cx ws_all p c cL_law 10 s args m RL D tb X z0) (hl : lv_has ls 10 [(0, .ref b), (1, .ref bo), (2, .ref mo), (3, .ref oa), (4, .ref da), (5, .int (nI i))]) (hR : 14 ≤ R.frames ∧ 522 ≤ R.locals) (hM : me_at D z0 M n s H locs) (hrc1 : rm1.cells = mc) (hrs1 : rm1.slots = ms) (hr1 : rm1.frames ≤ 13 ∧ rm1.locals ≤ 480) (hrc2 : rm2.cells = mc2) (hrs2 : rm2.slots = ms2) (hr2 : rm2.frames ≤ 13 ∧ rm2.locals ≤ 480) (he : M bo = some (.inr (7, fs))) (he2 : M1 mo = some (.inr (8, fs2))) (hf : cells + mc + mc2 ≤ R.cells ∧ slots + ms + ms2 ≤ R.slots) (ct1 : Met l yX7_writeSchedule (.code yX7_writeSchedule cX7_writeSchedule 3 (some .int) :: ws_all) rm1 (me_Pc [.ref bo] D tb X z0 M n) (me_Qi D z0 r M1 n1) mc ms (me_A z0)) (ct2 : Met l yX8_writeSchedule (.code yX8_writeSchedule cX8_writeSchedule 3 (some .int) :: ws_all) rm2 (me_Pc [.ref mo] D tb X z0 M1 n1) (me_Qi D z0 r M2 n3) mc2 ms2 (me_A z0)) (kk : ∀ (ls1 : Array Slot) (H1 : Heap) (locs1 : List Loc) (n5 : Nat), lv_has ls1 10 [(0, .ref b), (1, .ref bo), (2, .ref mo), (3, .ref oa), (4, .ref da), (5, .int (nI i))] → me_at D z0 M2 n5 s H1 locs1 → W p l e R s m args below meth c H1 locs1 (cells + mc + mc2) (slots + ms + ms2) Q (F0 m 2920 ls1 [])) : W p l e R s m args below meth c H locs cells slots Q (F0 m 2795 ls []) := by
  have hx := hC.1
  have hb := hC.2.1
  have hw := hC.2.2.2.2.1
  refine lv_aload_n hx hb dL_law_2795 rfl (lv_at hl 1 rfl) ?_
  refine me_callVi (As := []) (rest := []) hC hl.1 hM ct1 (kv_L_324 hw hrc1 hrs1 ⟨by omega, by show 8 + (3 + 11) + rm1.locals ≤ R.locals; omega⟩) rfl rfl he rfl (Nat.le_of_ble_eq_true rfl) dL_law_2796 ⟨by omega, by omega⟩ (fun H locs hM => ?_)
  refine lv_aload_n hx hb dL_law_2799 rfl (lv_at hl 2 rfl) ?_
  refine me_callVi (As := []) (rest := [.int r]) hC hl.1 hM ct2 (kv_L_327 hw hrc2 hrs2 ⟨by omega, by show 8 + (3 + 11) + rm2.locals ≤ R.locals; omega⟩) rfl rfl he2 rfl (Nat.le_of_ble_eq_true rfl) dL_law_2800 ⟨by omega, by omega⟩ (fun H locs hM => ?_)
  refine lv_icmp_eq (tgt := 2920) hx hb dL_law_2803 (by decide) (fun _ => ?_) (fun h => absurd rfl h)
  exact kk ls H locs _ hl hM
set_option maxHeartbeats 4000000 in
theorem lw_c53 (hC : me_cx ws_all p c cL_law 10 s args m RL D tb X z0) (hl : lv_has ls 10 [(0, .ref b), (1, .ref bo), (2, .ref mo), (3, .ref oa), (4, .ref da), (5, .int (nI i))]) (hR : 14 ≤ R.frames ∧ 522 ≤ R.locals) (hM : me_at D z0 M n s H locs) (hX : va_X b L xs s s.heap) (hbl : b < s.heap.size) (hbA : ¬ me_A z0 b) (hi : i + 6 ≤ L) (hL : L ≤ 3072) (hrc2 : rm2.cells = mc2) (hrs2 : rm2.slots = ms2) (hr2 : rm2.frames ≤ 13 ∧ rm2.locals ≤ 480) (he1 : M1 mo = some (.inr (8, fs))) (he2 : M2 mo = some (.inr (8, fs2))) (hf : cells + mc + mc2 ≤ R.cells ∧ slots + ms + ms2 ≤ R.slots) (ct1 : Met l yL_writeBorrower (.codeWith yL_writeBorrower cL_writeBorrower 4 (some .int) [(0, 9, 12, 19)] :: ws_all) ({ frames := 13, cells := mc, slots := ms, locals := 480 } : Room) (me_Pc [.ref bo, .int (xs (i + 1)), .ref oa] D tb X z0 M n) (me_Qn D z0 k M1) mc ms (me_A z0)) (ct2 : ∀ n1, Met l yX8_writeBorrower (.code yX8_writeBorrower cX8_writeBorrower 2 (some .int) :: ws_all) rm2 (me_Pc [.ref mo, .int (xs (i + 1))] D tb X z0 M1 n1) (me_Qi D z0 r M2 (n2 n1)) mc2 ms2 (me_A z0)) (ct3 : ∀ n1, Met l yX8_thrown (.code yX8_thrown cX8_thrown 1 (some .int) :: ws_all) ({ frames := 0, cells := 0, slots := 0, locals := 0 } : Room) (me_Pc [.ref mo] D tb X z0 M2 n1) (me_Qi D z0 k M2 n1) 0 0 (me_A z0)) (hk : k = 0 → ∃ f : Nat → Int64, M2 oa = some (.inl (tb 3, 1, .inr (.inl f))) ∧ f 0 = r.toInt64) (kk : ∀ (ls1 : Array Slot) (H1 : Heap) (locs1 : List Loc) (n5 : Nat), lv_has ls1 10 [(0, .ref b), (1, .ref bo), (2, .ref mo), (3, .ref oa), (4, .ref da), (5, .int (nI i))] → me_at D z0 M2 n5 s H1 locs1 → W p l e R s m args below meth c H1 locs1 (cells + mc + mc2) (slots + ms + ms2) Q (F0 m 2920 ls1 [])) : W p l e R s m args below meth c H locs cells slots Q (F0 m 2808 ls []) := by
  have hx := hC.1
  have hb := hC.2.1
  have hw := hC.2.2.2.2.1
  refine lv_aload_n hx hb dL_law_2808 rfl (lv_at hl 1 rfl) ?_
  refine lv_aload_n hx hb dL_law_2809 rfl (lv_at hl 0 rfl) ?_
  refine lv_iload hx hb dL_law_2810 (lv_at hl 5 rfl) ?_
  refine lv_iconst (v := 1) hx hb dL_law_2812 (by decide) ?_
  refine lv_iadd hx hb dL_law_2813 ?_
  refine lw_rd (k := 1) hx hb hX hbl hbA hM.2.2.2.2 rfl (by omega) hL dL_law_2814 ?_
  refine lv_aload_n hx hb dL_law_2815 rfl (lv_at hl 3 rfl) ?_
  refine me_callSn (nA := 3) (As := [.ref bo, .int (xs (i + 1)), .ref oa]) (rest := []) hC hl.1 hM ct1 w_1133 w_1134 w_0 w_1135 (by decide +kernel) rfl rfl ⟨by show 13 + 1 ≤ R.frames; omega, by show 8 + (4 + 11) + 480 ≤ R.locals; omega⟩ rfl rfl (Nat.le_of_ble_eq_true rfl) dL_law_2816 ⟨by omega, by omega⟩ (fun H locs n1 hM => ?_)
  refine lv_istore (lv' := [(6, .int k), (0, .ref b), (1, .ref bo), (2, .ref mo), (3, .ref oa), (4, .ref da), (5, .int (nI i))]) hx hb dL_law_2819 hl (by decide) rfl (fun ls hl => ?_)
  refine lv_aload_n hx hb dL_law_2821 rfl (lv_at hl 3 rfl) ?_
  refine lv_aload_n hx hb dL_law_2822 rfl (lv_at hl 1 rfl) ?_
  refine lv_iload hx hb dL_law_2823 (lv_at hl 6 rfl) ?_
  refine lv_iconst (v := 1) hx hb dL_law_2825 (by decide) ?_
  refine lv_iadd hx hb dL_law_2826 ?_
  refine lw_rd (k := 1) hx hb hX hbl hbA hM.2.2.2.2 rfl (by omega) hL dL_law_2827 ?_
  refine me_callVi (As := [.int (xs (i + 1))]) (rest := []) hC hl.1 hM (ct2 n1) (kv_L_330 hw hrc2 hrs2 ⟨by omega, by show 8 + (2 + 11) + rm2.locals ≤ R.locals; omega⟩) rfl rfl he1 rfl (Nat.le_of_ble_eq_true rfl) dL_law_2828 ⟨by omega, by omega⟩ (fun H locs hM => ?_)
  refine lv_istore (lv' := [(7, .int r), (6, .int k), (0, .ref b), (1, .ref bo), (2, .ref mo), (3, .ref oa), (4, .ref da), (5, .int (nI i))]) hx hb dL_law_2831 hl (by decide) rfl (fun ls hl => ?_)
  refine lv_aload_n hx hb dL_law_2833 rfl (lv_at hl 4 rfl) ?_
  refine me_callVi (As := []) (rest := []) hC hl.1 hM (ct3 _) (kv_L_145 hw rfl rfl ⟨by show 0 + 1 ≤ R.frames; omega, by show 8 + (1 + 11) + 0 ≤ R.locals; omega⟩) rfl rfl he2 rfl (Nat.le_of_ble_eq_true rfl) dL_law_2834 ⟨by omega, by omega⟩ (fun H locs hM => ?_)
  refine lv_iload hx hb dL_law_2837 (lv_at hl 1 rfl) ?_
  refine lv_icmp_eq (tgt := 2844) hx hb dL_law_2839 (by decide) (fun _ => ?_) (fun h => absurd rfl h)
  refine lv_iload hx hb dL_law_2844 (lv_at hl 1 rfl) ?_
  refine lv_if_ne (tgt := 2861) hx hb dL_law_2846 (by decide) (fun _ => ?_) (fun h0 => ?_)
  · refine lv_goto (tgt := 2920) hx hb dL_law_2861 (by decide) ?_
    exact kk ls H locs _ (lv_sub hl [2, 3, 4, 5, 6, 7] rfl) hM
  obtain ⟨f, ho, hf0⟩ := hk h0
  refine lv_aload_n hx hb dL_law_2849 rfl (lv_at hl 5 rfl) ?_
  refine lv_iconst (v := 0) hx hb dL_law_2850 (by decide) ?_
  refine me_lald (k := 0) hC hM ho rfl (by decide) (by decide) dL_law_2851 ?_
  refine lv_iload hx hb dL_law_2852 (lv_at hl 0 rfl) ?_
  refine lv_i2l hx hb dL_law_2854 rfl ?_
  refine W.lcmp hx hb dL_law_2855 ?_
  refine lv_if_eq (tgt := 2861) hx hb dL_law_2856 (by decide) (fun _ => ?_) (fun h => absurd (lw_lself hf0) h)
  refine lv_goto (tgt := 2920) hx hb dL_law_2861 (by decide) ?_
  exact kk ls H locs _ (lv_sub hl [2, 3, 4, 5, 6, 7] rfl) hM
set_option maxHeartbeats 4000000 in
theorem lw_c54 (hC : me_cx ws_all p c cL_law 10 s args m RL D tb X z0) (hl : lv_has ls 10 [(0, .ref b), (1, .ref bo), (2, .ref mo), (3, .ref oa), (4, .ref da), (5, .int (nI i))]) (hR : 14 ≤ R.frames ∧ 522 ≤ R.locals) (hM : me_at D z0 M n s H locs) (hX : va_X b L xs s s.heap) (hbl : b < s.heap.size) (hbA : ¬ me_A z0 b) (hi : i + 6 ≤ L) (hL : L ≤ 3072) (hrc2 : rm2.cells = mc2) (hrs2 : rm2.slots = ms2) (hr2 : rm2.frames ≤ 13 ∧ rm2.locals ≤ 480) (he1 : M1 mo = some (.inr (8, fs))) (he2 : M2 mo = some (.inr (8, fs2))) (hf : cells + mc + mc2 ≤ R.cells ∧ slots + ms + ms2 ≤ R.slots) (ct1 : Met l yL_outputByte (.codeWith yL_outputByte cL_outputByte 4 (some .int) [(0, 9, 12, 19)] :: ws_all) ({ frames := 13, cells := mc, slots := ms, locals := 480 } : Room) (me_Pc [.ref bo, .int (xs (i + 1)), .ref oa] D tb X z0 M n) (me_Qn D z0 k M1) mc ms (me_A z0)) (ct2 : ∀ n1, Met l yX8_outputByte (.code yX8_outputByte cX8_outputByte 2 (some .int) :: ws_all) rm2 (me_Pc [.ref mo, .int (xs (i + 1))] D tb X z0 M1 n1) (me_Qi D z0 r M2 (n2 n1)) mc2 ms2 (me_A z0)) (ct3 : ∀ n1, Met l yX8_thrown (.code yX8_thrown cX8_thrown 1 (some .int) :: ws_all) ({ frames := 0, cells := 0, slots := 0, locals := 0 } : Room) (me_Pc [.ref mo] D tb X z0 M2 n1) (me_Qi D z0 k M2 n1) 0 0 (me_A z0)) (hk : k = 0 → ∃ f : Nat → Int64, M2 oa = some (.inl (tb 3, 1, .inr (.inl f))) ∧ f 0 = r.toInt64) (kk : ∀ (ls1 : Array Slot) (H1 : Heap) (locs1 : List Loc) (n5 : Nat), lv_has ls1 10 [(0, .ref b), (1, .ref bo), (2, .ref mo), (3, .ref oa), (4, .ref da), (5, .int (nI i))] → me_at D z0 M2 n5 s H1 locs1 → W p l e R s m args below meth c H1 locs1 (cells + mc + mc2) (slots + ms + ms2) Q (F0 m 2920 ls1 [])) : W p l e R s m args below meth c H locs cells slots Q (F0 m 2864 ls []) := by
  have hx := hC.1
  have hb := hC.2.1
  have hw := hC.2.2.2.2.1
  refine lv_aload_n hx hb dL_law_2864 rfl (lv_at hl 1 rfl) ?_
  refine lv_aload_n hx hb dL_law_2865 rfl (lv_at hl 0 rfl) ?_
  refine lv_iload hx hb dL_law_2866 (lv_at hl 5 rfl) ?_
  refine lv_iconst (v := 1) hx hb dL_law_2868 (by decide) ?_
  refine lv_iadd hx hb dL_law_2869 ?_
  refine lw_rd (k := 1) hx hb hX hbl hbA hM.2.2.2.2 rfl (by omega) hL dL_law_2870 ?_
  refine lv_aload_n hx hb dL_law_2871 rfl (lv_at hl 3 rfl) ?_
  refine me_callSn (nA := 3) (As := [.ref bo, .int (xs (i + 1)), .ref oa]) (rest := []) hC hl.1 hM ct1 w_1295 w_1296 w_0 w_1297 (by decide +kernel) rfl rfl ⟨by show 13 + 1 ≤ R.frames; omega, by show 8 + (4 + 11) + 480 ≤ R.locals; omega⟩ rfl rfl (Nat.le_of_ble_eq_true rfl) dL_law_2872 ⟨by omega, by omega⟩ (fun H locs n1 hM => ?_)
  refine lv_istore (lv' := [(6, .int k), (0, .ref b), (1, .ref bo), (2, .ref mo), (3, .ref oa), (4, .ref da), (5, .int (nI i))]) hx hb dL_law_2875 hl (by decide) rfl (fun ls hl => ?_)
  refine lv_aload_n hx hb dL_law_2877 rfl (lv_at hl 3 rfl) ?_
  refine lv_aload_n hx hb dL_law_2878 rfl (lv_at hl 1 rfl) ?_
  refine lv_iload hx hb dL_law_2879 (lv_at hl 6 rfl) ?_
  refine lv_iconst (v := 1) hx hb dL_law_2881 (by decide) ?_
  refine lv_iadd hx hb dL_law_2882 ?_
  refine lw_rd (k := 1) hx hb hX hbl hbA hM.2.2.2.2 rfl (by omega) hL dL_law_2883 ?_
  refine me_callVi (As := [.int (xs (i + 1))]) (rest := []) hC hl.1 hM (ct2 n1) (kv_L_333 hw hrc2 hrs2 ⟨by omega, by show 8 + (2 + 11) + rm2.locals ≤ R.locals; omega⟩) rfl rfl he1 rfl (Nat.le_of_ble_eq_true rfl) dL_law_2884 ⟨by omega, by omega⟩ (fun H locs hM => ?_)
  refine lv_istore (lv' := [(7, .int r), (6, .int k), (0, .ref b), (1, .ref bo), (2, .ref mo), (3, .ref oa), (4, .ref da), (5, .int (nI i))]) hx hb dL_law_2887 hl (by decide) rfl (fun ls hl => ?_)
  refine lv_aload_n hx hb dL_law_2889 rfl (lv_at hl 4 rfl) ?_
  refine me_callVi (As := []) (rest := []) hC hl.1 hM (ct3 _) (kv_L_145 hw rfl rfl ⟨by show 0 + 1 ≤ R.frames; omega, by show 8 + (1 + 11) + 0 ≤ R.locals; omega⟩) rfl rfl he2 rfl (Nat.le_of_ble_eq_true rfl) dL_law_2890 ⟨by omega, by omega⟩ (fun H locs hM => ?_)
  refine lv_iload hx hb dL_law_2893 (lv_at hl 1 rfl) ?_
  refine lv_icmp_eq (tgt := 2900) hx hb dL_law_2895 (by decide) (fun _ => ?_) (fun h => absurd rfl h)
  refine lv_iload hx hb dL_law_2900 (lv_at hl 1 rfl) ?_
  refine lv_if_ne (tgt := 2917) hx hb dL_law_2902 (by decide) (fun _ => ?_) (fun h0 => ?_)
  · refine lv_goto (tgt := 2920) hx hb dL_law_2917 (by decide) ?_
    exact kk ls H locs _ (lv_sub hl [2, 3, 4, 5, 6, 7] rfl) hM
  obtain ⟨f, ho, hf0⟩ := hk h0
  refine lv_aload_n hx hb dL_law_2905 rfl (lv_at hl 5 rfl) ?_
  refine lv_iconst (v := 0) hx hb dL_law_2906 (by decide) ?_
  refine me_lald (k := 0) hC hM ho rfl (by decide) (by decide) dL_law_2907 ?_
  refine lv_iload hx hb dL_law_2908 (lv_at hl 0 rfl) ?_
  refine lv_i2l hx hb dL_law_2910 rfl ?_
  refine W.lcmp hx hb dL_law_2911 ?_
  refine lv_if_eq (tgt := 2917) hx hb dL_law_2912 (by decide) (fun _ => ?_) (fun h => absurd (lw_lself hf0) h)
  refine lv_goto (tgt := 2920) hx hb dL_law_2917 (by decide) ?_
  exact kk ls H locs _ (lv_sub hl [2, 3, 4, 5, 6, 7] rfl) hM
end LC3
