set_option maxHeartbeats 4000000 in
theorem c_L_append (l : Launch) (D : va_G) (tb : Nat → ClassId) (X : State → Prop) (z0 n : Nat) (bo oa : Nat) (p0 p1 p2 p3 p4 : Int32) {M M' : me_M} {mc ms : Nat} {rm : Room} {n' : Nat} {r : Int32} {f : Nat → Int64} {fs : List Value} (hrc : rm.cells = mc) (hrs : rm.slots = ms) (hR : rm.frames ≤ 12 ∧ rm.locals ≤ 440) (he : M bo = some (.inr (7, fs))) (ho : M' oa = some (.inl (tb 3, 1, .inr (.inl f)))) (ct : Met l yX7_append (.code yX7_append cX7_append 6 (some .int) :: ws_all) rm (me_Pc [.ref bo, .int p0, .int p1, .int p2, .int p3, .int p4] D tb X z0 M n) (me_Qi D z0 r M' n') mc ms (me_A z0)) : Met l yL_append (.codeWith yL_append cL_append 8 (some .int) [(0, 16, 19, 13)] :: ws_all) ({ frames := 13, cells := mc, slots := ms, locals := 480 } : Room) (me_Pc [.ref bo, .int p0, .int p1, .int p2, .int p3, .int p4, .ref oa] D tb X z0 M n) (me_Qn D z0 0 (me_up M' oa (.inl (tb 3, 1, .inr (.inl (vp_updL f 0 r.toInt64)))))) mc ms (me_A z0) := by
  refine me_openH (by decide) (Nat.le_of_ble_eq_true rfl) ?_
  intro p e s m args below meth c ls hC ht hr hlk hM hl
  have hl : lv_has ls 8 [(0, .ref bo), (1, .int p0), (2, .int p1), (3, .int p2), (4, .int p3), (5, .int p4), (6, .ref oa)] := hl
  have hx := hC.1
  have hb := hC.2.1
  have hw := hC.2.2.2.2.1
  refine lv_aload hx hb dL_append_0 (lv_at hl 6 rfl) ?_
  refine lv_iconst (v := 0) hx hb dL_append_2 (by decide) ?_
  refine lv_aload_n hx hb dL_append_3 rfl (lv_at hl 0 rfl) ?_
  refine lv_iload_n hx hb dL_append_4 rfl (lv_at hl 1 rfl) ?_
  refine lv_iload_n hx hb dL_append_5 rfl (lv_at hl 2 rfl) ?_
  refine lv_iload_n hx hb dL_append_6 rfl (lv_at hl 3 rfl) ?_
  refine lv_iload hx hb dL_append_7 (lv_at hl 4 rfl) ?_
  refine lv_iload hx hb dL_append_9 (lv_at hl 5 rfl) ?_
  refine me_callVi (As := [.int p0, .int p1, .int p2, .int p3, .int p4]) (rest := [.int 0, .ref oa]) hC hl.1 hM ct (kv_L_7 hw hrc hrs ⟨by show rm.frames + 1 ≤ 13; omega, by show 8 + (6 + 11) + rm.locals ≤ 480; omega⟩) rfl rfl he rfl (Nat.le_of_ble_eq_true rfl) dL_append_11 ⟨by show 0 + mc ≤ mc; omega, by show 0 + ms ≤ ms; omega⟩ (fun H locs hM => ?_)
  refine lv_i2l hx hb dL_append_14 rfl ?_
  refine me_last (k := 0) (M2 := me_up M' oa (.inl (tb 3, 1, .inr (.inl (vp_updL f 0 r.toInt64))))) hC hM ho rfl (by decide) (by decide) rfl dL_append_15 (fun H locs hM => ?_)
  refine lv_goto (tgt := 23) hx hb dL_append_16 (by decide) ?_
  refine lv_iconst (v := 0) hx hb dL_append_23 (by decide) ?_
  refine W.widen (k := mc) (n := ms) (by omega) (by omega) ?_
  exact me_nret hC hr hlk hM rfl rfl dL_append_24
set_option maxHeartbeats 4000000 in
theorem c_L_append_x1 (l : Launch) (D : va_G) (tb : Nat → ClassId) (X : State → Prop) (z0 n : Nat) (bo oa : Nat) (p0 p1 p2 p3 p4 : Int32) {M M' : me_M} {mc ms : Nat} {rm : Room} {fs : List Value} (hCE : ∀ U, X U → me_ce U) (hrc : rm.cells = mc) (hrs : rm.slots = ms) (hR : rm.frames ≤ 12 ∧ rm.locals ≤ 440) (he : M bo = some (.inr (7, fs))) (ct : vx_Met l yX7_append (.code yX7_append cX7_append 6 (some .int) :: ws_all) rm (me_Pc [.ref bo, .int p0, .int p1, .int p2, .int p3, .int p4] D tb X z0 M n) me_no (me_XC D z0 M' "java/lang/IllegalStateException") mc ms (me_A z0)) : Met l yL_append (.codeWith yL_append cL_append 8 (some .int) [(0, 16, 19, 13)] :: ws_all) ({ frames := 13, cells := mc, slots := ms, locals := 480 } : Room) (me_Pc [.ref bo, .int p0, .int p1, .int p2, .int p3, .int p4, .ref oa] D tb X z0 M n) (me_Qn D z0 1 M') mc ms (me_A z0) := by
  refine me_openH (by decide) (Nat.le_of_ble_eq_true rfl) ?_
  intro p e s m args below meth c ls hC ht hr hlk hM hl
  have hl : lv_has ls 8 [(0, .ref bo), (1, .int p0), (2, .int p1), (3, .int p2), (4, .int p3), (5, .int p4), (6, .ref oa)] := hl
  have hx := hC.1
  have hb := hC.2.1
  have hw := hC.2.2.2.2.1
  refine lv_aload hx hb dL_append_0 (lv_at hl 6 rfl) ?_
  refine lv_iconst (v := 0) hx hb dL_append_2 (by decide) ?_
  refine lv_aload_n hx hb dL_append_3 rfl (lv_at hl 0 rfl) ?_
  refine lv_iload_n hx hb dL_append_4 rfl (lv_at hl 1 rfl) ?_
  refine lv_iload_n hx hb dL_append_5 rfl (lv_at hl 2 rfl) ?_
  refine lv_iload_n hx hb dL_append_6 rfl (lv_at hl 3 rfl) ?_
  refine lv_iload hx hb dL_append_7 (lv_at hl 4 rfl) ?_
  refine lv_iload hx hb dL_append_9 (lv_at hl 5 rfl) ?_
  refine me_xcat (E0 := "java/lang/IllegalStateException") (pre := []) (x := ⟨0, 16, 19, 13⟩) (suf := []) (As := [.int p0, .int p1, .int p2, .int p3, .int p4]) (rest := [.int 0, .ref oa]) hC hl.1 hM ct (kv_L_7 hw hrc hrs ⟨by show rm.frames + 1 ≤ 13; omega, by show 8 + (6 + 11) + rm.locals ≤ 480; omega⟩) rfl rfl he rfl (Nat.le_of_ble_eq_true rfl) dL_append_11 ⟨by show 0 + mc ≤ mc; omega, by show 0 + ms ≤ ms; omega⟩ ht (fun z h => absurd h List.not_mem_nil) (by decide) (by decide) w_660 (va_Nw.use (by decide +kernel) (hCE s hC.2.2.2.2.2.1.2).1) (fun H locs n1 q hM => ?_)
  refine lv_astore (lv' := [(7, .ref q), (0, .ref bo), (1, .int p0), (2, .int p1), (3, .int p2), (4, .int p3), (5, .int p4), (6, .ref oa)]) hx hb dL_append_19 hl (by decide) rfl (fun ls hl => ?_)
  refine lv_iconst (v := 1) hx hb dL_append_21 (by decide) ?_
  refine W.widen (k := mc) (n := ms) (by omega) (by omega) ?_
  exact me_nret hC hr hlk hM rfl rfl dL_append_22
set_option maxHeartbeats 4000000 in
theorem c_L_load (l : Launch) (D : va_G) (tb : Nat → ClassId) (X : State → Prop) (z0 n : Nat) (bo oa : Nat) (p0 : Int32) {M M' : me_M} {mc ms : Nat} {rm : Room} {n' : Nat} {r : Int32} {f : Nat → Int64} {fs : List Value} (hrc : rm.cells = mc) (hrs : rm.slots = ms) (hR : rm.frames ≤ 12 ∧ rm.locals ≤ 440) (he : M bo = some (.inr (7, fs))) (ho : M' oa = some (.inl (tb 3, 1, .inr (.inl f)))) (ct : Met l yX7_load (.code yX7_load cX7_load 4 (some .int) :: ws_all) rm (me_Pc [.ref bo, .int p0] D tb X z0 M n) (me_Qi D z0 r M' n') mc ms (me_A z0)) : Met l yL_load (.codeWith yL_load cL_load 4 (some .int) [(0, 9, 12, 19), (0, 9, 15, 21)] :: ws_all) ({ frames := 13, cells := mc, slots := ms, locals := 480 } : Room) (me_Pc [.ref bo, .int p0, .ref oa] D tb X z0 M n) (me_Qn D z0 0 (me_up M' oa (.inl (tb 3, 1, .inr (.inl (vp_updL f 0 r.toInt64)))))) mc ms (me_A z0) := by
  refine me_openH (by decide) (Nat.le_of_ble_eq_true rfl) ?_
  intro p e s m args below meth c ls hC ht hr hlk hM hl
  have hl : lv_has ls 4 [(0, .ref bo), (1, .int p0), (2, .ref oa)] := hl
  have hx := hC.1
  have hb := hC.2.1
  have hw := hC.2.2.2.2.1
  refine lv_aload_n hx hb dL_load_0 rfl (lv_at hl 2 rfl) ?_
  refine lv_iconst (v := 0) hx hb dL_load_1 (by decide) ?_
  refine lv_aload_n hx hb dL_load_2 rfl (lv_at hl 0 rfl) ?_
  refine lv_iload_n hx hb dL_load_3 rfl (lv_at hl 1 rfl) ?_
  refine me_callVi (As := [.int p0]) (rest := [.int 0, .ref oa]) hC hl.1 hM ct (kv_L_15 hw hrc hrs ⟨by show rm.frames + 1 ≤ 13; omega, by show 8 + (4 + 11) + rm.locals ≤ 480; omega⟩) rfl rfl he rfl (Nat.le_of_ble_eq_true rfl) dL_load_4 ⟨by show 0 + mc ≤ mc; omega, by show 0 + ms ≤ ms; omega⟩ (fun H locs hM => ?_)
  refine lv_i2l hx hb dL_load_7 rfl ?_
  refine me_last (k := 0) (M2 := me_up M' oa (.inl (tb 3, 1, .inr (.inl (vp_updL f 0 r.toInt64))))) hC hM ho rfl (by decide) (by decide) rfl dL_load_8 (fun H locs hM => ?_)
  refine lv_goto (tgt := 18) hx hb dL_load_9 (by decide) ?_
  refine lv_iconst (v := 0) hx hb dL_load_18 (by decide) ?_
  refine W.widen (k := mc) (n := ms) (by omega) (by omega) ?_
  exact me_nret hC hr hlk hM rfl rfl dL_load_19
set_option maxHeartbeats 4000000 in
theorem c_L_load_x1 (l : Launch) (D : va_G) (tb : Nat → ClassId) (X : State → Prop) (z0 n : Nat) (bo oa : Nat) (p0 : Int32) {M M' : me_M} {mc ms : Nat} {rm : Room} {fs : List Value} (hCE : ∀ U, X U → me_ce U) (hrc : rm.cells = mc) (hrs : rm.slots = ms) (hR : rm.frames ≤ 12 ∧ rm.locals ≤ 440) (he : M bo = some (.inr (7, fs))) (ct : vx_Met l yX7_load (.code yX7_load cX7_load 4 (some .int) :: ws_all) rm (me_Pc [.ref bo, .int p0] D tb X z0 M n) me_no (me_XC D z0 M' "java/lang/IndexOutOfBoundsException") mc ms (me_A z0)) : Met l yL_load (.codeWith yL_load cL_load 4 (some .int) [(0, 9, 12, 19), (0, 9, 15, 21)] :: ws_all) ({ frames := 13, cells := mc, slots := ms, locals := 480 } : Room) (me_Pc [.ref bo, .int p0, .ref oa] D tb X z0 M n) (me_Qn D z0 1 M') mc ms (me_A z0) := by
  refine me_openH (by decide) (Nat.le_of_ble_eq_true rfl) ?_
  intro p e s m args below meth c ls hC ht hr hlk hM hl
  have hl : lv_has ls 4 [(0, .ref bo), (1, .int p0), (2, .ref oa)] := hl
  have hx := hC.1
  have hb := hC.2.1
  have hw := hC.2.2.2.2.1
  refine lv_aload_n hx hb dL_load_0 rfl (lv_at hl 2 rfl) ?_
  refine lv_iconst (v := 0) hx hb dL_load_1 (by decide) ?_
  refine lv_aload_n hx hb dL_load_2 rfl (lv_at hl 0 rfl) ?_
  refine lv_iload_n hx hb dL_load_3 rfl (lv_at hl 1 rfl) ?_
  refine me_xcat (E0 := "java/lang/IndexOutOfBoundsException") (pre := []) (x := ⟨0, 9, 12, 19⟩) (suf := [⟨0, 9, 15, 21⟩]) (As := [.int p0]) (rest := [.int 0, .ref oa]) hC hl.1 hM ct (kv_L_15 hw hrc hrs ⟨by show rm.frames + 1 ≤ 13; omega, by show 8 + (4 + 11) + rm.locals ≤ 480; omega⟩) rfl rfl he rfl (Nat.le_of_ble_eq_true rfl) dL_load_4 ⟨by show 0 + mc ≤ mc; omega, by show 0 + ms ≤ ms; omega⟩ ht (fun z h => absurd h List.not_mem_nil) (by decide) (by decide) w_739 (va_Nw.use (by decide +kernel) (hCE s hC.2.2.2.2.2.1.2).2.1) (fun H locs n1 q hM => ?_)
  refine lv_astore_n (lv' := [(3, .ref q), (0, .ref bo), (1, .int p0), (2, .ref oa)]) hx hb dL_load_12 rfl hl (by decide) rfl (fun ls hl => ?_)
  refine lv_iconst (v := 1) hx hb dL_load_13 (by decide) ?_
  refine W.widen (k := mc) (n := ms) (by omega) (by omega) ?_
  exact me_nret hC hr hlk hM rfl rfl dL_load_14
set_option maxHeartbeats 4000000 in
theorem c_L_load_x2 (l : Launch) (D : va_G) (tb : Nat → ClassId) (X : State → Prop) (z0 n : Nat) (bo oa : Nat) (p0 : Int32) {M M' : me_M} {mc ms : Nat} {rm : Room} {fs : List Value} (hCE : ∀ U, X U → me_ce U) (hrc : rm.cells = mc) (hrs : rm.slots = ms) (hR : rm.frames ≤ 12 ∧ rm.locals ≤ 440) (he : M bo = some (.inr (7, fs))) (ct : vx_Met l yX7_load (.code yX7_load cX7_load 4 (some .int) :: ws_all) rm (me_Pc [.ref bo, .int p0] D tb X z0 M n) me_no (me_XC D z0 M' "java/lang/IllegalArgumentException") mc ms (me_A z0)) : Met l yL_load (.codeWith yL_load cL_load 4 (some .int) [(0, 9, 12, 19), (0, 9, 15, 21)] :: ws_all) ({ frames := 13, cells := mc, slots := ms, locals := 480 } : Room) (me_Pc [.ref bo, .int p0, .ref oa] D tb X z0 M n) (me_Qn D z0 2 M') mc ms (me_A z0) := by
  refine me_openH (by decide) (Nat.le_of_ble_eq_true rfl) ?_
  intro p e s m args below meth c ls hC ht hr hlk hM hl
  have hl : lv_has ls 4 [(0, .ref bo), (1, .int p0), (2, .ref oa)] := hl
  have hx := hC.1
  have hb := hC.2.1
  have hw := hC.2.2.2.2.1
  refine lv_aload_n hx hb dL_load_0 rfl (lv_at hl 2 rfl) ?_
  refine lv_iconst (v := 0) hx hb dL_load_1 (by decide) ?_
  refine lv_aload_n hx hb dL_load_2 rfl (lv_at hl 0 rfl) ?_
  refine lv_iload_n hx hb dL_load_3 rfl (lv_at hl 1 rfl) ?_
  refine me_xcat (E0 := "java/lang/IllegalArgumentException") (pre := [⟨0, 9, 12, 19⟩]) (x := ⟨0, 9, 15, 21⟩) (suf := []) (As := [.int p0]) (rest := [.int 0, .ref oa]) hC hl.1 hM ct (kv_L_15 hw hrc hrs ⟨by show rm.frames + 1 ≤ 13; omega, by show 8 + (4 + 11) + rm.locals ≤ 480; omega⟩) rfl rfl he rfl (Nat.le_of_ble_eq_true rfl) dL_load_4 ⟨by show 0 + mc ≤ mc; omega, by show 0 + ms ≤ ms; omega⟩ ht (fun z h => by
    simp only [List.mem_cons, List.not_mem_nil, or_false] at h
    subst h
    exact Or.inr ⟨by decide, "java/lang/IndexOutOfBoundsException", hw _ w_739, (hCE s hC.2.2.2.2.2.1.2).2.2.2.1⟩) (by decide) (by decide) w_740 (va_Nw.use (by decide +kernel) (hCE s hC.2.2.2.2.2.1.2).2.2.1) (fun H locs n1 q hM => ?_)
  refine lv_astore_n (lv' := [(3, .ref q), (0, .ref bo), (1, .int p0), (2, .ref oa)]) hx hb dL_load_15 rfl hl (by decide) rfl (fun ls hl => ?_)
  refine lv_iconst (v := 2) hx hb dL_load_16 (by decide) ?_
  refine W.widen (k := mc) (n := ms) (by omega) (by omega) ?_
  exact me_nret hC hr hlk hM rfl rfl dL_load_17
set_option maxHeartbeats 4000000 in
theorem c_L_loansWith (l : Launch) (D : va_G) (tb : Nat → ClassId) (X : State → Prop) (z0 n : Nat) (bo oa : Nat) (p0 : Int32) {M M' : me_M} {mc ms : Nat} {rm : Room} {n' : Nat} {r : Int32} {f : Nat → Int64} {fs : List Value} (hrc : rm.cells = mc) (hrs : rm.slots = ms) (hR : rm.frames ≤ 12 ∧ rm.locals ≤ 440) (he : M bo = some (.inr (7, fs))) (ho : M' oa = some (.inl (tb 3, 1, .inr (.inl f)))) (ct : Met l yX7_loansWith (.code yX7_loansWith cX7_loansWith 2 (some .int) :: ws_all) rm (me_Pc [.ref bo, .int p0] D tb X z0 M n) (me_Qi D z0 r M' n') mc ms (me_A z0)) : Met l yL_loansWith (.codeWith yL_loansWith cL_loansWith 4 (some .int) [(0, 9, 12, 21)] :: ws_all) ({ frames := 13, cells := mc, slots := ms, locals := 480 } : Room) (me_Pc [.ref bo, .int p0, .ref oa] D tb X z0 M n) (me_Qn D z0 0 (me_up M' oa (.inl (tb 3, 1, .inr (.inl (vp_updL f 0 r.toInt64)))))) mc ms (me_A z0) := by
  refine me_openH (by decide) (Nat.le_of_ble_eq_true rfl) ?_
  intro p e s m args below meth c ls hC ht hr hlk hM hl
  have hl : lv_has ls 4 [(0, .ref bo), (1, .int p0), (2, .ref oa)] := hl
  have hx := hC.1
  have hb := hC.2.1
  have hw := hC.2.2.2.2.1
  refine lv_aload_n hx hb dL_loansWith_0 rfl (lv_at hl 2 rfl) ?_
  refine lv_iconst (v := 0) hx hb dL_loansWith_1 (by decide) ?_
  refine lv_aload_n hx hb dL_loansWith_2 rfl (lv_at hl 0 rfl) ?_
  refine lv_iload_n hx hb dL_loansWith_3 rfl (lv_at hl 1 rfl) ?_
  refine me_callVi (As := [.int p0]) (rest := [.int 0, .ref oa]) hC hl.1 hM ct (kv_L_23 hw hrc hrs ⟨by show rm.frames + 1 ≤ 13; omega, by show 8 + (2 + 11) + rm.locals ≤ 480; omega⟩) rfl rfl he rfl (Nat.le_of_ble_eq_true rfl) dL_loansWith_4 ⟨by show 0 + mc ≤ mc; omega, by show 0 + ms ≤ ms; omega⟩ (fun H locs hM => ?_)
  refine lv_i2l hx hb dL_loansWith_7 rfl ?_
  refine me_last (k := 0) (M2 := me_up M' oa (.inl (tb 3, 1, .inr (.inl (vp_updL f 0 r.toInt64))))) hC hM ho rfl (by decide) (by decide) rfl dL_loansWith_8 (fun H locs hM => ?_)
  refine lv_goto (tgt := 15) hx hb dL_loansWith_9 (by decide) ?_
  refine lv_iconst (v := 0) hx hb dL_loansWith_15 (by decide) ?_
  refine W.widen (k := mc) (n := ms) (by omega) (by omega) ?_
  exact me_nret hC hr hlk hM rfl rfl dL_loansWith_16
set_option maxHeartbeats 4000000 in
theorem c_L_loansWith_x1 (l : Launch) (D : va_G) (tb : Nat → ClassId) (X : State → Prop) (z0 n : Nat) (bo oa : Nat) (p0 : Int32) {M M' : me_M} {mc ms : Nat} {rm : Room} {fs : List Value} (hCE : ∀ U, X U → me_ce U) (hrc : rm.cells = mc) (hrs : rm.slots = ms) (hR : rm.frames ≤ 12 ∧ rm.locals ≤ 440) (he : M bo = some (.inr (7, fs))) (ct : vx_Met l yX7_loansWith (.code yX7_loansWith cX7_loansWith 2 (some .int) :: ws_all) rm (me_Pc [.ref bo, .int p0] D tb X z0 M n) me_no (me_XC D z0 M' "java/lang/IllegalArgumentException") mc ms (me_A z0)) : Met l yL_loansWith (.codeWith yL_loansWith cL_loansWith 4 (some .int) [(0, 9, 12, 21)] :: ws_all) ({ frames := 13, cells := mc, slots := ms, locals := 480 } : Room) (me_Pc [.ref bo, .int p0, .ref oa] D tb X z0 M n) (me_Qn D z0 1 M') mc ms (me_A z0) := by
  refine me_openH (by decide) (Nat.le_of_ble_eq_true rfl) ?_
  intro p e s m args below meth c ls hC ht hr hlk hM hl
  have hl : lv_has ls 4 [(0, .ref bo), (1, .int p0), (2, .ref oa)] := hl
  have hx := hC.1
  have hb := hC.2.1
  have hw := hC.2.2.2.2.1
  refine lv_aload_n hx hb dL_loansWith_0 rfl (lv_at hl 2 rfl) ?_
  refine lv_iconst (v := 0) hx hb dL_loansWith_1 (by decide) ?_
  refine lv_aload_n hx hb dL_loansWith_2 rfl (lv_at hl 0 rfl) ?_
  refine lv_iload_n hx hb dL_loansWith_3 rfl (lv_at hl 1 rfl) ?_
  refine me_xcat (E0 := "java/lang/IllegalArgumentException") (pre := []) (x := ⟨0, 9, 12, 21⟩) (suf := []) (As := [.int p0]) (rest := [.int 0, .ref oa]) hC hl.1 hM ct (kv_L_23 hw hrc hrs ⟨by show rm.frames + 1 ≤ 13; omega, by show 8 + (2 + 11) + rm.locals ≤ 480; omega⟩) rfl rfl he rfl (Nat.le_of_ble_eq_true rfl) dL_loansWith_4 ⟨by show 0 + mc ≤ mc; omega, by show 0 + ms ≤ ms; omega⟩ ht (fun z h => absurd h List.not_mem_nil) (by decide) (by decide) w_740 (va_Nw.use (by decide +kernel) (hCE s hC.2.2.2.2.2.1.2).2.2.1) (fun H locs n1 q hM => ?_)
  refine lv_astore_n (lv' := [(3, .ref q), (0, .ref bo), (1, .int p0), (2, .ref oa)]) hx hb dL_loansWith_12 rfl hl (by decide) rfl (fun ls hl => ?_)
  refine lv_iconst (v := 1) hx hb dL_loansWith_13 (by decide) ?_
  refine W.widen (k := mc) (n := ms) (by omega) (by omega) ?_
  exact me_nret hC hr hlk hM rfl rfl dL_loansWith_14
set_option maxHeartbeats 4000000 in
theorem c_L_noiseNow (l : Launch) (D : va_G) (tb : Nat → ClassId) (X : State → Prop) (z0 n : Nat) (bo oa : Nat) (p0 : Int32) {M M' : me_M} {mc ms : Nat} {rm : Room} {n' : Nat} {r : Int32} {f : Nat → Int64} {fs : List Value} (hrc : rm.cells = mc) (hrs : rm.slots = ms) (hR : rm.frames ≤ 12 ∧ rm.locals ≤ 440) (he : M bo = some (.inr (7, fs))) (ho : M' oa = some (.inl (tb 3, 1, .inr (.inl f)))) (ct : Met l yX7_noiseNow (.code yX7_noiseNow cX7_noiseNow 2 (some .int) :: ws_all) rm (me_Pc [.ref bo, .int p0] D tb X z0 M n) (me_Qi D z0 r M' n') mc ms (me_A z0)) : Met l yL_noiseNow (.codeWith yL_noiseNow cL_noiseNow 4 (some .int) [(0, 9, 12, 19)] :: ws_all) ({ frames := 13, cells := mc, slots := ms, locals := 480 } : Room) (me_Pc [.ref bo, .int p0, .ref oa] D tb X z0 M n) (me_Qn D z0 0 (me_up M' oa (.inl (tb 3, 1, .inr (.inl (vp_updL f 0 r.toInt64)))))) mc ms (me_A z0) := by
  refine me_openH (by decide) (Nat.le_of_ble_eq_true rfl) ?_
  intro p e s m args below meth c ls hC ht hr hlk hM hl
  have hl : lv_has ls 4 [(0, .ref bo), (1, .int p0), (2, .ref oa)] := hl
  have hx := hC.1
  have hb := hC.2.1
  have hw := hC.2.2.2.2.1
  refine lv_aload_n hx hb dL_noiseNow_0 rfl (lv_at hl 2 rfl) ?_
  refine lv_iconst (v := 0) hx hb dL_noiseNow_1 (by decide) ?_
  refine lv_aload_n hx hb dL_noiseNow_2 rfl (lv_at hl 0 rfl) ?_
  refine lv_iload_n hx hb dL_noiseNow_3 rfl (lv_at hl 1 rfl) ?_
  refine me_callVi (As := [.int p0]) (rest := [.int 0, .ref oa]) hC hl.1 hM ct (kv_L_26 hw hrc hrs ⟨by show rm.frames + 1 ≤ 13; omega, by show 8 + (2 + 11) + rm.locals ≤ 480; omega⟩) rfl rfl he rfl (Nat.le_of_ble_eq_true rfl) dL_noiseNow_4 ⟨by show 0 + mc ≤ mc; omega, by show 0 + ms ≤ ms; omega⟩ (fun H locs hM => ?_)
  refine lv_i2l hx hb dL_noiseNow_7 rfl ?_
  refine me_last (k := 0) (M2 := me_up M' oa (.inl (tb 3, 1, .inr (.inl (vp_updL f 0 r.toInt64))))) hC hM ho rfl (by decide) (by decide) rfl dL_noiseNow_8 (fun H locs hM => ?_)
  refine lv_goto (tgt := 15) hx hb dL_noiseNow_9 (by decide) ?_
  refine lv_iconst (v := 0) hx hb dL_noiseNow_15 (by decide) ?_
  refine W.widen (k := mc) (n := ms) (by omega) (by omega) ?_
  exact me_nret hC hr hlk hM rfl rfl dL_noiseNow_16
set_option maxHeartbeats 4000000 in
theorem c_L_noiseNow_x1 (l : Launch) (D : va_G) (tb : Nat → ClassId) (X : State → Prop) (z0 n : Nat) (bo oa : Nat) (p0 : Int32) {M M' : me_M} {mc ms : Nat} {rm : Room} {fs : List Value} (hCE : ∀ U, X U → me_ce U) (hrc : rm.cells = mc) (hrs : rm.slots = ms) (hR : rm.frames ≤ 12 ∧ rm.locals ≤ 440) (he : M bo = some (.inr (7, fs))) (ct : vx_Met l yX7_noiseNow (.code yX7_noiseNow cX7_noiseNow 2 (some .int) :: ws_all) rm (me_Pc [.ref bo, .int p0] D tb X z0 M n) me_no (me_XC D z0 M' "java/lang/IndexOutOfBoundsException") mc ms (me_A z0)) : Met l yL_noiseNow (.codeWith yL_noiseNow cL_noiseNow 4 (some .int) [(0, 9, 12, 19)] :: ws_all) ({ frames := 13, cells := mc, slots := ms, locals := 480 } : Room) (me_Pc [.ref bo, .int p0, .ref oa] D tb X z0 M n) (me_Qn D z0 1 M') mc ms (me_A z0) := by
  refine me_openH (by decide) (Nat.le_of_ble_eq_true rfl) ?_
  intro p e s m args below meth c ls hC ht hr hlk hM hl
  have hl : lv_has ls 4 [(0, .ref bo), (1, .int p0), (2, .ref oa)] := hl
  have hx := hC.1
  have hb := hC.2.1
  have hw := hC.2.2.2.2.1
  refine lv_aload_n hx hb dL_noiseNow_0 rfl (lv_at hl 2 rfl) ?_
  refine lv_iconst (v := 0) hx hb dL_noiseNow_1 (by decide) ?_
  refine lv_aload_n hx hb dL_noiseNow_2 rfl (lv_at hl 0 rfl) ?_
  refine lv_iload_n hx hb dL_noiseNow_3 rfl (lv_at hl 1 rfl) ?_
  refine me_xcat (E0 := "java/lang/IndexOutOfBoundsException") (pre := []) (x := ⟨0, 9, 12, 19⟩) (suf := []) (As := [.int p0]) (rest := [.int 0, .ref oa]) hC hl.1 hM ct (kv_L_26 hw hrc hrs ⟨by show rm.frames + 1 ≤ 13; omega, by show 8 + (2 + 11) + rm.locals ≤ 480; omega⟩) rfl rfl he rfl (Nat.le_of_ble_eq_true rfl) dL_noiseNow_4 ⟨by show 0 + mc ≤ mc; omega, by show 0 + ms ≤ ms; omega⟩ ht (fun z h => absurd h List.not_mem_nil) (by decide) (by decide) w_739 (va_Nw.use (by decide +kernel) (hCE s hC.2.2.2.2.2.1.2).2.1) (fun H locs n1 q hM => ?_)
  refine lv_astore_n (lv' := [(3, .ref q), (0, .ref bo), (1, .int p0), (2, .ref oa)]) hx hb dL_noiseNow_12 rfl hl (by decide) rfl (fun ls hl => ?_)
  refine lv_iconst (v := 1) hx hb dL_noiseNow_13 (by decide) ?_
  refine W.widen (k := mc) (n := ms) (by omega) (by omega) ?_
  exact me_nret hC hr hlk hM rfl rfl dL_noiseNow_14
set_option maxHeartbeats 4000000 in
theorem c_L_noiseAt (l : Launch) (D : va_G) (tb : Nat → ClassId) (X : State → Prop) (z0 n : Nat) (bo oa : Nat) (p0 p1 : Int32) {M M' : me_M} {mc ms : Nat} {rm : Room} {n' : Nat} {r : Int32} {f : Nat → Int64} {fs : List Value} (hrc : rm.cells = mc) (hrs : rm.slots = ms) (hR : rm.frames ≤ 12 ∧ rm.locals ≤ 440) (he : M bo = some (.inr (7, fs))) (ho : M' oa = some (.inl (tb 3, 1, .inr (.inl f)))) (ct : Met l yX7_noiseAt (.code yX7_noiseAt cX7_noiseAt 3 (some .int) :: ws_all) rm (me_Pc [.ref bo, .int p0, .int p1] D tb X z0 M n) (me_Qi D z0 r M' n') mc ms (me_A z0)) : Met l yL_noiseAt (.codeWith yL_noiseAt cL_noiseAt 5 (some .int) [(0, 10, 13, 19), (0, 10, 17, 21)] :: ws_all) ({ frames := 13, cells := mc, slots := ms, locals := 480 } : Room) (me_Pc [.ref bo, .int p0, .int p1, .ref oa] D tb X z0 M n) (me_Qn D z0 0 (me_up M' oa (.inl (tb 3, 1, .inr (.inl (vp_updL f 0 r.toInt64)))))) mc ms (me_A z0) := by
  refine me_openH (by decide) (Nat.le_of_ble_eq_true rfl) ?_
  intro p e s m args below meth c ls hC ht hr hlk hM hl
  have hl : lv_has ls 5 [(0, .ref bo), (1, .int p0), (2, .int p1), (3, .ref oa)] := hl
  have hx := hC.1
  have hb := hC.2.1
  have hw := hC.2.2.2.2.1
  refine lv_aload_n hx hb dL_noiseAt_0 rfl (lv_at hl 3 rfl) ?_
  refine lv_iconst (v := 0) hx hb dL_noiseAt_1 (by decide) ?_
  refine lv_aload_n hx hb dL_noiseAt_2 rfl (lv_at hl 0 rfl) ?_
  refine lv_iload_n hx hb dL_noiseAt_3 rfl (lv_at hl 1 rfl) ?_
  refine lv_iload_n hx hb dL_noiseAt_4 rfl (lv_at hl 2 rfl) ?_
  refine me_callVi (As := [.int p0, .int p1]) (rest := [.int 0, .ref oa]) hC hl.1 hM ct (kv_L_29 hw hrc hrs ⟨by show rm.frames + 1 ≤ 13; omega, by show 8 + (3 + 11) + rm.locals ≤ 480; omega⟩) rfl rfl he rfl (Nat.le_of_ble_eq_true rfl) dL_noiseAt_5 ⟨by show 0 + mc ≤ mc; omega, by show 0 + ms ≤ ms; omega⟩ (fun H locs hM => ?_)
  refine lv_i2l hx hb dL_noiseAt_8 rfl ?_
  refine me_last (k := 0) (M2 := me_up M' oa (.inl (tb 3, 1, .inr (.inl (vp_updL f 0 r.toInt64))))) hC hM ho rfl (by decide) (by decide) rfl dL_noiseAt_9 (fun H locs hM => ?_)
  refine lv_goto (tgt := 21) hx hb dL_noiseAt_10 (by decide) ?_
  refine lv_iconst (v := 0) hx hb dL_noiseAt_21 (by decide) ?_
  refine W.widen (k := mc) (n := ms) (by omega) (by omega) ?_
  exact me_nret hC hr hlk hM rfl rfl dL_noiseAt_22
set_option maxHeartbeats 4000000 in
theorem c_L_noiseAt_x1 (l : Launch) (D : va_G) (tb : Nat → ClassId) (X : State → Prop) (z0 n : Nat) (bo oa : Nat) (p0 p1 : Int32) {M M' : me_M} {mc ms : Nat} {rm : Room} {fs : List Value} (hCE : ∀ U, X U → me_ce U) (hrc : rm.cells = mc) (hrs : rm.slots = ms) (hR : rm.frames ≤ 12 ∧ rm.locals ≤ 440) (he : M bo = some (.inr (7, fs))) (ct : vx_Met l yX7_noiseAt (.code yX7_noiseAt cX7_noiseAt 3 (some .int) :: ws_all) rm (me_Pc [.ref bo, .int p0, .int p1] D tb X z0 M n) me_no (me_XC D z0 M' "java/lang/IndexOutOfBoundsException") mc ms (me_A z0)) : Met l yL_noiseAt (.codeWith yL_noiseAt cL_noiseAt 5 (some .int) [(0, 10, 13, 19), (0, 10, 17, 21)] :: ws_all) ({ frames := 13, cells := mc, slots := ms, locals := 480 } : Room) (me_Pc [.ref bo, .int p0, .int p1, .ref oa] D tb X z0 M n) (me_Qn D z0 1 M') mc ms (me_A z0) := by
  refine me_openH (by decide) (Nat.le_of_ble_eq_true rfl) ?_
  intro p e s m args below meth c ls hC ht hr hlk hM hl
  have hl : lv_has ls 5 [(0, .ref bo), (1, .int p0), (2, .int p1), (3, .ref oa)] := hl
  have hx := hC.1
  have hb := hC.2.1
  have hw := hC.2.2.2.2.1
  refine lv_aload_n hx hb dL_noiseAt_0 rfl (lv_at hl 3 rfl) ?_
  refine lv_iconst (v := 0) hx hb dL_noiseAt_1 (by decide) ?_
  refine lv_aload_n hx hb dL_noiseAt_2 rfl (lv_at hl 0 rfl) ?_
  refine lv_iload_n hx hb dL_noiseAt_3 rfl (lv_at hl 1 rfl) ?_
  refine lv_iload_n hx hb dL_noiseAt_4 rfl (lv_at hl 2 rfl) ?_
  refine me_xcat (E0 := "java/lang/IndexOutOfBoundsException") (pre := []) (x := ⟨0, 10, 13, 19⟩) (suf := [⟨0, 10, 17, 21⟩]) (As := [.int p0, .int p1]) (rest := [.int 0, .ref oa]) hC hl.1 hM ct (kv_L_29 hw hrc hrs ⟨by show rm.frames + 1 ≤ 13; omega, by show 8 + (3 + 11) + rm.locals ≤ 480; omega⟩) rfl rfl he rfl (Nat.le_of_ble_eq_true rfl) dL_noiseAt_5 ⟨by show 0 + mc ≤ mc; omega, by show 0 + ms ≤ ms; omega⟩ ht (fun z h => absurd h List.not_mem_nil) (by decide) (by decide) w_739 (va_Nw.use (by decide +kernel) (hCE s hC.2.2.2.2.2.1.2).2.1) (fun H locs n1 q hM => ?_)
  refine lv_astore (lv' := [(4, .ref q), (0, .ref bo), (1, .int p0), (2, .int p1), (3, .ref oa)]) hx hb dL_noiseAt_13 hl (by decide) rfl (fun ls hl => ?_)
  refine lv_iconst (v := 1) hx hb dL_noiseAt_15 (by decide) ?_
  refine W.widen (k := mc) (n := ms) (by omega) (by omega) ?_
  exact me_nret hC hr hlk hM rfl rfl dL_noiseAt_16
set_option maxHeartbeats 4000000 in
theorem c_L_noiseAt_x2 (l : Launch) (D : va_G) (tb : Nat → ClassId) (X : State → Prop) (z0 n : Nat) (bo oa : Nat) (p0 p1 : Int32) {M M' : me_M} {mc ms : Nat} {rm : Room} {fs : List Value} (hCE : ∀ U, X U → me_ce U) (hrc : rm.cells = mc) (hrs : rm.slots = ms) (hR : rm.frames ≤ 12 ∧ rm.locals ≤ 440) (he : M bo = some (.inr (7, fs))) (ct : vx_Met l yX7_noiseAt (.code yX7_noiseAt cX7_noiseAt 3 (some .int) :: ws_all) rm (me_Pc [.ref bo, .int p0, .int p1] D tb X z0 M n) me_no (me_XC D z0 M' "java/lang/IllegalArgumentException") mc ms (me_A z0)) : Met l yL_noiseAt (.codeWith yL_noiseAt cL_noiseAt 5 (some .int) [(0, 10, 13, 19), (0, 10, 17, 21)] :: ws_all) ({ frames := 13, cells := mc, slots := ms, locals := 480 } : Room) (me_Pc [.ref bo, .int p0, .int p1, .ref oa] D tb X z0 M n) (me_Qn D z0 2 M') mc ms (me_A z0) := by
  refine me_openH (by decide) (Nat.le_of_ble_eq_true rfl) ?_
  intro p e s m args below meth c ls hC ht hr hlk hM hl
  have hl : lv_has ls 5 [(0, .ref bo), (1, .int p0), (2, .int p1), (3, .ref oa)] := hl
  have hx := hC.1
  have hb := hC.2.1
  have hw := hC.2.2.2.2.1
  refine lv_aload_n hx hb dL_noiseAt_0 rfl (lv_at hl 3 rfl) ?_
  refine lv_iconst (v := 0) hx hb dL_noiseAt_1 (by decide) ?_
  refine lv_aload_n hx hb dL_noiseAt_2 rfl (lv_at hl 0 rfl) ?_
  refine lv_iload_n hx hb dL_noiseAt_3 rfl (lv_at hl 1 rfl) ?_
  refine lv_iload_n hx hb dL_noiseAt_4 rfl (lv_at hl 2 rfl) ?_
  refine me_xcat (E0 := "java/lang/IllegalArgumentException") (pre := [⟨0, 10, 13, 19⟩]) (x := ⟨0, 10, 17, 21⟩) (suf := []) (As := [.int p0, .int p1]) (rest := [.int 0, .ref oa]) hC hl.1 hM ct (kv_L_29 hw hrc hrs ⟨by show rm.frames + 1 ≤ 13; omega, by show 8 + (3 + 11) + rm.locals ≤ 480; omega⟩) rfl rfl he rfl (Nat.le_of_ble_eq_true rfl) dL_noiseAt_5 ⟨by show 0 + mc ≤ mc; omega, by show 0 + ms ≤ ms; omega⟩ ht (fun z h => by
    simp only [List.mem_cons, List.not_mem_nil, or_false] at h
    subst h
    exact Or.inr ⟨by decide, "java/lang/IndexOutOfBoundsException", hw _ w_739, (hCE s hC.2.2.2.2.2.1.2).2.2.2.1⟩) (by decide) (by decide) w_740 (va_Nw.use (by decide +kernel) (hCE s hC.2.2.2.2.2.1.2).2.2.1) (fun H locs n1 q hM => ?_)
  refine lv_astore (lv' := [(4, .ref q), (0, .ref bo), (1, .int p0), (2, .int p1), (3, .ref oa)]) hx hb dL_noiseAt_17 hl (by decide) rfl (fun ls hl => ?_)
  refine lv_iconst (v := 2) hx hb dL_noiseAt_19 (by decide) ?_
  refine W.widen (k := mc) (n := ms) (by omega) (by omega) ?_
  exact me_nret hC hr hlk hM rfl rfl dL_noiseAt_20
set_option maxHeartbeats 4000000 in
theorem c_L_noiseTotal (l : Launch) (D : va_G) (tb : Nat → ClassId) (X : State → Prop) (z0 n : Nat) (bo oa : Nat) (p0 : Int32) {M M' : me_M} {mc ms : Nat} {rm : Room} {n' : Nat} {r : Int32} {f : Nat → Int64} {fs : List Value} (hrc : rm.cells = mc) (hrs : rm.slots = ms) (hR : rm.frames ≤ 12 ∧ rm.locals ≤ 440) (he : M bo = some (.inr (7, fs))) (ho : M' oa = some (.inl (tb 3, 1, .inr (.inl f)))) (ct : Met l yX7_noiseTotal (.code yX7_noiseTotal cX7_noiseTotal 2 (some .int) :: ws_all) rm (me_Pc [.ref bo, .int p0] D tb X z0 M n) (me_Qi D z0 r M' n') mc ms (me_A z0)) : Met l yL_noiseTotal (.codeWith yL_noiseTotal cL_noiseTotal 4 (some .int) [(0, 9, 12, 19)] :: ws_all) ({ frames := 13, cells := mc, slots := ms, locals := 480 } : Room) (me_Pc [.ref bo, .int p0, .ref oa] D tb X z0 M n) (me_Qn D z0 0 (me_up M' oa (.inl (tb 3, 1, .inr (.inl (vp_updL f 0 r.toInt64)))))) mc ms (me_A z0) := by
  refine me_openH (by decide) (Nat.le_of_ble_eq_true rfl) ?_
  intro p e s m args below meth c ls hC ht hr hlk hM hl
  have hl : lv_has ls 4 [(0, .ref bo), (1, .int p0), (2, .ref oa)] := hl
  have hx := hC.1
  have hb := hC.2.1
  have hw := hC.2.2.2.2.1
  refine lv_aload_n hx hb dL_noiseTotal_0 rfl (lv_at hl 2 rfl) ?_
  refine lv_iconst (v := 0) hx hb dL_noiseTotal_1 (by decide) ?_
  refine lv_aload_n hx hb dL_noiseTotal_2 rfl (lv_at hl 0 rfl) ?_
  refine lv_iload_n hx hb dL_noiseTotal_3 rfl (lv_at hl 1 rfl) ?_
  refine me_callVi (As := [.int p0]) (rest := [.int 0, .ref oa]) hC hl.1 hM ct (kv_L_33 hw hrc hrs ⟨by show rm.frames + 1 ≤ 13; omega, by show 8 + (2 + 11) + rm.locals ≤ 480; omega⟩) rfl rfl he rfl (Nat.le_of_ble_eq_true rfl) dL_noiseTotal_4 ⟨by show 0 + mc ≤ mc; omega, by show 0 + ms ≤ ms; omega⟩ (fun H locs hM => ?_)
  refine lv_i2l hx hb dL_noiseTotal_7 rfl ?_
  refine me_last (k := 0) (M2 := me_up M' oa (.inl (tb 3, 1, .inr (.inl (vp_updL f 0 r.toInt64))))) hC hM ho rfl (by decide) (by decide) rfl dL_noiseTotal_8 (fun H locs hM => ?_)
  refine lv_goto (tgt := 15) hx hb dL_noiseTotal_9 (by decide) ?_
  refine lv_iconst (v := 0) hx hb dL_noiseTotal_15 (by decide) ?_
  refine W.widen (k := mc) (n := ms) (by omega) (by omega) ?_
  exact me_nret hC hr hlk hM rfl rfl dL_noiseTotal_16
set_option maxHeartbeats 4000000 in
theorem c_L_noiseTotal_x1 (l : Launch) (D : va_G) (tb : Nat → ClassId) (X : State → Prop) (z0 n : Nat) (bo oa : Nat) (p0 : Int32) {M M' : me_M} {mc ms : Nat} {rm : Room} {fs : List Value} (hCE : ∀ U, X U → me_ce U) (hrc : rm.cells = mc) (hrs : rm.slots = ms) (hR : rm.frames ≤ 12 ∧ rm.locals ≤ 440) (he : M bo = some (.inr (7, fs))) (ct : vx_Met l yX7_noiseTotal (.code yX7_noiseTotal cX7_noiseTotal 2 (some .int) :: ws_all) rm (me_Pc [.ref bo, .int p0] D tb X z0 M n) me_no (me_XC D z0 M' "java/lang/IndexOutOfBoundsException") mc ms (me_A z0)) : Met l yL_noiseTotal (.codeWith yL_noiseTotal cL_noiseTotal 4 (some .int) [(0, 9, 12, 19)] :: ws_all) ({ frames := 13, cells := mc, slots := ms, locals := 480 } : Room) (me_Pc [.ref bo, .int p0, .ref oa] D tb X z0 M n) (me_Qn D z0 1 M') mc ms (me_A z0) := by
  refine me_openH (by decide) (Nat.le_of_ble_eq_true rfl) ?_
  intro p e s m args below meth c ls hC ht hr hlk hM hl
  have hl : lv_has ls 4 [(0, .ref bo), (1, .int p0), (2, .ref oa)] := hl
  have hx := hC.1
  have hb := hC.2.1
  have hw := hC.2.2.2.2.1
  refine lv_aload_n hx hb dL_noiseTotal_0 rfl (lv_at hl 2 rfl) ?_
  refine lv_iconst (v := 0) hx hb dL_noiseTotal_1 (by decide) ?_
  refine lv_aload_n hx hb dL_noiseTotal_2 rfl (lv_at hl 0 rfl) ?_
  refine lv_iload_n hx hb dL_noiseTotal_3 rfl (lv_at hl 1 rfl) ?_
  refine me_xcat (E0 := "java/lang/IndexOutOfBoundsException") (pre := []) (x := ⟨0, 9, 12, 19⟩) (suf := []) (As := [.int p0]) (rest := [.int 0, .ref oa]) hC hl.1 hM ct (kv_L_33 hw hrc hrs ⟨by show rm.frames + 1 ≤ 13; omega, by show 8 + (2 + 11) + rm.locals ≤ 480; omega⟩) rfl rfl he rfl (Nat.le_of_ble_eq_true rfl) dL_noiseTotal_4 ⟨by show 0 + mc ≤ mc; omega, by show 0 + ms ≤ ms; omega⟩ ht (fun z h => absurd h List.not_mem_nil) (by decide) (by decide) w_739 (va_Nw.use (by decide +kernel) (hCE s hC.2.2.2.2.2.1.2).2.1) (fun H locs n1 q hM => ?_)
  refine lv_astore_n (lv' := [(3, .ref q), (0, .ref bo), (1, .int p0), (2, .ref oa)]) hx hb dL_noiseTotal_12 rfl hl (by decide) rfl (fun ls hl => ?_)
  refine lv_iconst (v := 1) hx hb dL_noiseTotal_13 (by decide) ?_
  refine W.widen (k := mc) (n := ms) (by omega) (by omega) ?_
  exact me_nret hC hr hlk hM rfl rfl dL_noiseTotal_14
set_option maxHeartbeats 4000000 in
theorem c_L_quietHours (l : Launch) (D : va_G) (tb : Nat → ClassId) (X : State → Prop) (z0 n : Nat) (bo oa : Nat) (p0 : Int32) {M M' : me_M} {mc ms : Nat} {rm : Room} {n' : Nat} {r : Int32} {f : Nat → Int64} {fs : List Value} (hrc : rm.cells = mc) (hrs : rm.slots = ms) (hR : rm.frames ≤ 12 ∧ rm.locals ≤ 440) (he : M bo = some (.inr (7, fs))) (ho : M' oa = some (.inl (tb 3, 1, .inr (.inl f)))) (ct : Met l yX7_quietHours (.code yX7_quietHours cX7_quietHours 2 (some .int) :: ws_all) rm (me_Pc [.ref bo, .int p0] D tb X z0 M n) (me_Qi D z0 r M' n') mc ms (me_A z0)) : Met l yL_quietHours (.codeWith yL_quietHours cL_quietHours 4 (some .int) [(0, 9, 12, 19)] :: ws_all) ({ frames := 13, cells := mc, slots := ms, locals := 480 } : Room) (me_Pc [.ref bo, .int p0, .ref oa] D tb X z0 M n) (me_Qn D z0 0 (me_up M' oa (.inl (tb 3, 1, .inr (.inl (vp_updL f 0 r.toInt64)))))) mc ms (me_A z0) := by
  refine me_openH (by decide) (Nat.le_of_ble_eq_true rfl) ?_
  intro p e s m args below meth c ls hC ht hr hlk hM hl
  have hl : lv_has ls 4 [(0, .ref bo), (1, .int p0), (2, .ref oa)] := hl
  have hx := hC.1
  have hb := hC.2.1
  have hw := hC.2.2.2.2.1
  refine lv_aload_n hx hb dL_quietHours_0 rfl (lv_at hl 2 rfl) ?_
  refine lv_iconst (v := 0) hx hb dL_quietHours_1 (by decide) ?_
  refine lv_aload_n hx hb dL_quietHours_2 rfl (lv_at hl 0 rfl) ?_
  refine lv_iload_n hx hb dL_quietHours_3 rfl (lv_at hl 1 rfl) ?_
  refine me_callVi (As := [.int p0]) (rest := [.int 0, .ref oa]) hC hl.1 hM ct (kv_L_36 hw hrc hrs ⟨by show rm.frames + 1 ≤ 13; omega, by show 8 + (2 + 11) + rm.locals ≤ 480; omega⟩) rfl rfl he rfl (Nat.le_of_ble_eq_true rfl) dL_quietHours_4 ⟨by show 0 + mc ≤ mc; omega, by show 0 + ms ≤ ms; omega⟩ (fun H locs hM => ?_)
  refine lv_i2l hx hb dL_quietHours_7 rfl ?_
  refine me_last (k := 0) (M2 := me_up M' oa (.inl (tb 3, 1, .inr (.inl (vp_updL f 0 r.toInt64))))) hC hM ho rfl (by decide) (by decide) rfl dL_quietHours_8 (fun H locs hM => ?_)
  refine lv_goto (tgt := 15) hx hb dL_quietHours_9 (by decide) ?_
  refine lv_iconst (v := 0) hx hb dL_quietHours_15 (by decide) ?_
  refine W.widen (k := mc) (n := ms) (by omega) (by omega) ?_
  exact me_nret hC hr hlk hM rfl rfl dL_quietHours_16
set_option maxHeartbeats 4000000 in
theorem c_L_quietHours_x1 (l : Launch) (D : va_G) (tb : Nat → ClassId) (X : State → Prop) (z0 n : Nat) (bo oa : Nat) (p0 : Int32) {M M' : me_M} {mc ms : Nat} {rm : Room} {fs : List Value} (hCE : ∀ U, X U → me_ce U) (hrc : rm.cells = mc) (hrs : rm.slots = ms) (hR : rm.frames ≤ 12 ∧ rm.locals ≤ 440) (he : M bo = some (.inr (7, fs))) (ct : vx_Met l yX7_quietHours (.code yX7_quietHours cX7_quietHours 2 (some .int) :: ws_all) rm (me_Pc [.ref bo, .int p0] D tb X z0 M n) me_no (me_XC D z0 M' "java/lang/IndexOutOfBoundsException") mc ms (me_A z0)) : Met l yL_quietHours (.codeWith yL_quietHours cL_quietHours 4 (some .int) [(0, 9, 12, 19)] :: ws_all) ({ frames := 13, cells := mc, slots := ms, locals := 480 } : Room) (me_Pc [.ref bo, .int p0, .ref oa] D tb X z0 M n) (me_Qn D z0 1 M') mc ms (me_A z0) := by
  refine me_openH (by decide) (Nat.le_of_ble_eq_true rfl) ?_
  intro p e s m args below meth c ls hC ht hr hlk hM hl
  have hl : lv_has ls 4 [(0, .ref bo), (1, .int p0), (2, .ref oa)] := hl
  have hx := hC.1
  have hb := hC.2.1
  have hw := hC.2.2.2.2.1
  refine lv_aload_n hx hb dL_quietHours_0 rfl (lv_at hl 2 rfl) ?_
  refine lv_iconst (v := 0) hx hb dL_quietHours_1 (by decide) ?_
  refine lv_aload_n hx hb dL_quietHours_2 rfl (lv_at hl 0 rfl) ?_
  refine lv_iload_n hx hb dL_quietHours_3 rfl (lv_at hl 1 rfl) ?_
  refine me_xcat (E0 := "java/lang/IndexOutOfBoundsException") (pre := []) (x := ⟨0, 9, 12, 19⟩) (suf := []) (As := [.int p0]) (rest := [.int 0, .ref oa]) hC hl.1 hM ct (kv_L_36 hw hrc hrs ⟨by show rm.frames + 1 ≤ 13; omega, by show 8 + (2 + 11) + rm.locals ≤ 480; omega⟩) rfl rfl he rfl (Nat.le_of_ble_eq_true rfl) dL_quietHours_4 ⟨by show 0 + mc ≤ mc; omega, by show 0 + ms ≤ ms; omega⟩ ht (fun z h => absurd h List.not_mem_nil) (by decide) (by decide) w_739 (va_Nw.use (by decide +kernel) (hCE s hC.2.2.2.2.2.1.2).2.1) (fun H locs n1 q hM => ?_)
  refine lv_astore_n (lv' := [(3, .ref q), (0, .ref bo), (1, .int p0), (2, .ref oa)]) hx hb dL_quietHours_12 rfl hl (by decide) rfl (fun ls hl => ?_)
  refine lv_iconst (v := 1) hx hb dL_quietHours_13 (by decide) ?_
  refine W.widen (k := mc) (n := ms) (by omega) (by omega) ?_
  exact me_nret hC hr hlk hM rfl rfl dL_quietHours_14
set_option maxHeartbeats 4000000 in
theorem c_L_streetOf (l : Launch) (D : va_G) (tb : Nat → ClassId) (X : State → Prop) (z0 n : Nat) (bo oa : Nat) (p0 : Int32) {M M' : me_M} {mc ms : Nat} {rm : Room} {n' : Nat} {r : Int32} {f : Nat → Int64} {fs : List Value} (hrc : rm.cells = mc) (hrs : rm.slots = ms) (hR : rm.frames ≤ 12 ∧ rm.locals ≤ 440) (he : M bo = some (.inr (7, fs))) (ho : M' oa = some (.inl (tb 3, 1, .inr (.inl f)))) (ct : Met l yX7_streetOf (.code yX7_streetOf cX7_streetOf 2 (some .int) :: ws_all) rm (me_Pc [.ref bo, .int p0] D tb X z0 M n) (me_Qi D z0 r M' n') mc ms (me_A z0)) : Met l yL_streetOf (.codeWith yL_streetOf cL_streetOf 4 (some .int) [(0, 9, 12, 19)] :: ws_all) ({ frames := 13, cells := mc, slots := ms, locals := 480 } : Room) (me_Pc [.ref bo, .int p0, .ref oa] D tb X z0 M n) (me_Qn D z0 0 (me_up M' oa (.inl (tb 3, 1, .inr (.inl (vp_updL f 0 r.toInt64)))))) mc ms (me_A z0) := by
  refine me_openH (by decide) (Nat.le_of_ble_eq_true rfl) ?_
  intro p e s m args below meth c ls hC ht hr hlk hM hl
  have hl : lv_has ls 4 [(0, .ref bo), (1, .int p0), (2, .ref oa)] := hl
  have hx := hC.1
  have hb := hC.2.1
  have hw := hC.2.2.2.2.1
  refine lv_aload_n hx hb dL_streetOf_0 rfl (lv_at hl 2 rfl) ?_
  refine lv_iconst (v := 0) hx hb dL_streetOf_1 (by decide) ?_
  refine lv_aload_n hx hb dL_streetOf_2 rfl (lv_at hl 0 rfl) ?_
  refine lv_iload_n hx hb dL_streetOf_3 rfl (lv_at hl 1 rfl) ?_
  refine me_callVi (As := [.int p0]) (rest := [.int 0, .ref oa]) hC hl.1 hM ct (kv_L_39 hw hrc hrs ⟨by show rm.frames + 1 ≤ 13; omega, by show 8 + (2 + 11) + rm.locals ≤ 480; omega⟩) rfl rfl he rfl (Nat.le_of_ble_eq_true rfl) dL_streetOf_4 ⟨by show 0 + mc ≤ mc; omega, by show 0 + ms ≤ ms; omega⟩ (fun H locs hM => ?_)
  refine lv_i2l hx hb dL_streetOf_7 rfl ?_
  refine me_last (k := 0) (M2 := me_up M' oa (.inl (tb 3, 1, .inr (.inl (vp_updL f 0 r.toInt64))))) hC hM ho rfl (by decide) (by decide) rfl dL_streetOf_8 (fun H locs hM => ?_)
  refine lv_goto (tgt := 15) hx hb dL_streetOf_9 (by decide) ?_
  refine lv_iconst (v := 0) hx hb dL_streetOf_15 (by decide) ?_
  refine W.widen (k := mc) (n := ms) (by omega) (by omega) ?_
  exact me_nret hC hr hlk hM rfl rfl dL_streetOf_16
set_option maxHeartbeats 4000000 in
theorem c_L_streetOf_x1 (l : Launch) (D : va_G) (tb : Nat → ClassId) (X : State → Prop) (z0 n : Nat) (bo oa : Nat) (p0 : Int32) {M M' : me_M} {mc ms : Nat} {rm : Room} {fs : List Value} (hCE : ∀ U, X U → me_ce U) (hrc : rm.cells = mc) (hrs : rm.slots = ms) (hR : rm.frames ≤ 12 ∧ rm.locals ≤ 440) (he : M bo = some (.inr (7, fs))) (ct : vx_Met l yX7_streetOf (.code yX7_streetOf cX7_streetOf 2 (some .int) :: ws_all) rm (me_Pc [.ref bo, .int p0] D tb X z0 M n) me_no (me_XC D z0 M' "java/lang/IndexOutOfBoundsException") mc ms (me_A z0)) : Met l yL_streetOf (.codeWith yL_streetOf cL_streetOf 4 (some .int) [(0, 9, 12, 19)] :: ws_all) ({ frames := 13, cells := mc, slots := ms, locals := 480 } : Room) (me_Pc [.ref bo, .int p0, .ref oa] D tb X z0 M n) (me_Qn D z0 1 M') mc ms (me_A z0) := by
  refine me_openH (by decide) (Nat.le_of_ble_eq_true rfl) ?_
  intro p e s m args below meth c ls hC ht hr hlk hM hl
  have hl : lv_has ls 4 [(0, .ref bo), (1, .int p0), (2, .ref oa)] := hl
  have hx := hC.1
  have hb := hC.2.1
  have hw := hC.2.2.2.2.1
  refine lv_aload_n hx hb dL_streetOf_0 rfl (lv_at hl 2 rfl) ?_
  refine lv_iconst (v := 0) hx hb dL_streetOf_1 (by decide) ?_
  refine lv_aload_n hx hb dL_streetOf_2 rfl (lv_at hl 0 rfl) ?_
  refine lv_iload_n hx hb dL_streetOf_3 rfl (lv_at hl 1 rfl) ?_
  refine me_xcat (E0 := "java/lang/IndexOutOfBoundsException") (pre := []) (x := ⟨0, 9, 12, 19⟩) (suf := []) (As := [.int p0]) (rest := [.int 0, .ref oa]) hC hl.1 hM ct (kv_L_39 hw hrc hrs ⟨by show rm.frames + 1 ≤ 13; omega, by show 8 + (2 + 11) + rm.locals ≤ 480; omega⟩) rfl rfl he rfl (Nat.le_of_ble_eq_true rfl) dL_streetOf_4 ⟨by show 0 + mc ≤ mc; omega, by show 0 + ms ≤ ms; omega⟩ ht (fun z h => absurd h List.not_mem_nil) (by decide) (by decide) w_739 (va_Nw.use (by decide +kernel) (hCE s hC.2.2.2.2.2.1.2).2.1) (fun H locs n1 q hM => ?_)
  refine lv_astore_n (lv' := [(3, .ref q), (0, .ref bo), (1, .int p0), (2, .ref oa)]) hx hb dL_streetOf_12 rfl hl (by decide) rfl (fun ls hl => ?_)
  refine lv_iconst (v := 1) hx hb dL_streetOf_13 (by decide) ?_
  refine W.widen (k := mc) (n := ms) (by omega) (by omega) ?_
  exact me_nret hC hr hlk hM rfl rfl dL_streetOf_14
set_option maxHeartbeats 4000000 in
theorem c_L_illnessOf (l : Launch) (D : va_G) (tb : Nat → ClassId) (X : State → Prop) (z0 n : Nat) (bo oa : Nat) (p0 : Int32) {M M' : me_M} {mc ms : Nat} {rm : Room} {n' : Nat} {r : Int32} {f : Nat → Int64} {fs : List Value} (hrc : rm.cells = mc) (hrs : rm.slots = ms) (hR : rm.frames ≤ 12 ∧ rm.locals ≤ 440) (he : M bo = some (.inr (7, fs))) (ho : M' oa = some (.inl (tb 3, 1, .inr (.inl f)))) (ct : Met l yX7_illnessOf (.code yX7_illnessOf cX7_illnessOf 2 (some .int) :: ws_all) rm (me_Pc [.ref bo, .int p0] D tb X z0 M n) (me_Qi D z0 r M' n') mc ms (me_A z0)) : Met l yL_illnessOf (.codeWith yL_illnessOf cL_illnessOf 4 (some .int) [(0, 9, 12, 19)] :: ws_all) ({ frames := 13, cells := mc, slots := ms, locals := 480 } : Room) (me_Pc [.ref bo, .int p0, .ref oa] D tb X z0 M n) (me_Qn D z0 0 (me_up M' oa (.inl (tb 3, 1, .inr (.inl (vp_updL f 0 r.toInt64)))))) mc ms (me_A z0) := by
  refine me_openH (by decide) (Nat.le_of_ble_eq_true rfl) ?_
  intro p e s m args below meth c ls hC ht hr hlk hM hl
  have hl : lv_has ls 4 [(0, .ref bo), (1, .int p0), (2, .ref oa)] := hl
  have hx := hC.1
  have hb := hC.2.1
  have hw := hC.2.2.2.2.1
  refine lv_aload_n hx hb dL_illnessOf_0 rfl (lv_at hl 2 rfl) ?_
  refine lv_iconst (v := 0) hx hb dL_illnessOf_1 (by decide) ?_
  refine lv_aload_n hx hb dL_illnessOf_2 rfl (lv_at hl 0 rfl) ?_
  refine lv_iload_n hx hb dL_illnessOf_3 rfl (lv_at hl 1 rfl) ?_
  refine me_callVi (As := [.int p0]) (rest := [.int 0, .ref oa]) hC hl.1 hM ct (kv_L_42 hw hrc hrs ⟨by show rm.frames + 1 ≤ 13; omega, by show 8 + (2 + 11) + rm.locals ≤ 480; omega⟩) rfl rfl he rfl (Nat.le_of_ble_eq_true rfl) dL_illnessOf_4 ⟨by show 0 + mc ≤ mc; omega, by show 0 + ms ≤ ms; omega⟩ (fun H locs hM => ?_)
  refine lv_i2l hx hb dL_illnessOf_7 rfl ?_
  refine me_last (k := 0) (M2 := me_up M' oa (.inl (tb 3, 1, .inr (.inl (vp_updL f 0 r.toInt64))))) hC hM ho rfl (by decide) (by decide) rfl dL_illnessOf_8 (fun H locs hM => ?_)
  refine lv_goto (tgt := 15) hx hb dL_illnessOf_9 (by decide) ?_
  refine lv_iconst (v := 0) hx hb dL_illnessOf_15 (by decide) ?_
  refine W.widen (k := mc) (n := ms) (by omega) (by omega) ?_
  exact me_nret hC hr hlk hM rfl rfl dL_illnessOf_16
set_option maxHeartbeats 4000000 in
theorem c_L_illnessOf_x1 (l : Launch) (D : va_G) (tb : Nat → ClassId) (X : State → Prop) (z0 n : Nat) (bo oa : Nat) (p0 : Int32) {M M' : me_M} {mc ms : Nat} {rm : Room} {fs : List Value} (hCE : ∀ U, X U → me_ce U) (hrc : rm.cells = mc) (hrs : rm.slots = ms) (hR : rm.frames ≤ 12 ∧ rm.locals ≤ 440) (he : M bo = some (.inr (7, fs))) (ct : vx_Met l yX7_illnessOf (.code yX7_illnessOf cX7_illnessOf 2 (some .int) :: ws_all) rm (me_Pc [.ref bo, .int p0] D tb X z0 M n) me_no (me_XC D z0 M' "java/lang/IndexOutOfBoundsException") mc ms (me_A z0)) : Met l yL_illnessOf (.codeWith yL_illnessOf cL_illnessOf 4 (some .int) [(0, 9, 12, 19)] :: ws_all) ({ frames := 13, cells := mc, slots := ms, locals := 480 } : Room) (me_Pc [.ref bo, .int p0, .ref oa] D tb X z0 M n) (me_Qn D z0 1 M') mc ms (me_A z0) := by
  refine me_openH (by decide) (Nat.le_of_ble_eq_true rfl) ?_
  intro p e s m args below meth c ls hC ht hr hlk hM hl
  have hl : lv_has ls 4 [(0, .ref bo), (1, .int p0), (2, .ref oa)] := hl
  have hx := hC.1
  have hb := hC.2.1
  have hw := hC.2.2.2.2.1
  refine lv_aload_n hx hb dL_illnessOf_0 rfl (lv_at hl 2 rfl) ?_
  refine lv_iconst (v := 0) hx hb dL_illnessOf_1 (by decide) ?_
  refine lv_aload_n hx hb dL_illnessOf_2 rfl (lv_at hl 0 rfl) ?_
  refine lv_iload_n hx hb dL_illnessOf_3 rfl (lv_at hl 1 rfl) ?_
  refine me_xcat (E0 := "java/lang/IndexOutOfBoundsException") (pre := []) (x := ⟨0, 9, 12, 19⟩) (suf := []) (As := [.int p0]) (rest := [.int 0, .ref oa]) hC hl.1 hM ct (kv_L_42 hw hrc hrs ⟨by show rm.frames + 1 ≤ 13; omega, by show 8 + (2 + 11) + rm.locals ≤ 480; omega⟩) rfl rfl he rfl (Nat.le_of_ble_eq_true rfl) dL_illnessOf_4 ⟨by show 0 + mc ≤ mc; omega, by show 0 + ms ≤ ms; omega⟩ ht (fun z h => absurd h List.not_mem_nil) (by decide) (by decide) w_739 (va_Nw.use (by decide +kernel) (hCE s hC.2.2.2.2.2.1.2).2.1) (fun H locs n1 q hM => ?_)
  refine lv_astore_n (lv' := [(3, .ref q), (0, .ref bo), (1, .int p0), (2, .ref oa)]) hx hb dL_illnessOf_12 rfl hl (by decide) rfl (fun ls hl => ?_)
  refine lv_iconst (v := 1) hx hb dL_illnessOf_13 (by decide) ?_
  refine W.widen (k := mc) (n := ms) (by omega) (by omega) ?_
  exact me_nret hC hr hlk hM rfl rfl dL_illnessOf_14
set_option maxHeartbeats 4000000 in
theorem c_L_creditOf (l : Launch) (D : va_G) (tb : Nat → ClassId) (X : State → Prop) (z0 n : Nat) (bo oa : Nat) (p0 : Int32) {M M' : me_M} {mc ms : Nat} {rm : Room} {n' : Nat} {r : Int32} {f : Nat → Int64} {fs : List Value} (hrc : rm.cells = mc) (hrs : rm.slots = ms) (hR : rm.frames ≤ 12 ∧ rm.locals ≤ 440) (he : M bo = some (.inr (7, fs))) (ho : M' oa = some (.inl (tb 3, 1, .inr (.inl f)))) (ct : Met l yX7_creditOf (.code yX7_creditOf cX7_creditOf 2 (some .int) :: ws_all) rm (me_Pc [.ref bo, .int p0] D tb X z0 M n) (me_Qi D z0 r M' n') mc ms (me_A z0)) : Met l yL_creditOf (.codeWith yL_creditOf cL_creditOf 4 (some .int) [(0, 9, 12, 19)] :: ws_all) ({ frames := 13, cells := mc, slots := ms, locals := 480 } : Room) (me_Pc [.ref bo, .int p0, .ref oa] D tb X z0 M n) (me_Qn D z0 0 (me_up M' oa (.inl (tb 3, 1, .inr (.inl (vp_updL f 0 r.toInt64)))))) mc ms (me_A z0) := by
  refine me_openH (by decide) (Nat.le_of_ble_eq_true rfl) ?_
  intro p e s m args below meth c ls hC ht hr hlk hM hl
  have hl : lv_has ls 4 [(0, .ref bo), (1, .int p0), (2, .ref oa)] := hl
  have hx := hC.1
  have hb := hC.2.1
  have hw := hC.2.2.2.2.1
  refine lv_aload_n hx hb dL_creditOf_0 rfl (lv_at hl 2 rfl) ?_
  refine lv_iconst (v := 0) hx hb dL_creditOf_1 (by decide) ?_
  refine lv_aload_n hx hb dL_creditOf_2 rfl (lv_at hl 0 rfl) ?_
  refine lv_iload_n hx hb dL_creditOf_3 rfl (lv_at hl 1 rfl) ?_
  refine me_callVi (As := [.int p0]) (rest := [.int 0, .ref oa]) hC hl.1 hM ct (kv_L_45 hw hrc hrs ⟨by show rm.frames + 1 ≤ 13; omega, by show 8 + (2 + 11) + rm.locals ≤ 480; omega⟩) rfl rfl he rfl (Nat.le_of_ble_eq_true rfl) dL_creditOf_4 ⟨by show 0 + mc ≤ mc; omega, by show 0 + ms ≤ ms; omega⟩ (fun H locs hM => ?_)
  refine lv_i2l hx hb dL_creditOf_7 rfl ?_
  refine me_last (k := 0) (M2 := me_up M' oa (.inl (tb 3, 1, .inr (.inl (vp_updL f 0 r.toInt64))))) hC hM ho rfl (by decide) (by decide) rfl dL_creditOf_8 (fun H locs hM => ?_)
  refine lv_goto (tgt := 15) hx hb dL_creditOf_9 (by decide) ?_
  refine lv_iconst (v := 0) hx hb dL_creditOf_15 (by decide) ?_
  refine W.widen (k := mc) (n := ms) (by omega) (by omega) ?_
  exact me_nret hC hr hlk hM rfl rfl dL_creditOf_16
set_option maxHeartbeats 4000000 in
theorem c_L_creditOf_x1 (l : Launch) (D : va_G) (tb : Nat → ClassId) (X : State → Prop) (z0 n : Nat) (bo oa : Nat) (p0 : Int32) {M M' : me_M} {mc ms : Nat} {rm : Room} {fs : List Value} (hCE : ∀ U, X U → me_ce U) (hrc : rm.cells = mc) (hrs : rm.slots = ms) (hR : rm.frames ≤ 12 ∧ rm.locals ≤ 440) (he : M bo = some (.inr (7, fs))) (ct : vx_Met l yX7_creditOf (.code yX7_creditOf cX7_creditOf 2 (some .int) :: ws_all) rm (me_Pc [.ref bo, .int p0] D tb X z0 M n) me_no (me_XC D z0 M' "java/lang/IndexOutOfBoundsException") mc ms (me_A z0)) : Met l yL_creditOf (.codeWith yL_creditOf cL_creditOf 4 (some .int) [(0, 9, 12, 19)] :: ws_all) ({ frames := 13, cells := mc, slots := ms, locals := 480 } : Room) (me_Pc [.ref bo, .int p0, .ref oa] D tb X z0 M n) (me_Qn D z0 1 M') mc ms (me_A z0) := by
  refine me_openH (by decide) (Nat.le_of_ble_eq_true rfl) ?_
  intro p e s m args below meth c ls hC ht hr hlk hM hl
  have hl : lv_has ls 4 [(0, .ref bo), (1, .int p0), (2, .ref oa)] := hl
  have hx := hC.1
  have hb := hC.2.1
  have hw := hC.2.2.2.2.1
  refine lv_aload_n hx hb dL_creditOf_0 rfl (lv_at hl 2 rfl) ?_
  refine lv_iconst (v := 0) hx hb dL_creditOf_1 (by decide) ?_
  refine lv_aload_n hx hb dL_creditOf_2 rfl (lv_at hl 0 rfl) ?_
  refine lv_iload_n hx hb dL_creditOf_3 rfl (lv_at hl 1 rfl) ?_
  refine me_xcat (E0 := "java/lang/IndexOutOfBoundsException") (pre := []) (x := ⟨0, 9, 12, 19⟩) (suf := []) (As := [.int p0]) (rest := [.int 0, .ref oa]) hC hl.1 hM ct (kv_L_45 hw hrc hrs ⟨by show rm.frames + 1 ≤ 13; omega, by show 8 + (2 + 11) + rm.locals ≤ 480; omega⟩) rfl rfl he rfl (Nat.le_of_ble_eq_true rfl) dL_creditOf_4 ⟨by show 0 + mc ≤ mc; omega, by show 0 + ms ≤ ms; omega⟩ ht (fun z h => absurd h List.not_mem_nil) (by decide) (by decide) w_739 (va_Nw.use (by decide +kernel) (hCE s hC.2.2.2.2.2.1.2).2.1) (fun H locs n1 q hM => ?_)
  refine lv_astore_n (lv' := [(3, .ref q), (0, .ref bo), (1, .int p0), (2, .ref oa)]) hx hb dL_creditOf_12 rfl hl (by decide) rfl (fun ls hl => ?_)
  refine lv_iconst (v := 1) hx hb dL_creditOf_13 (by decide) ?_
  refine W.widen (k := mc) (n := ms) (by omega) (by omega) ?_
  exact me_nret hC hr hlk hM rfl rfl dL_creditOf_14
set_option maxHeartbeats 4000000 in
theorem c_L_overdueLoans (l : Launch) (D : va_G) (tb : Nat → ClassId) (X : State → Prop) (z0 n : Nat) (bo oa : Nat) (p0 : Int32) {M M' : me_M} {mc ms : Nat} {rm : Room} {n' : Nat} {r : Int32} {f : Nat → Int64} {fs : List Value} (hrc : rm.cells = mc) (hrs : rm.slots = ms) (hR : rm.frames ≤ 12 ∧ rm.locals ≤ 440) (he : M bo = some (.inr (7, fs))) (ho : M' oa = some (.inl (tb 3, 1, .inr (.inl f)))) (ct : Met l yX7_overdueLoans (.code yX7_overdueLoans cX7_overdueLoans 4 (some .int) :: ws_all) rm (me_Pc [.ref bo, .int p0] D tb X z0 M n) (me_Qi D z0 r M' n') mc ms (me_A z0)) : Met l yL_overdueLoans (.codeWith yL_overdueLoans cL_overdueLoans 4 (some .int) [(0, 9, 12, 19)] :: ws_all) ({ frames := 13, cells := mc, slots := ms, locals := 480 } : Room) (me_Pc [.ref bo, .int p0, .ref oa] D tb X z0 M n) (me_Qn D z0 0 (me_up M' oa (.inl (tb 3, 1, .inr (.inl (vp_updL f 0 r.toInt64)))))) mc ms (me_A z0) := by
  refine me_openH (by decide) (Nat.le_of_ble_eq_true rfl) ?_
  intro p e s m args below meth c ls hC ht hr hlk hM hl
  have hl : lv_has ls 4 [(0, .ref bo), (1, .int p0), (2, .ref oa)] := hl
  have hx := hC.1
  have hb := hC.2.1
  have hw := hC.2.2.2.2.1
  refine lv_aload_n hx hb dL_overdueLoans_0 rfl (lv_at hl 2 rfl) ?_
  refine lv_iconst (v := 0) hx hb dL_overdueLoans_1 (by decide) ?_
  refine lv_aload_n hx hb dL_overdueLoans_2 rfl (lv_at hl 0 rfl) ?_
  refine lv_iload_n hx hb dL_overdueLoans_3 rfl (lv_at hl 1 rfl) ?_
  refine me_callVi (As := [.int p0]) (rest := [.int 0, .ref oa]) hC hl.1 hM ct (kv_L_48 hw hrc hrs ⟨by show rm.frames + 1 ≤ 13; omega, by show 8 + (4 + 11) + rm.locals ≤ 480; omega⟩) rfl rfl he rfl (Nat.le_of_ble_eq_true rfl) dL_overdueLoans_4 ⟨by show 0 + mc ≤ mc; omega, by show 0 + ms ≤ ms; omega⟩ (fun H locs hM => ?_)
  refine lv_i2l hx hb dL_overdueLoans_7 rfl ?_
  refine me_last (k := 0) (M2 := me_up M' oa (.inl (tb 3, 1, .inr (.inl (vp_updL f 0 r.toInt64))))) hC hM ho rfl (by decide) (by decide) rfl dL_overdueLoans_8 (fun H locs hM => ?_)
  refine lv_goto (tgt := 15) hx hb dL_overdueLoans_9 (by decide) ?_
  refine lv_iconst (v := 0) hx hb dL_overdueLoans_15 (by decide) ?_
  refine W.widen (k := mc) (n := ms) (by omega) (by omega) ?_
  exact me_nret hC hr hlk hM rfl rfl dL_overdueLoans_16
set_option maxHeartbeats 4000000 in
theorem c_L_overdueLoans_x1 (l : Launch) (D : va_G) (tb : Nat → ClassId) (X : State → Prop) (z0 n : Nat) (bo oa : Nat) (p0 : Int32) {M M' : me_M} {mc ms : Nat} {rm : Room} {fs : List Value} (hCE : ∀ U, X U → me_ce U) (hrc : rm.cells = mc) (hrs : rm.slots = ms) (hR : rm.frames ≤ 12 ∧ rm.locals ≤ 440) (he : M bo = some (.inr (7, fs))) (ct : vx_Met l yX7_overdueLoans (.code yX7_overdueLoans cX7_overdueLoans 4 (some .int) :: ws_all) rm (me_Pc [.ref bo, .int p0] D tb X z0 M n) me_no (me_XC D z0 M' "java/lang/IndexOutOfBoundsException") mc ms (me_A z0)) : Met l yL_overdueLoans (.codeWith yL_overdueLoans cL_overdueLoans 4 (some .int) [(0, 9, 12, 19)] :: ws_all) ({ frames := 13, cells := mc, slots := ms, locals := 480 } : Room) (me_Pc [.ref bo, .int p0, .ref oa] D tb X z0 M n) (me_Qn D z0 1 M') mc ms (me_A z0) := by
  refine me_openH (by decide) (Nat.le_of_ble_eq_true rfl) ?_
  intro p e s m args below meth c ls hC ht hr hlk hM hl
  have hl : lv_has ls 4 [(0, .ref bo), (1, .int p0), (2, .ref oa)] := hl
  have hx := hC.1
  have hb := hC.2.1
  have hw := hC.2.2.2.2.1
  refine lv_aload_n hx hb dL_overdueLoans_0 rfl (lv_at hl 2 rfl) ?_
  refine lv_iconst (v := 0) hx hb dL_overdueLoans_1 (by decide) ?_
  refine lv_aload_n hx hb dL_overdueLoans_2 rfl (lv_at hl 0 rfl) ?_
  refine lv_iload_n hx hb dL_overdueLoans_3 rfl (lv_at hl 1 rfl) ?_
  refine me_xcat (E0 := "java/lang/IndexOutOfBoundsException") (pre := []) (x := ⟨0, 9, 12, 19⟩) (suf := []) (As := [.int p0]) (rest := [.int 0, .ref oa]) hC hl.1 hM ct (kv_L_48 hw hrc hrs ⟨by show rm.frames + 1 ≤ 13; omega, by show 8 + (4 + 11) + rm.locals ≤ 480; omega⟩) rfl rfl he rfl (Nat.le_of_ble_eq_true rfl) dL_overdueLoans_4 ⟨by show 0 + mc ≤ mc; omega, by show 0 + ms ≤ ms; omega⟩ ht (fun z h => absurd h List.not_mem_nil) (by decide) (by decide) w_739 (va_Nw.use (by decide +kernel) (hCE s hC.2.2.2.2.2.1.2).2.1) (fun H locs n1 q hM => ?_)
  refine lv_astore_n (lv' := [(3, .ref q), (0, .ref bo), (1, .int p0), (2, .ref oa)]) hx hb dL_overdueLoans_12 rfl hl (by decide) rfl (fun ls hl => ?_)
  refine lv_iconst (v := 1) hx hb dL_overdueLoans_13 (by decide) ?_
  refine W.widen (k := mc) (n := ms) (by omega) (by omega) ?_
  exact me_nret hC hr hlk hM rfl rfl dL_overdueLoans_14
set_option maxHeartbeats 4000000 in
theorem c_L_borrowerOf (l : Launch) (D : va_G) (tb : Nat → ClassId) (X : State → Prop) (z0 n : Nat) (bo oa : Nat) (p0 : Int32) {M M' : me_M} {mc ms : Nat} {rm : Room} {n' : Nat} {r : Int32} {f : Nat → Int64} {fs : List Value} (hrc : rm.cells = mc) (hrs : rm.slots = ms) (hR : rm.frames ≤ 12 ∧ rm.locals ≤ 440) (he : M bo = some (.inr (7, fs))) (ho : M' oa = some (.inl (tb 3, 1, .inr (.inl f)))) (ct : Met l yX7_borrowerOf (.code yX7_borrowerOf cX7_borrowerOf 2 (some .int) :: ws_all) rm (me_Pc [.ref bo, .int p0] D tb X z0 M n) (me_Qi D z0 r M' n') mc ms (me_A z0)) : Met l yL_borrowerOf (.codeWith yL_borrowerOf cL_borrowerOf 4 (some .int) [(0, 9, 12, 19)] :: ws_all) ({ frames := 13, cells := mc, slots := ms, locals := 480 } : Room) (me_Pc [.ref bo, .int p0, .ref oa] D tb X z0 M n) (me_Qn D z0 0 (me_up M' oa (.inl (tb 3, 1, .inr (.inl (vp_updL f 0 r.toInt64)))))) mc ms (me_A z0) := by
  refine me_openH (by decide) (Nat.le_of_ble_eq_true rfl) ?_
  intro p e s m args below meth c ls hC ht hr hlk hM hl
  have hl : lv_has ls 4 [(0, .ref bo), (1, .int p0), (2, .ref oa)] := hl
  have hx := hC.1
  have hb := hC.2.1
  have hw := hC.2.2.2.2.1
  refine lv_aload_n hx hb dL_borrowerOf_0 rfl (lv_at hl 2 rfl) ?_
  refine lv_iconst (v := 0) hx hb dL_borrowerOf_1 (by decide) ?_
  refine lv_aload_n hx hb dL_borrowerOf_2 rfl (lv_at hl 0 rfl) ?_
  refine lv_iload_n hx hb dL_borrowerOf_3 rfl (lv_at hl 1 rfl) ?_
  refine me_callVi (As := [.int p0]) (rest := [.int 0, .ref oa]) hC hl.1 hM ct (kv_L_51 hw hrc hrs ⟨by show rm.frames + 1 ≤ 13; omega, by show 8 + (2 + 11) + rm.locals ≤ 480; omega⟩) rfl rfl he rfl (Nat.le_of_ble_eq_true rfl) dL_borrowerOf_4 ⟨by show 0 + mc ≤ mc; omega, by show 0 + ms ≤ ms; omega⟩ (fun H locs hM => ?_)
  refine lv_i2l hx hb dL_borrowerOf_7 rfl ?_
  refine me_last (k := 0) (M2 := me_up M' oa (.inl (tb 3, 1, .inr (.inl (vp_updL f 0 r.toInt64))))) hC hM ho rfl (by decide) (by decide) rfl dL_borrowerOf_8 (fun H locs hM => ?_)
  refine lv_goto (tgt := 15) hx hb dL_borrowerOf_9 (by decide) ?_
  refine lv_iconst (v := 0) hx hb dL_borrowerOf_15 (by decide) ?_
  refine W.widen (k := mc) (n := ms) (by omega) (by omega) ?_
  exact me_nret hC hr hlk hM rfl rfl dL_borrowerOf_16
set_option maxHeartbeats 4000000 in
theorem c_L_borrowerOf_x1 (l : Launch) (D : va_G) (tb : Nat → ClassId) (X : State → Prop) (z0 n : Nat) (bo oa : Nat) (p0 : Int32) {M M' : me_M} {mc ms : Nat} {rm : Room} {fs : List Value} (hCE : ∀ U, X U → me_ce U) (hrc : rm.cells = mc) (hrs : rm.slots = ms) (hR : rm.frames ≤ 12 ∧ rm.locals ≤ 440) (he : M bo = some (.inr (7, fs))) (ct : vx_Met l yX7_borrowerOf (.code yX7_borrowerOf cX7_borrowerOf 2 (some .int) :: ws_all) rm (me_Pc [.ref bo, .int p0] D tb X z0 M n) me_no (me_XC D z0 M' "java/lang/IndexOutOfBoundsException") mc ms (me_A z0)) : Met l yL_borrowerOf (.codeWith yL_borrowerOf cL_borrowerOf 4 (some .int) [(0, 9, 12, 19)] :: ws_all) ({ frames := 13, cells := mc, slots := ms, locals := 480 } : Room) (me_Pc [.ref bo, .int p0, .ref oa] D tb X z0 M n) (me_Qn D z0 1 M') mc ms (me_A z0) := by
  refine me_openH (by decide) (Nat.le_of_ble_eq_true rfl) ?_
  intro p e s m args below meth c ls hC ht hr hlk hM hl
  have hl : lv_has ls 4 [(0, .ref bo), (1, .int p0), (2, .ref oa)] := hl
  have hx := hC.1
  have hb := hC.2.1
  have hw := hC.2.2.2.2.1
  refine lv_aload_n hx hb dL_borrowerOf_0 rfl (lv_at hl 2 rfl) ?_
  refine lv_iconst (v := 0) hx hb dL_borrowerOf_1 (by decide) ?_
  refine lv_aload_n hx hb dL_borrowerOf_2 rfl (lv_at hl 0 rfl) ?_
  refine lv_iload_n hx hb dL_borrowerOf_3 rfl (lv_at hl 1 rfl) ?_
  refine me_xcat (E0 := "java/lang/IndexOutOfBoundsException") (pre := []) (x := ⟨0, 9, 12, 19⟩) (suf := []) (As := [.int p0]) (rest := [.int 0, .ref oa]) hC hl.1 hM ct (kv_L_51 hw hrc hrs ⟨by show rm.frames + 1 ≤ 13; omega, by show 8 + (2 + 11) + rm.locals ≤ 480; omega⟩) rfl rfl he rfl (Nat.le_of_ble_eq_true rfl) dL_borrowerOf_4 ⟨by show 0 + mc ≤ mc; omega, by show 0 + ms ≤ ms; omega⟩ ht (fun z h => absurd h List.not_mem_nil) (by decide) (by decide) w_739 (va_Nw.use (by decide +kernel) (hCE s hC.2.2.2.2.2.1.2).2.1) (fun H locs n1 q hM => ?_)
  refine lv_astore_n (lv' := [(3, .ref q), (0, .ref bo), (1, .int p0), (2, .ref oa)]) hx hb dL_borrowerOf_12 rfl hl (by decide) rfl (fun ls hl => ?_)
  refine lv_iconst (v := 1) hx hb dL_borrowerOf_13 (by decide) ?_
  refine W.widen (k := mc) (n := ms) (by omega) (by omega) ?_
  exact me_nret hC hr hlk hM rfl rfl dL_borrowerOf_14
set_option maxHeartbeats 4000000 in
theorem c_L_startOf (l : Launch) (D : va_G) (tb : Nat → ClassId) (X : State → Prop) (z0 n : Nat) (bo oa : Nat) (p0 : Int32) {M M' : me_M} {mc ms : Nat} {rm : Room} {n' : Nat} {r : Int32} {f : Nat → Int64} {fs : List Value} (hrc : rm.cells = mc) (hrs : rm.slots = ms) (hR : rm.frames ≤ 12 ∧ rm.locals ≤ 440) (he : M bo = some (.inr (7, fs))) (ho : M' oa = some (.inl (tb 3, 1, .inr (.inl f)))) (ct : Met l yX7_startOf (.code yX7_startOf cX7_startOf 2 (some .int) :: ws_all) rm (me_Pc [.ref bo, .int p0] D tb X z0 M n) (me_Qi D z0 r M' n') mc ms (me_A z0)) : Met l yL_startOf (.codeWith yL_startOf cL_startOf 4 (some .int) [(0, 9, 12, 19)] :: ws_all) ({ frames := 13, cells := mc, slots := ms, locals := 480 } : Room) (me_Pc [.ref bo, .int p0, .ref oa] D tb X z0 M n) (me_Qn D z0 0 (me_up M' oa (.inl (tb 3, 1, .inr (.inl (vp_updL f 0 r.toInt64)))))) mc ms (me_A z0) := by
  refine me_openH (by decide) (Nat.le_of_ble_eq_true rfl) ?_
  intro p e s m args below meth c ls hC ht hr hlk hM hl
  have hl : lv_has ls 4 [(0, .ref bo), (1, .int p0), (2, .ref oa)] := hl
  have hx := hC.1
  have hb := hC.2.1
  have hw := hC.2.2.2.2.1
  refine lv_aload_n hx hb dL_startOf_0 rfl (lv_at hl 2 rfl) ?_
  refine lv_iconst (v := 0) hx hb dL_startOf_1 (by decide) ?_
  refine lv_aload_n hx hb dL_startOf_2 rfl (lv_at hl 0 rfl) ?_
  refine lv_iload_n hx hb dL_startOf_3 rfl (lv_at hl 1 rfl) ?_
  refine me_callVi (As := [.int p0]) (rest := [.int 0, .ref oa]) hC hl.1 hM ct (kv_L_54 hw hrc hrs ⟨by show rm.frames + 1 ≤ 13; omega, by show 8 + (2 + 11) + rm.locals ≤ 480; omega⟩) rfl rfl he rfl (Nat.le_of_ble_eq_true rfl) dL_startOf_4 ⟨by show 0 + mc ≤ mc; omega, by show 0 + ms ≤ ms; omega⟩ (fun H locs hM => ?_)
  refine lv_i2l hx hb dL_startOf_7 rfl ?_
  refine me_last (k := 0) (M2 := me_up M' oa (.inl (tb 3, 1, .inr (.inl (vp_updL f 0 r.toInt64))))) hC hM ho rfl (by decide) (by decide) rfl dL_startOf_8 (fun H locs hM => ?_)
  refine lv_goto (tgt := 15) hx hb dL_startOf_9 (by decide) ?_
  refine lv_iconst (v := 0) hx hb dL_startOf_15 (by decide) ?_
  refine W.widen (k := mc) (n := ms) (by omega) (by omega) ?_
  exact me_nret hC hr hlk hM rfl rfl dL_startOf_16
set_option maxHeartbeats 4000000 in
theorem c_L_startOf_x1 (l : Launch) (D : va_G) (tb : Nat → ClassId) (X : State → Prop) (z0 n : Nat) (bo oa : Nat) (p0 : Int32) {M M' : me_M} {mc ms : Nat} {rm : Room} {fs : List Value} (hCE : ∀ U, X U → me_ce U) (hrc : rm.cells = mc) (hrs : rm.slots = ms) (hR : rm.frames ≤ 12 ∧ rm.locals ≤ 440) (he : M bo = some (.inr (7, fs))) (ct : vx_Met l yX7_startOf (.code yX7_startOf cX7_startOf 2 (some .int) :: ws_all) rm (me_Pc [.ref bo, .int p0] D tb X z0 M n) me_no (me_XC D z0 M' "java/lang/IndexOutOfBoundsException") mc ms (me_A z0)) : Met l yL_startOf (.codeWith yL_startOf cL_startOf 4 (some .int) [(0, 9, 12, 19)] :: ws_all) ({ frames := 13, cells := mc, slots := ms, locals := 480 } : Room) (me_Pc [.ref bo, .int p0, .ref oa] D tb X z0 M n) (me_Qn D z0 1 M') mc ms (me_A z0) := by
  refine me_openH (by decide) (Nat.le_of_ble_eq_true rfl) ?_
  intro p e s m args below meth c ls hC ht hr hlk hM hl
  have hl : lv_has ls 4 [(0, .ref bo), (1, .int p0), (2, .ref oa)] := hl
  have hx := hC.1
  have hb := hC.2.1
  have hw := hC.2.2.2.2.1
  refine lv_aload_n hx hb dL_startOf_0 rfl (lv_at hl 2 rfl) ?_
  refine lv_iconst (v := 0) hx hb dL_startOf_1 (by decide) ?_
  refine lv_aload_n hx hb dL_startOf_2 rfl (lv_at hl 0 rfl) ?_
  refine lv_iload_n hx hb dL_startOf_3 rfl (lv_at hl 1 rfl) ?_
  refine me_xcat (E0 := "java/lang/IndexOutOfBoundsException") (pre := []) (x := ⟨0, 9, 12, 19⟩) (suf := []) (As := [.int p0]) (rest := [.int 0, .ref oa]) hC hl.1 hM ct (kv_L_54 hw hrc hrs ⟨by show rm.frames + 1 ≤ 13; omega, by show 8 + (2 + 11) + rm.locals ≤ 480; omega⟩) rfl rfl he rfl (Nat.le_of_ble_eq_true rfl) dL_startOf_4 ⟨by show 0 + mc ≤ mc; omega, by show 0 + ms ≤ ms; omega⟩ ht (fun z h => absurd h List.not_mem_nil) (by decide) (by decide) w_739 (va_Nw.use (by decide +kernel) (hCE s hC.2.2.2.2.2.1.2).2.1) (fun H locs n1 q hM => ?_)
  refine lv_astore_n (lv' := [(3, .ref q), (0, .ref bo), (1, .int p0), (2, .ref oa)]) hx hb dL_startOf_12 rfl hl (by decide) rfl (fun ls hl => ?_)
  refine lv_iconst (v := 1) hx hb dL_startOf_13 (by decide) ?_
  refine W.widen (k := mc) (n := ms) (by omega) (by omega) ?_
  exact me_nret hC hr hlk hM rfl rfl dL_startOf_14
set_option maxHeartbeats 4000000 in
theorem c_L_lengthOf (l : Launch) (D : va_G) (tb : Nat → ClassId) (X : State → Prop) (z0 n : Nat) (bo oa : Nat) (p0 : Int32) {M M' : me_M} {mc ms : Nat} {rm : Room} {n' : Nat} {r : Int32} {f : Nat → Int64} {fs : List Value} (hrc : rm.cells = mc) (hrs : rm.slots = ms) (hR : rm.frames ≤ 12 ∧ rm.locals ≤ 440) (he : M bo = some (.inr (7, fs))) (ho : M' oa = some (.inl (tb 3, 1, .inr (.inl f)))) (ct : Met l yX7_lengthOf (.code yX7_lengthOf cX7_lengthOf 2 (some .int) :: ws_all) rm (me_Pc [.ref bo, .int p0] D tb X z0 M n) (me_Qi D z0 r M' n') mc ms (me_A z0)) : Met l yL_lengthOf (.codeWith yL_lengthOf cL_lengthOf 4 (some .int) [(0, 9, 12, 19)] :: ws_all) ({ frames := 13, cells := mc, slots := ms, locals := 480 } : Room) (me_Pc [.ref bo, .int p0, .ref oa] D tb X z0 M n) (me_Qn D z0 0 (me_up M' oa (.inl (tb 3, 1, .inr (.inl (vp_updL f 0 r.toInt64)))))) mc ms (me_A z0) := by
  refine me_openH (by decide) (Nat.le_of_ble_eq_true rfl) ?_
  intro p e s m args below meth c ls hC ht hr hlk hM hl
  have hl : lv_has ls 4 [(0, .ref bo), (1, .int p0), (2, .ref oa)] := hl
  have hx := hC.1
  have hb := hC.2.1
  have hw := hC.2.2.2.2.1
  refine lv_aload_n hx hb dL_lengthOf_0 rfl (lv_at hl 2 rfl) ?_
  refine lv_iconst (v := 0) hx hb dL_lengthOf_1 (by decide) ?_
  refine lv_aload_n hx hb dL_lengthOf_2 rfl (lv_at hl 0 rfl) ?_
  refine lv_iload_n hx hb dL_lengthOf_3 rfl (lv_at hl 1 rfl) ?_
  refine me_callVi (As := [.int p0]) (rest := [.int 0, .ref oa]) hC hl.1 hM ct (kv_L_57 hw hrc hrs ⟨by show rm.frames + 1 ≤ 13; omega, by show 8 + (2 + 11) + rm.locals ≤ 480; omega⟩) rfl rfl he rfl (Nat.le_of_ble_eq_true rfl) dL_lengthOf_4 ⟨by show 0 + mc ≤ mc; omega, by show 0 + ms ≤ ms; omega⟩ (fun H locs hM => ?_)
  refine lv_i2l hx hb dL_lengthOf_7 rfl ?_
  refine me_last (k := 0) (M2 := me_up M' oa (.inl (tb 3, 1, .inr (.inl (vp_updL f 0 r.toInt64))))) hC hM ho rfl (by decide) (by decide) rfl dL_lengthOf_8 (fun H locs hM => ?_)
  refine lv_goto (tgt := 15) hx hb dL_lengthOf_9 (by decide) ?_
  refine lv_iconst (v := 0) hx hb dL_lengthOf_15 (by decide) ?_
  refine W.widen (k := mc) (n := ms) (by omega) (by omega) ?_
  exact me_nret hC hr hlk hM rfl rfl dL_lengthOf_16
set_option maxHeartbeats 4000000 in
theorem c_L_lengthOf_x1 (l : Launch) (D : va_G) (tb : Nat → ClassId) (X : State → Prop) (z0 n : Nat) (bo oa : Nat) (p0 : Int32) {M M' : me_M} {mc ms : Nat} {rm : Room} {fs : List Value} (hCE : ∀ U, X U → me_ce U) (hrc : rm.cells = mc) (hrs : rm.slots = ms) (hR : rm.frames ≤ 12 ∧ rm.locals ≤ 440) (he : M bo = some (.inr (7, fs))) (ct : vx_Met l yX7_lengthOf (.code yX7_lengthOf cX7_lengthOf 2 (some .int) :: ws_all) rm (me_Pc [.ref bo, .int p0] D tb X z0 M n) me_no (me_XC D z0 M' "java/lang/IndexOutOfBoundsException") mc ms (me_A z0)) : Met l yL_lengthOf (.codeWith yL_lengthOf cL_lengthOf 4 (some .int) [(0, 9, 12, 19)] :: ws_all) ({ frames := 13, cells := mc, slots := ms, locals := 480 } : Room) (me_Pc [.ref bo, .int p0, .ref oa] D tb X z0 M n) (me_Qn D z0 1 M') mc ms (me_A z0) := by
  refine me_openH (by decide) (Nat.le_of_ble_eq_true rfl) ?_
  intro p e s m args below meth c ls hC ht hr hlk hM hl
  have hl : lv_has ls 4 [(0, .ref bo), (1, .int p0), (2, .ref oa)] := hl
  have hx := hC.1
  have hb := hC.2.1
  have hw := hC.2.2.2.2.1
  refine lv_aload_n hx hb dL_lengthOf_0 rfl (lv_at hl 2 rfl) ?_
  refine lv_iconst (v := 0) hx hb dL_lengthOf_1 (by decide) ?_
  refine lv_aload_n hx hb dL_lengthOf_2 rfl (lv_at hl 0 rfl) ?_
  refine lv_iload_n hx hb dL_lengthOf_3 rfl (lv_at hl 1 rfl) ?_
  refine me_xcat (E0 := "java/lang/IndexOutOfBoundsException") (pre := []) (x := ⟨0, 9, 12, 19⟩) (suf := []) (As := [.int p0]) (rest := [.int 0, .ref oa]) hC hl.1 hM ct (kv_L_57 hw hrc hrs ⟨by show rm.frames + 1 ≤ 13; omega, by show 8 + (2 + 11) + rm.locals ≤ 480; omega⟩) rfl rfl he rfl (Nat.le_of_ble_eq_true rfl) dL_lengthOf_4 ⟨by show 0 + mc ≤ mc; omega, by show 0 + ms ≤ ms; omega⟩ ht (fun z h => absurd h List.not_mem_nil) (by decide) (by decide) w_739 (va_Nw.use (by decide +kernel) (hCE s hC.2.2.2.2.2.1.2).2.1) (fun H locs n1 q hM => ?_)
  refine lv_astore_n (lv' := [(3, .ref q), (0, .ref bo), (1, .int p0), (2, .ref oa)]) hx hb dL_lengthOf_12 rfl hl (by decide) rfl (fun ls hl => ?_)
  refine lv_iconst (v := 1) hx hb dL_lengthOf_13 (by decide) ?_
  refine W.widen (k := mc) (n := ms) (by omega) (by omega) ?_
  exact me_nret hC hr hlk hM rfl rfl dL_lengthOf_14
set_option maxHeartbeats 4000000 in
theorem c_L_priceOf (l : Launch) (D : va_G) (tb : Nat → ClassId) (X : State → Prop) (z0 n : Nat) (bo oa : Nat) (p0 : Int32) {M M' : me_M} {mc ms : Nat} {rm : Room} {n' : Nat} {r : Int32} {f : Nat → Int64} {fs : List Value} (hrc : rm.cells = mc) (hrs : rm.slots = ms) (hR : rm.frames ≤ 12 ∧ rm.locals ≤ 440) (he : M bo = some (.inr (7, fs))) (ho : M' oa = some (.inl (tb 3, 1, .inr (.inl f)))) (ct : Met l yX7_priceOf (.code yX7_priceOf cX7_priceOf 2 (some .int) :: ws_all) rm (me_Pc [.ref bo, .int p0] D tb X z0 M n) (me_Qi D z0 r M' n') mc ms (me_A z0)) : Met l yL_priceOf (.codeWith yL_priceOf cL_priceOf 4 (some .int) [(0, 9, 12, 19)] :: ws_all) ({ frames := 13, cells := mc, slots := ms, locals := 480 } : Room) (me_Pc [.ref bo, .int p0, .ref oa] D tb X z0 M n) (me_Qn D z0 0 (me_up M' oa (.inl (tb 3, 1, .inr (.inl (vp_updL f 0 r.toInt64)))))) mc ms (me_A z0) := by
  refine me_openH (by decide) (Nat.le_of_ble_eq_true rfl) ?_
  intro p e s m args below meth c ls hC ht hr hlk hM hl
  have hl : lv_has ls 4 [(0, .ref bo), (1, .int p0), (2, .ref oa)] := hl
  have hx := hC.1
  have hb := hC.2.1
  have hw := hC.2.2.2.2.1
  refine lv_aload_n hx hb dL_priceOf_0 rfl (lv_at hl 2 rfl) ?_
  refine lv_iconst (v := 0) hx hb dL_priceOf_1 (by decide) ?_
  refine lv_aload_n hx hb dL_priceOf_2 rfl (lv_at hl 0 rfl) ?_
  refine lv_iload_n hx hb dL_priceOf_3 rfl (lv_at hl 1 rfl) ?_
  refine me_callVi (As := [.int p0]) (rest := [.int 0, .ref oa]) hC hl.1 hM ct (kv_L_60 hw hrc hrs ⟨by show rm.frames + 1 ≤ 13; omega, by show 8 + (2 + 11) + rm.locals ≤ 480; omega⟩) rfl rfl he rfl (Nat.le_of_ble_eq_true rfl) dL_priceOf_4 ⟨by show 0 + mc ≤ mc; omega, by show 0 + ms ≤ ms; omega⟩ (fun H locs hM => ?_)
  refine lv_i2l hx hb dL_priceOf_7 rfl ?_
  refine me_last (k := 0) (M2 := me_up M' oa (.inl (tb 3, 1, .inr (.inl (vp_updL f 0 r.toInt64))))) hC hM ho rfl (by decide) (by decide) rfl dL_priceOf_8 (fun H locs hM => ?_)
  refine lv_goto (tgt := 15) hx hb dL_priceOf_9 (by decide) ?_
  refine lv_iconst (v := 0) hx hb dL_priceOf_15 (by decide) ?_
  refine W.widen (k := mc) (n := ms) (by omega) (by omega) ?_
  exact me_nret hC hr hlk hM rfl rfl dL_priceOf_16
set_option maxHeartbeats 4000000 in
theorem c_L_priceOf_x1 (l : Launch) (D : va_G) (tb : Nat → ClassId) (X : State → Prop) (z0 n : Nat) (bo oa : Nat) (p0 : Int32) {M M' : me_M} {mc ms : Nat} {rm : Room} {fs : List Value} (hCE : ∀ U, X U → me_ce U) (hrc : rm.cells = mc) (hrs : rm.slots = ms) (hR : rm.frames ≤ 12 ∧ rm.locals ≤ 440) (he : M bo = some (.inr (7, fs))) (ct : vx_Met l yX7_priceOf (.code yX7_priceOf cX7_priceOf 2 (some .int) :: ws_all) rm (me_Pc [.ref bo, .int p0] D tb X z0 M n) me_no (me_XC D z0 M' "java/lang/IndexOutOfBoundsException") mc ms (me_A z0)) : Met l yL_priceOf (.codeWith yL_priceOf cL_priceOf 4 (some .int) [(0, 9, 12, 19)] :: ws_all) ({ frames := 13, cells := mc, slots := ms, locals := 480 } : Room) (me_Pc [.ref bo, .int p0, .ref oa] D tb X z0 M n) (me_Qn D z0 1 M') mc ms (me_A z0) := by
  refine me_openH (by decide) (Nat.le_of_ble_eq_true rfl) ?_
  intro p e s m args below meth c ls hC ht hr hlk hM hl
  have hl : lv_has ls 4 [(0, .ref bo), (1, .int p0), (2, .ref oa)] := hl
  have hx := hC.1
  have hb := hC.2.1
  have hw := hC.2.2.2.2.1
  refine lv_aload_n hx hb dL_priceOf_0 rfl (lv_at hl 2 rfl) ?_
  refine lv_iconst (v := 0) hx hb dL_priceOf_1 (by decide) ?_
  refine lv_aload_n hx hb dL_priceOf_2 rfl (lv_at hl 0 rfl) ?_
  refine lv_iload_n hx hb dL_priceOf_3 rfl (lv_at hl 1 rfl) ?_
  refine me_xcat (E0 := "java/lang/IndexOutOfBoundsException") (pre := []) (x := ⟨0, 9, 12, 19⟩) (suf := []) (As := [.int p0]) (rest := [.int 0, .ref oa]) hC hl.1 hM ct (kv_L_60 hw hrc hrs ⟨by show rm.frames + 1 ≤ 13; omega, by show 8 + (2 + 11) + rm.locals ≤ 480; omega⟩) rfl rfl he rfl (Nat.le_of_ble_eq_true rfl) dL_priceOf_4 ⟨by show 0 + mc ≤ mc; omega, by show 0 + ms ≤ ms; omega⟩ ht (fun z h => absurd h List.not_mem_nil) (by decide) (by decide) w_739 (va_Nw.use (by decide +kernel) (hCE s hC.2.2.2.2.2.1.2).2.1) (fun H locs n1 q hM => ?_)
  refine lv_astore_n (lv' := [(3, .ref q), (0, .ref bo), (1, .int p0), (2, .ref oa)]) hx hb dL_priceOf_12 rfl hl (by decide) rfl (fun ls hl => ?_)
  refine lv_iconst (v := 1) hx hb dL_priceOf_13 (by decide) ?_
  refine W.widen (k := mc) (n := ms) (by omega) (by omega) ?_
  exact me_nret hC hr hlk hM rfl rfl dL_priceOf_14
set_option maxHeartbeats 4000000 in
theorem c_L_statusOf (l : Launch) (D : va_G) (tb : Nat → ClassId) (X : State → Prop) (z0 n : Nat) (bo oa : Nat) (p0 : Int32) {M M' : me_M} {mc ms : Nat} {rm : Room} {n' : Nat} {r : Int32} {f : Nat → Int64} {fs : List Value} (hrc : rm.cells = mc) (hrs : rm.slots = ms) (hR : rm.frames ≤ 12 ∧ rm.locals ≤ 440) (he : M bo = some (.inr (7, fs))) (ho : M' oa = some (.inl (tb 3, 1, .inr (.inl f)))) (ct : Met l yX7_statusOf (.code yX7_statusOf cX7_statusOf 2 (some .int) :: ws_all) rm (me_Pc [.ref bo, .int p0] D tb X z0 M n) (me_Qi D z0 r M' n') mc ms (me_A z0)) : Met l yL_statusOf (.codeWith yL_statusOf cL_statusOf 4 (some .int) [(0, 9, 12, 19)] :: ws_all) ({ frames := 13, cells := mc, slots := ms, locals := 480 } : Room) (me_Pc [.ref bo, .int p0, .ref oa] D tb X z0 M n) (me_Qn D z0 0 (me_up M' oa (.inl (tb 3, 1, .inr (.inl (vp_updL f 0 r.toInt64)))))) mc ms (me_A z0) := by
  refine me_openH (by decide) (Nat.le_of_ble_eq_true rfl) ?_
  intro p e s m args below meth c ls hC ht hr hlk hM hl
  have hl : lv_has ls 4 [(0, .ref bo), (1, .int p0), (2, .ref oa)] := hl
  have hx := hC.1
  have hb := hC.2.1
  have hw := hC.2.2.2.2.1
  refine lv_aload_n hx hb dL_statusOf_0 rfl (lv_at hl 2 rfl) ?_
  refine lv_iconst (v := 0) hx hb dL_statusOf_1 (by decide) ?_
  refine lv_aload_n hx hb dL_statusOf_2 rfl (lv_at hl 0 rfl) ?_
  refine lv_iload_n hx hb dL_statusOf_3 rfl (lv_at hl 1 rfl) ?_
  refine me_callVi (As := [.int p0]) (rest := [.int 0, .ref oa]) hC hl.1 hM ct (kv_L_63 hw hrc hrs ⟨by show rm.frames + 1 ≤ 13; omega, by show 8 + (2 + 11) + rm.locals ≤ 480; omega⟩) rfl rfl he rfl (Nat.le_of_ble_eq_true rfl) dL_statusOf_4 ⟨by show 0 + mc ≤ mc; omega, by show 0 + ms ≤ ms; omega⟩ (fun H locs hM => ?_)
  refine lv_i2l hx hb dL_statusOf_7 rfl ?_
  refine me_last (k := 0) (M2 := me_up M' oa (.inl (tb 3, 1, .inr (.inl (vp_updL f 0 r.toInt64))))) hC hM ho rfl (by decide) (by decide) rfl dL_statusOf_8 (fun H locs hM => ?_)
  refine lv_goto (tgt := 15) hx hb dL_statusOf_9 (by decide) ?_
  refine lv_iconst (v := 0) hx hb dL_statusOf_15 (by decide) ?_
  refine W.widen (k := mc) (n := ms) (by omega) (by omega) ?_
  exact me_nret hC hr hlk hM rfl rfl dL_statusOf_16
set_option maxHeartbeats 4000000 in
theorem c_L_statusOf_x1 (l : Launch) (D : va_G) (tb : Nat → ClassId) (X : State → Prop) (z0 n : Nat) (bo oa : Nat) (p0 : Int32) {M M' : me_M} {mc ms : Nat} {rm : Room} {fs : List Value} (hCE : ∀ U, X U → me_ce U) (hrc : rm.cells = mc) (hrs : rm.slots = ms) (hR : rm.frames ≤ 12 ∧ rm.locals ≤ 440) (he : M bo = some (.inr (7, fs))) (ct : vx_Met l yX7_statusOf (.code yX7_statusOf cX7_statusOf 2 (some .int) :: ws_all) rm (me_Pc [.ref bo, .int p0] D tb X z0 M n) me_no (me_XC D z0 M' "java/lang/IndexOutOfBoundsException") mc ms (me_A z0)) : Met l yL_statusOf (.codeWith yL_statusOf cL_statusOf 4 (some .int) [(0, 9, 12, 19)] :: ws_all) ({ frames := 13, cells := mc, slots := ms, locals := 480 } : Room) (me_Pc [.ref bo, .int p0, .ref oa] D tb X z0 M n) (me_Qn D z0 1 M') mc ms (me_A z0) := by
  refine me_openH (by decide) (Nat.le_of_ble_eq_true rfl) ?_
  intro p e s m args below meth c ls hC ht hr hlk hM hl
  have hl : lv_has ls 4 [(0, .ref bo), (1, .int p0), (2, .ref oa)] := hl
  have hx := hC.1
  have hb := hC.2.1
  have hw := hC.2.2.2.2.1
  refine lv_aload_n hx hb dL_statusOf_0 rfl (lv_at hl 2 rfl) ?_
  refine lv_iconst (v := 0) hx hb dL_statusOf_1 (by decide) ?_
  refine lv_aload_n hx hb dL_statusOf_2 rfl (lv_at hl 0 rfl) ?_
  refine lv_iload_n hx hb dL_statusOf_3 rfl (lv_at hl 1 rfl) ?_
  refine me_xcat (E0 := "java/lang/IndexOutOfBoundsException") (pre := []) (x := ⟨0, 9, 12, 19⟩) (suf := []) (As := [.int p0]) (rest := [.int 0, .ref oa]) hC hl.1 hM ct (kv_L_63 hw hrc hrs ⟨by show rm.frames + 1 ≤ 13; omega, by show 8 + (2 + 11) + rm.locals ≤ 480; omega⟩) rfl rfl he rfl (Nat.le_of_ble_eq_true rfl) dL_statusOf_4 ⟨by show 0 + mc ≤ mc; omega, by show 0 + ms ≤ ms; omega⟩ ht (fun z h => absurd h List.not_mem_nil) (by decide) (by decide) w_739 (va_Nw.use (by decide +kernel) (hCE s hC.2.2.2.2.2.1.2).2.1) (fun H locs n1 q hM => ?_)
  refine lv_astore_n (lv' := [(3, .ref q), (0, .ref bo), (1, .int p0), (2, .ref oa)]) hx hb dL_statusOf_12 rfl hl (by decide) rfl (fun ls hl => ?_)
  refine lv_iconst (v := 1) hx hb dL_statusOf_13 (by decide) ?_
  refine W.widen (k := mc) (n := ms) (by omega) (by omega) ?_
  exact me_nret hC hr hlk hM rfl rfl dL_statusOf_14
set_option maxHeartbeats 4000000 in
theorem c_L_holderOf (l : Launch) (D : va_G) (tb : Nat → ClassId) (X : State → Prop) (z0 n : Nat) (bo oa : Nat) (p0 : Int32) {M M' : me_M} {mc ms : Nat} {rm : Room} {n' : Nat} {r : Int32} {f : Nat → Int64} {fs : List Value} (hrc : rm.cells = mc) (hrs : rm.slots = ms) (hR : rm.frames ≤ 12 ∧ rm.locals ≤ 440) (he : M bo = some (.inr (7, fs))) (ho : M' oa = some (.inl (tb 3, 1, .inr (.inl f)))) (ct : Met l yX7_holderOf (.code yX7_holderOf cX7_holderOf 2 (some .int) :: ws_all) rm (me_Pc [.ref bo, .int p0] D tb X z0 M n) (me_Qi D z0 r M' n') mc ms (me_A z0)) : Met l yL_holderOf (.codeWith yL_holderOf cL_holderOf 4 (some .int) [(0, 9, 12, 21)] :: ws_all) ({ frames := 13, cells := mc, slots := ms, locals := 480 } : Room) (me_Pc [.ref bo, .int p0, .ref oa] D tb X z0 M n) (me_Qn D z0 0 (me_up M' oa (.inl (tb 3, 1, .inr (.inl (vp_updL f 0 r.toInt64)))))) mc ms (me_A z0) := by
  refine me_openH (by decide) (Nat.le_of_ble_eq_true rfl) ?_
  intro p e s m args below meth c ls hC ht hr hlk hM hl
  have hl : lv_has ls 4 [(0, .ref bo), (1, .int p0), (2, .ref oa)] := hl
  have hx := hC.1
  have hb := hC.2.1
  have hw := hC.2.2.2.2.1
  refine lv_aload_n hx hb dL_holderOf_0 rfl (lv_at hl 2 rfl) ?_
  refine lv_iconst (v := 0) hx hb dL_holderOf_1 (by decide) ?_
  refine lv_aload_n hx hb dL_holderOf_2 rfl (lv_at hl 0 rfl) ?_
  refine lv_iload_n hx hb dL_holderOf_3 rfl (lv_at hl 1 rfl) ?_
  refine me_callVi (As := [.int p0]) (rest := [.int 0, .ref oa]) hC hl.1 hM ct (kv_L_66 hw hrc hrs ⟨by show rm.frames + 1 ≤ 13; omega, by show 8 + (2 + 11) + rm.locals ≤ 480; omega⟩) rfl rfl he rfl (Nat.le_of_ble_eq_true rfl) dL_holderOf_4 ⟨by show 0 + mc ≤ mc; omega, by show 0 + ms ≤ ms; omega⟩ (fun H locs hM => ?_)
  refine lv_i2l hx hb dL_holderOf_7 rfl ?_
  refine me_last (k := 0) (M2 := me_up M' oa (.inl (tb 3, 1, .inr (.inl (vp_updL f 0 r.toInt64))))) hC hM ho rfl (by decide) (by decide) rfl dL_holderOf_8 (fun H locs hM => ?_)
  refine lv_goto (tgt := 15) hx hb dL_holderOf_9 (by decide) ?_
  refine lv_iconst (v := 0) hx hb dL_holderOf_15 (by decide) ?_
  refine W.widen (k := mc) (n := ms) (by omega) (by omega) ?_
  exact me_nret hC hr hlk hM rfl rfl dL_holderOf_16
set_option maxHeartbeats 4000000 in
theorem c_L_holderOf_x1 (l : Launch) (D : va_G) (tb : Nat → ClassId) (X : State → Prop) (z0 n : Nat) (bo oa : Nat) (p0 : Int32) {M M' : me_M} {mc ms : Nat} {rm : Room} {fs : List Value} (hCE : ∀ U, X U → me_ce U) (hrc : rm.cells = mc) (hrs : rm.slots = ms) (hR : rm.frames ≤ 12 ∧ rm.locals ≤ 440) (he : M bo = some (.inr (7, fs))) (ct : vx_Met l yX7_holderOf (.code yX7_holderOf cX7_holderOf 2 (some .int) :: ws_all) rm (me_Pc [.ref bo, .int p0] D tb X z0 M n) me_no (me_XC D z0 M' "java/lang/IllegalArgumentException") mc ms (me_A z0)) : Met l yL_holderOf (.codeWith yL_holderOf cL_holderOf 4 (some .int) [(0, 9, 12, 21)] :: ws_all) ({ frames := 13, cells := mc, slots := ms, locals := 480 } : Room) (me_Pc [.ref bo, .int p0, .ref oa] D tb X z0 M n) (me_Qn D z0 1 M') mc ms (me_A z0) := by
  refine me_openH (by decide) (Nat.le_of_ble_eq_true rfl) ?_
  intro p e s m args below meth c ls hC ht hr hlk hM hl
  have hl : lv_has ls 4 [(0, .ref bo), (1, .int p0), (2, .ref oa)] := hl
  have hx := hC.1
  have hb := hC.2.1
  have hw := hC.2.2.2.2.1
  refine lv_aload_n hx hb dL_holderOf_0 rfl (lv_at hl 2 rfl) ?_
  refine lv_iconst (v := 0) hx hb dL_holderOf_1 (by decide) ?_
  refine lv_aload_n hx hb dL_holderOf_2 rfl (lv_at hl 0 rfl) ?_
  refine lv_iload_n hx hb dL_holderOf_3 rfl (lv_at hl 1 rfl) ?_
  refine me_xcat (E0 := "java/lang/IllegalArgumentException") (pre := []) (x := ⟨0, 9, 12, 21⟩) (suf := []) (As := [.int p0]) (rest := [.int 0, .ref oa]) hC hl.1 hM ct (kv_L_66 hw hrc hrs ⟨by show rm.frames + 1 ≤ 13; omega, by show 8 + (2 + 11) + rm.locals ≤ 480; omega⟩) rfl rfl he rfl (Nat.le_of_ble_eq_true rfl) dL_holderOf_4 ⟨by show 0 + mc ≤ mc; omega, by show 0 + ms ≤ ms; omega⟩ ht (fun z h => absurd h List.not_mem_nil) (by decide) (by decide) w_740 (va_Nw.use (by decide +kernel) (hCE s hC.2.2.2.2.2.1.2).2.2.1) (fun H locs n1 q hM => ?_)
  refine lv_astore_n (lv' := [(3, .ref q), (0, .ref bo), (1, .int p0), (2, .ref oa)]) hx hb dL_holderOf_12 rfl hl (by decide) rfl (fun ls hl => ?_)
  refine lv_iconst (v := 1) hx hb dL_holderOf_13 (by decide) ?_
  refine W.widen (k := mc) (n := ms) (by omega) (by omega) ?_
  exact me_nret hC hr hlk hM rfl rfl dL_holderOf_14
set_option maxHeartbeats 4000000 in
theorem c_L_permitFor (l : Launch) (D : va_G) (tb : Nat → ClassId) (X : State → Prop) (z0 n : Nat) (bo oa : Nat) (p0 p1 : Int32) {M M' : me_M} {mc ms : Nat} {rm : Room} {n' : Nat} {r : Int32} {f : Nat → Int64} {fs : List Value} (hrc : rm.cells = mc) (hrs : rm.slots = ms) (hR : rm.frames ≤ 12 ∧ rm.locals ≤ 440) (he : M bo = some (.inr (7, fs))) (ho : M' oa = some (.inl (tb 3, 1, .inr (.inl f)))) (ct : Met l yX7_permitFor (.code yX7_permitFor cX7_permitFor 3 (some .int) :: ws_all) rm (me_Pc [.ref bo, .int p0, .int p1] D tb X z0 M n) (me_Qi D z0 r M' n') mc ms (me_A z0)) : Met l yL_permitFor (.codeWith yL_permitFor cL_permitFor 5 (some .int) [(0, 10, 13, 19), (0, 10, 17, 21)] :: ws_all) ({ frames := 13, cells := mc, slots := ms, locals := 480 } : Room) (me_Pc [.ref bo, .int p0, .int p1, .ref oa] D tb X z0 M n) (me_Qn D z0 0 (me_up M' oa (.inl (tb 3, 1, .inr (.inl (vp_updL f 0 r.toInt64)))))) mc ms (me_A z0) := by
  refine me_openH (by decide) (Nat.le_of_ble_eq_true rfl) ?_
  intro p e s m args below meth c ls hC ht hr hlk hM hl
  have hl : lv_has ls 5 [(0, .ref bo), (1, .int p0), (2, .int p1), (3, .ref oa)] := hl
  have hx := hC.1
  have hb := hC.2.1
  have hw := hC.2.2.2.2.1
  refine lv_aload_n hx hb dL_permitFor_0 rfl (lv_at hl 3 rfl) ?_
  refine lv_iconst (v := 0) hx hb dL_permitFor_1 (by decide) ?_
  refine lv_aload_n hx hb dL_permitFor_2 rfl (lv_at hl 0 rfl) ?_
  refine lv_iload_n hx hb dL_permitFor_3 rfl (lv_at hl 1 rfl) ?_
  refine lv_iload_n hx hb dL_permitFor_4 rfl (lv_at hl 2 rfl) ?_
  refine me_callVi (As := [.int p0, .int p1]) (rest := [.int 0, .ref oa]) hC hl.1 hM ct (kv_L_69 hw hrc hrs ⟨by show rm.frames + 1 ≤ 13; omega, by show 8 + (3 + 11) + rm.locals ≤ 480; omega⟩) rfl rfl he rfl (Nat.le_of_ble_eq_true rfl) dL_permitFor_5 ⟨by show 0 + mc ≤ mc; omega, by show 0 + ms ≤ ms; omega⟩ (fun H locs hM => ?_)
  refine lv_i2l hx hb dL_permitFor_8 rfl ?_
  refine me_last (k := 0) (M2 := me_up M' oa (.inl (tb 3, 1, .inr (.inl (vp_updL f 0 r.toInt64))))) hC hM ho rfl (by decide) (by decide) rfl dL_permitFor_9 (fun H locs hM => ?_)
  refine lv_goto (tgt := 21) hx hb dL_permitFor_10 (by decide) ?_
  refine lv_iconst (v := 0) hx hb dL_permitFor_21 (by decide) ?_
  refine W.widen (k := mc) (n := ms) (by omega) (by omega) ?_
  exact me_nret hC hr hlk hM rfl rfl dL_permitFor_22
set_option maxHeartbeats 4000000 in
theorem c_L_permitFor_x1 (l : Launch) (D : va_G) (tb : Nat → ClassId) (X : State → Prop) (z0 n : Nat) (bo oa : Nat) (p0 p1 : Int32) {M M' : me_M} {mc ms : Nat} {rm : Room} {fs : List Value} (hCE : ∀ U, X U → me_ce U) (hrc : rm.cells = mc) (hrs : rm.slots = ms) (hR : rm.frames ≤ 12 ∧ rm.locals ≤ 440) (he : M bo = some (.inr (7, fs))) (ct : vx_Met l yX7_permitFor (.code yX7_permitFor cX7_permitFor 3 (some .int) :: ws_all) rm (me_Pc [.ref bo, .int p0, .int p1] D tb X z0 M n) me_no (me_XC D z0 M' "java/lang/IndexOutOfBoundsException") mc ms (me_A z0)) : Met l yL_permitFor (.codeWith yL_permitFor cL_permitFor 5 (some .int) [(0, 10, 13, 19), (0, 10, 17, 21)] :: ws_all) ({ frames := 13, cells := mc, slots := ms, locals := 480 } : Room) (me_Pc [.ref bo, .int p0, .int p1, .ref oa] D tb X z0 M n) (me_Qn D z0 1 M') mc ms (me_A z0) := by
  refine me_openH (by decide) (Nat.le_of_ble_eq_true rfl) ?_
  intro p e s m args below meth c ls hC ht hr hlk hM hl
  have hl : lv_has ls 5 [(0, .ref bo), (1, .int p0), (2, .int p1), (3, .ref oa)] := hl
  have hx := hC.1
  have hb := hC.2.1
  have hw := hC.2.2.2.2.1
  refine lv_aload_n hx hb dL_permitFor_0 rfl (lv_at hl 3 rfl) ?_
  refine lv_iconst (v := 0) hx hb dL_permitFor_1 (by decide) ?_
  refine lv_aload_n hx hb dL_permitFor_2 rfl (lv_at hl 0 rfl) ?_
  refine lv_iload_n hx hb dL_permitFor_3 rfl (lv_at hl 1 rfl) ?_
  refine lv_iload_n hx hb dL_permitFor_4 rfl (lv_at hl 2 rfl) ?_
  refine me_xcat (E0 := "java/lang/IndexOutOfBoundsException") (pre := []) (x := ⟨0, 10, 13, 19⟩) (suf := [⟨0, 10, 17, 21⟩]) (As := [.int p0, .int p1]) (rest := [.int 0, .ref oa]) hC hl.1 hM ct (kv_L_69 hw hrc hrs ⟨by show rm.frames + 1 ≤ 13; omega, by show 8 + (3 + 11) + rm.locals ≤ 480; omega⟩) rfl rfl he rfl (Nat.le_of_ble_eq_true rfl) dL_permitFor_5 ⟨by show 0 + mc ≤ mc; omega, by show 0 + ms ≤ ms; omega⟩ ht (fun z h => absurd h List.not_mem_nil) (by decide) (by decide) w_739 (va_Nw.use (by decide +kernel) (hCE s hC.2.2.2.2.2.1.2).2.1) (fun H locs n1 q hM => ?_)
  refine lv_astore (lv' := [(4, .ref q), (0, .ref bo), (1, .int p0), (2, .int p1), (3, .ref oa)]) hx hb dL_permitFor_13 hl (by decide) rfl (fun ls hl => ?_)
  refine lv_iconst (v := 1) hx hb dL_permitFor_15 (by decide) ?_
  refine W.widen (k := mc) (n := ms) (by omega) (by omega) ?_
  exact me_nret hC hr hlk hM rfl rfl dL_permitFor_16
set_option maxHeartbeats 4000000 in
theorem c_L_permitFor_x2 (l : Launch) (D : va_G) (tb : Nat → ClassId) (X : State → Prop) (z0 n : Nat) (bo oa : Nat) (p0 p1 : Int32) {M M' : me_M} {mc ms : Nat} {rm : Room} {fs : List Value} (hCE : ∀ U, X U → me_ce U) (hrc : rm.cells = mc) (hrs : rm.slots = ms) (hR : rm.frames ≤ 12 ∧ rm.locals ≤ 440) (he : M bo = some (.inr (7, fs))) (ct : vx_Met l yX7_permitFor (.code yX7_permitFor cX7_permitFor 3 (some .int) :: ws_all) rm (me_Pc [.ref bo, .int p0, .int p1] D tb X z0 M n) me_no (me_XC D z0 M' "java/lang/IllegalArgumentException") mc ms (me_A z0)) : Met l yL_permitFor (.codeWith yL_permitFor cL_permitFor 5 (some .int) [(0, 10, 13, 19), (0, 10, 17, 21)] :: ws_all) ({ frames := 13, cells := mc, slots := ms, locals := 480 } : Room) (me_Pc [.ref bo, .int p0, .int p1, .ref oa] D tb X z0 M n) (me_Qn D z0 2 M') mc ms (me_A z0) := by
  refine me_openH (by decide) (Nat.le_of_ble_eq_true rfl) ?_
  intro p e s m args below meth c ls hC ht hr hlk hM hl
  have hl : lv_has ls 5 [(0, .ref bo), (1, .int p0), (2, .int p1), (3, .ref oa)] := hl
  have hx := hC.1
  have hb := hC.2.1
  have hw := hC.2.2.2.2.1
  refine lv_aload_n hx hb dL_permitFor_0 rfl (lv_at hl 3 rfl) ?_
  refine lv_iconst (v := 0) hx hb dL_permitFor_1 (by decide) ?_
  refine lv_aload_n hx hb dL_permitFor_2 rfl (lv_at hl 0 rfl) ?_
  refine lv_iload_n hx hb dL_permitFor_3 rfl (lv_at hl 1 rfl) ?_
  refine lv_iload_n hx hb dL_permitFor_4 rfl (lv_at hl 2 rfl) ?_
  refine me_xcat (E0 := "java/lang/IllegalArgumentException") (pre := [⟨0, 10, 13, 19⟩]) (x := ⟨0, 10, 17, 21⟩) (suf := []) (As := [.int p0, .int p1]) (rest := [.int 0, .ref oa]) hC hl.1 hM ct (kv_L_69 hw hrc hrs ⟨by show rm.frames + 1 ≤ 13; omega, by show 8 + (3 + 11) + rm.locals ≤ 480; omega⟩) rfl rfl he rfl (Nat.le_of_ble_eq_true rfl) dL_permitFor_5 ⟨by show 0 + mc ≤ mc; omega, by show 0 + ms ≤ ms; omega⟩ ht (fun z h => by
    simp only [List.mem_cons, List.not_mem_nil, or_false] at h
    subst h
    exact Or.inr ⟨by decide, "java/lang/IndexOutOfBoundsException", hw _ w_739, (hCE s hC.2.2.2.2.2.1.2).2.2.2.1⟩) (by decide) (by decide) w_740 (va_Nw.use (by decide +kernel) (hCE s hC.2.2.2.2.2.1.2).2.2.1) (fun H locs n1 q hM => ?_)
  refine lv_astore (lv' := [(4, .ref q), (0, .ref bo), (1, .int p0), (2, .int p1), (3, .ref oa)]) hx hb dL_permitFor_17 hl (by decide) rfl (fun ls hl => ?_)
  refine lv_iconst (v := 2) hx hb dL_permitFor_19 (by decide) ?_
  refine W.widen (k := mc) (n := ms) (by omega) (by omega) ?_
  exact me_nret hC hr hlk hM rfl rfl dL_permitFor_20
set_option maxHeartbeats 4000000 in
theorem c_L_quote (l : Launch) (D : va_G) (tb : Nat → ClassId) (X : State → Prop) (z0 n : Nat) (bo oa : Nat) (p0 p1 : Int32) {M M' : me_M} {mc ms : Nat} {rm : Room} {n' : Nat} {r : Int32} {f : Nat → Int64} {fs : List Value} (hrc : rm.cells = mc) (hrs : rm.slots = ms) (hR : rm.frames ≤ 12 ∧ rm.locals ≤ 440) (he : M bo = some (.inr (7, fs))) (ho : M' oa = some (.inl (tb 3, 1, .inr (.inl f)))) (ct : Met l yX7_quote (.code yX7_quote cX7_quote 3 (some .int) :: ws_all) rm (me_Pc [.ref bo, .int p0, .int p1] D tb X z0 M n) (me_Qi D z0 r M' n') mc ms (me_A z0)) : Met l yL_quote (.codeWith yL_quote cL_quote 5 (some .int) [(0, 10, 13, 19), (0, 10, 17, 21)] :: ws_all) ({ frames := 13, cells := mc, slots := ms, locals := 480 } : Room) (me_Pc [.ref bo, .int p0, .int p1, .ref oa] D tb X z0 M n) (me_Qn D z0 0 (me_up M' oa (.inl (tb 3, 1, .inr (.inl (vp_updL f 0 r.toInt64)))))) mc ms (me_A z0) := by
  refine me_openH (by decide) (Nat.le_of_ble_eq_true rfl) ?_
  intro p e s m args below meth c ls hC ht hr hlk hM hl
  have hl : lv_has ls 5 [(0, .ref bo), (1, .int p0), (2, .int p1), (3, .ref oa)] := hl
  have hx := hC.1
  have hb := hC.2.1
  have hw := hC.2.2.2.2.1
  refine lv_aload_n hx hb dL_quote_0 rfl (lv_at hl 3 rfl) ?_
  refine lv_iconst (v := 0) hx hb dL_quote_1 (by decide) ?_
  refine lv_aload_n hx hb dL_quote_2 rfl (lv_at hl 0 rfl) ?_
  refine lv_iload_n hx hb dL_quote_3 rfl (lv_at hl 1 rfl) ?_
  refine lv_iload_n hx hb dL_quote_4 rfl (lv_at hl 2 rfl) ?_
  refine me_callVi (As := [.int p0, .int p1]) (rest := [.int 0, .ref oa]) hC hl.1 hM ct (kv_L_72 hw hrc hrs ⟨by show rm.frames + 1 ≤ 13; omega, by show 8 + (3 + 11) + rm.locals ≤ 480; omega⟩) rfl rfl he rfl (Nat.le_of_ble_eq_true rfl) dL_quote_5 ⟨by show 0 + mc ≤ mc; omega, by show 0 + ms ≤ ms; omega⟩ (fun H locs hM => ?_)
  refine lv_i2l hx hb dL_quote_8 rfl ?_
  refine me_last (k := 0) (M2 := me_up M' oa (.inl (tb 3, 1, .inr (.inl (vp_updL f 0 r.toInt64))))) hC hM ho rfl (by decide) (by decide) rfl dL_quote_9 (fun H locs hM => ?_)
  refine lv_goto (tgt := 21) hx hb dL_quote_10 (by decide) ?_
  refine lv_iconst (v := 0) hx hb dL_quote_21 (by decide) ?_
  refine W.widen (k := mc) (n := ms) (by omega) (by omega) ?_
  exact me_nret hC hr hlk hM rfl rfl dL_quote_22
set_option maxHeartbeats 4000000 in
theorem c_L_quote_x1 (l : Launch) (D : va_G) (tb : Nat → ClassId) (X : State → Prop) (z0 n : Nat) (bo oa : Nat) (p0 p1 : Int32) {M M' : me_M} {mc ms : Nat} {rm : Room} {fs : List Value} (hCE : ∀ U, X U → me_ce U) (hrc : rm.cells = mc) (hrs : rm.slots = ms) (hR : rm.frames ≤ 12 ∧ rm.locals ≤ 440) (he : M bo = some (.inr (7, fs))) (ct : vx_Met l yX7_quote (.code yX7_quote cX7_quote 3 (some .int) :: ws_all) rm (me_Pc [.ref bo, .int p0, .int p1] D tb X z0 M n) me_no (me_XC D z0 M' "java/lang/IndexOutOfBoundsException") mc ms (me_A z0)) : Met l yL_quote (.codeWith yL_quote cL_quote 5 (some .int) [(0, 10, 13, 19), (0, 10, 17, 21)] :: ws_all) ({ frames := 13, cells := mc, slots := ms, locals := 480 } : Room) (me_Pc [.ref bo, .int p0, .int p1, .ref oa] D tb X z0 M n) (me_Qn D z0 1 M') mc ms (me_A z0) := by
  refine me_openH (by decide) (Nat.le_of_ble_eq_true rfl) ?_
  intro p e s m args below meth c ls hC ht hr hlk hM hl
  have hl : lv_has ls 5 [(0, .ref bo), (1, .int p0), (2, .int p1), (3, .ref oa)] := hl
  have hx := hC.1
  have hb := hC.2.1
  have hw := hC.2.2.2.2.1
  refine lv_aload_n hx hb dL_quote_0 rfl (lv_at hl 3 rfl) ?_
  refine lv_iconst (v := 0) hx hb dL_quote_1 (by decide) ?_
  refine lv_aload_n hx hb dL_quote_2 rfl (lv_at hl 0 rfl) ?_
  refine lv_iload_n hx hb dL_quote_3 rfl (lv_at hl 1 rfl) ?_
  refine lv_iload_n hx hb dL_quote_4 rfl (lv_at hl 2 rfl) ?_
  refine me_xcat (E0 := "java/lang/IndexOutOfBoundsException") (pre := []) (x := ⟨0, 10, 13, 19⟩) (suf := [⟨0, 10, 17, 21⟩]) (As := [.int p0, .int p1]) (rest := [.int 0, .ref oa]) hC hl.1 hM ct (kv_L_72 hw hrc hrs ⟨by show rm.frames + 1 ≤ 13; omega, by show 8 + (3 + 11) + rm.locals ≤ 480; omega⟩) rfl rfl he rfl (Nat.le_of_ble_eq_true rfl) dL_quote_5 ⟨by show 0 + mc ≤ mc; omega, by show 0 + ms ≤ ms; omega⟩ ht (fun z h => absurd h List.not_mem_nil) (by decide) (by decide) w_739 (va_Nw.use (by decide +kernel) (hCE s hC.2.2.2.2.2.1.2).2.1) (fun H locs n1 q hM => ?_)
  refine lv_astore (lv' := [(4, .ref q), (0, .ref bo), (1, .int p0), (2, .int p1), (3, .ref oa)]) hx hb dL_quote_13 hl (by decide) rfl (fun ls hl => ?_)
  refine lv_iconst (v := 1) hx hb dL_quote_15 (by decide) ?_
  refine W.widen (k := mc) (n := ms) (by omega) (by omega) ?_
  exact me_nret hC hr hlk hM rfl rfl dL_quote_16
set_option maxHeartbeats 4000000 in
theorem c_L_quote_x2 (l : Launch) (D : va_G) (tb : Nat → ClassId) (X : State → Prop) (z0 n : Nat) (bo oa : Nat) (p0 p1 : Int32) {M M' : me_M} {mc ms : Nat} {rm : Room} {fs : List Value} (hCE : ∀ U, X U → me_ce U) (hrc : rm.cells = mc) (hrs : rm.slots = ms) (hR : rm.frames ≤ 12 ∧ rm.locals ≤ 440) (he : M bo = some (.inr (7, fs))) (ct : vx_Met l yX7_quote (.code yX7_quote cX7_quote 3 (some .int) :: ws_all) rm (me_Pc [.ref bo, .int p0, .int p1] D tb X z0 M n) me_no (me_XC D z0 M' "java/lang/IllegalArgumentException") mc ms (me_A z0)) : Met l yL_quote (.codeWith yL_quote cL_quote 5 (some .int) [(0, 10, 13, 19), (0, 10, 17, 21)] :: ws_all) ({ frames := 13, cells := mc, slots := ms, locals := 480 } : Room) (me_Pc [.ref bo, .int p0, .int p1, .ref oa] D tb X z0 M n) (me_Qn D z0 2 M') mc ms (me_A z0) := by
  refine me_openH (by decide) (Nat.le_of_ble_eq_true rfl) ?_
  intro p e s m args below meth c ls hC ht hr hlk hM hl
  have hl : lv_has ls 5 [(0, .ref bo), (1, .int p0), (2, .int p1), (3, .ref oa)] := hl
  have hx := hC.1
  have hb := hC.2.1
  have hw := hC.2.2.2.2.1
  refine lv_aload_n hx hb dL_quote_0 rfl (lv_at hl 3 rfl) ?_
  refine lv_iconst (v := 0) hx hb dL_quote_1 (by decide) ?_
  refine lv_aload_n hx hb dL_quote_2 rfl (lv_at hl 0 rfl) ?_
  refine lv_iload_n hx hb dL_quote_3 rfl (lv_at hl 1 rfl) ?_
  refine lv_iload_n hx hb dL_quote_4 rfl (lv_at hl 2 rfl) ?_
  refine me_xcat (E0 := "java/lang/IllegalArgumentException") (pre := [⟨0, 10, 13, 19⟩]) (x := ⟨0, 10, 17, 21⟩) (suf := []) (As := [.int p0, .int p1]) (rest := [.int 0, .ref oa]) hC hl.1 hM ct (kv_L_72 hw hrc hrs ⟨by show rm.frames + 1 ≤ 13; omega, by show 8 + (3 + 11) + rm.locals ≤ 480; omega⟩) rfl rfl he rfl (Nat.le_of_ble_eq_true rfl) dL_quote_5 ⟨by show 0 + mc ≤ mc; omega, by show 0 + ms ≤ ms; omega⟩ ht (fun z h => by
    simp only [List.mem_cons, List.not_mem_nil, or_false] at h
    subst h
    exact Or.inr ⟨by decide, "java/lang/IndexOutOfBoundsException", hw _ w_739, (hCE s hC.2.2.2.2.2.1.2).2.2.2.1⟩) (by decide) (by decide) w_740 (va_Nw.use (by decide +kernel) (hCE s hC.2.2.2.2.2.1.2).2.2.1) (fun H locs n1 q hM => ?_)
  refine lv_astore (lv' := [(4, .ref q), (0, .ref bo), (1, .int p0), (2, .int p1), (3, .ref oa)]) hx hb dL_quote_17 hl (by decide) rfl (fun ls hl => ?_)
  refine lv_iconst (v := 2) hx hb dL_quote_19 (by decide) ?_
  refine W.widen (k := mc) (n := ms) (by omega) (by omega) ?_
  exact me_nret hC hr hlk hM rfl rfl dL_quote_20
set_option maxHeartbeats 4000000 in
theorem c_L_refusal (l : Launch) (D : va_G) (tb : Nat → ClassId) (X : State → Prop) (z0 n : Nat) (bo oa : Nat) (p0 p1 p2 : Int32) {M M' : me_M} {mc ms : Nat} {rm : Room} {n' : Nat} {r : Int32} {f : Nat → Int64} {fs : List Value} (hrc : rm.cells = mc) (hrs : rm.slots = ms) (hR : rm.frames ≤ 12 ∧ rm.locals ≤ 440) (he : M bo = some (.inr (7, fs))) (ho : M' oa = some (.inl (tb 3, 1, .inr (.inl f)))) (ct : Met l yX7_refusal (.code yX7_refusal cX7_refusal 4 (some .int) :: ws_all) rm (me_Pc [.ref bo, .int p0, .int p1, .int p2] D tb X z0 M n) (me_Qi D z0 r M' n') mc ms (me_A z0)) : Met l yL_refusal (.codeWith yL_refusal cL_refusal 6 (some .int) [(0, 12, 15, 19), (0, 12, 19, 21)] :: ws_all) ({ frames := 13, cells := mc, slots := ms, locals := 480 } : Room) (me_Pc [.ref bo, .int p0, .int p1, .int p2, .ref oa] D tb X z0 M n) (me_Qn D z0 0 (me_up M' oa (.inl (tb 3, 1, .inr (.inl (vp_updL f 0 r.toInt64)))))) mc ms (me_A z0) := by
  refine me_openH (by decide) (Nat.le_of_ble_eq_true rfl) ?_
  intro p e s m args below meth c ls hC ht hr hlk hM hl
  have hl : lv_has ls 6 [(0, .ref bo), (1, .int p0), (2, .int p1), (3, .int p2), (4, .ref oa)] := hl
  have hx := hC.1
  have hb := hC.2.1
  have hw := hC.2.2.2.2.1
  refine lv_aload hx hb dL_refusal_0 (lv_at hl 4 rfl) ?_
  refine lv_iconst (v := 0) hx hb dL_refusal_2 (by decide) ?_
  refine lv_aload_n hx hb dL_refusal_3 rfl (lv_at hl 0 rfl) ?_
  refine lv_iload_n hx hb dL_refusal_4 rfl (lv_at hl 1 rfl) ?_
  refine lv_iload_n hx hb dL_refusal_5 rfl (lv_at hl 2 rfl) ?_
  refine lv_iload_n hx hb dL_refusal_6 rfl (lv_at hl 3 rfl) ?_
  refine me_callVi (As := [.int p0, .int p1, .int p2]) (rest := [.int 0, .ref oa]) hC hl.1 hM ct (kv_L_75 hw hrc hrs ⟨by show rm.frames + 1 ≤ 13; omega, by show 8 + (4 + 11) + rm.locals ≤ 480; omega⟩) rfl rfl he rfl (Nat.le_of_ble_eq_true rfl) dL_refusal_7 ⟨by show 0 + mc ≤ mc; omega, by show 0 + ms ≤ ms; omega⟩ (fun H locs hM => ?_)
  refine lv_i2l hx hb dL_refusal_10 rfl ?_
  refine me_last (k := 0) (M2 := me_up M' oa (.inl (tb 3, 1, .inr (.inl (vp_updL f 0 r.toInt64))))) hC hM ho rfl (by decide) (by decide) rfl dL_refusal_11 (fun H locs hM => ?_)
  refine lv_goto (tgt := 23) hx hb dL_refusal_12 (by decide) ?_
  refine lv_iconst (v := 0) hx hb dL_refusal_23 (by decide) ?_
  refine W.widen (k := mc) (n := ms) (by omega) (by omega) ?_
  exact me_nret hC hr hlk hM rfl rfl dL_refusal_24
set_option maxHeartbeats 4000000 in
theorem c_L_refusal_x1 (l : Launch) (D : va_G) (tb : Nat → ClassId) (X : State → Prop) (z0 n : Nat) (bo oa : Nat) (p0 p1 p2 : Int32) {M M' : me_M} {mc ms : Nat} {rm : Room} {fs : List Value} (hCE : ∀ U, X U → me_ce U) (hrc : rm.cells = mc) (hrs : rm.slots = ms) (hR : rm.frames ≤ 12 ∧ rm.locals ≤ 440) (he : M bo = some (.inr (7, fs))) (ct : vx_Met l yX7_refusal (.code yX7_refusal cX7_refusal 4 (some .int) :: ws_all) rm (me_Pc [.ref bo, .int p0, .int p1, .int p2] D tb X z0 M n) me_no (me_XC D z0 M' "java/lang/IndexOutOfBoundsException") mc ms (me_A z0)) : Met l yL_refusal (.codeWith yL_refusal cL_refusal 6 (some .int) [(0, 12, 15, 19), (0, 12, 19, 21)] :: ws_all) ({ frames := 13, cells := mc, slots := ms, locals := 480 } : Room) (me_Pc [.ref bo, .int p0, .int p1, .int p2, .ref oa] D tb X z0 M n) (me_Qn D z0 1 M') mc ms (me_A z0) := by
  refine me_openH (by decide) (Nat.le_of_ble_eq_true rfl) ?_
  intro p e s m args below meth c ls hC ht hr hlk hM hl
  have hl : lv_has ls 6 [(0, .ref bo), (1, .int p0), (2, .int p1), (3, .int p2), (4, .ref oa)] := hl
  have hx := hC.1
  have hb := hC.2.1
  have hw := hC.2.2.2.2.1
  refine lv_aload hx hb dL_refusal_0 (lv_at hl 4 rfl) ?_
  refine lv_iconst (v := 0) hx hb dL_refusal_2 (by decide) ?_
  refine lv_aload_n hx hb dL_refusal_3 rfl (lv_at hl 0 rfl) ?_
  refine lv_iload_n hx hb dL_refusal_4 rfl (lv_at hl 1 rfl) ?_
  refine lv_iload_n hx hb dL_refusal_5 rfl (lv_at hl 2 rfl) ?_
  refine lv_iload_n hx hb dL_refusal_6 rfl (lv_at hl 3 rfl) ?_
  refine me_xcat (E0 := "java/lang/IndexOutOfBoundsException") (pre := []) (x := ⟨0, 12, 15, 19⟩) (suf := [⟨0, 12, 19, 21⟩]) (As := [.int p0, .int p1, .int p2]) (rest := [.int 0, .ref oa]) hC hl.1 hM ct (kv_L_75 hw hrc hrs ⟨by show rm.frames + 1 ≤ 13; omega, by show 8 + (4 + 11) + rm.locals ≤ 480; omega⟩) rfl rfl he rfl (Nat.le_of_ble_eq_true rfl) dL_refusal_7 ⟨by show 0 + mc ≤ mc; omega, by show 0 + ms ≤ ms; omega⟩ ht (fun z h => absurd h List.not_mem_nil) (by decide) (by decide) w_739 (va_Nw.use (by decide +kernel) (hCE s hC.2.2.2.2.2.1.2).2.1) (fun H locs n1 q hM => ?_)
  refine lv_astore (lv' := [(5, .ref q), (0, .ref bo), (1, .int p0), (2, .int p1), (3, .int p2), (4, .ref oa)]) hx hb dL_refusal_15 hl (by decide) rfl (fun ls hl => ?_)
  refine lv_iconst (v := 1) hx hb dL_refusal_17 (by decide) ?_
  refine W.widen (k := mc) (n := ms) (by omega) (by omega) ?_
  exact me_nret hC hr hlk hM rfl rfl dL_refusal_18
set_option maxHeartbeats 4000000 in
theorem c_L_refusal_x2 (l : Launch) (D : va_G) (tb : Nat → ClassId) (X : State → Prop) (z0 n : Nat) (bo oa : Nat) (p0 p1 p2 : Int32) {M M' : me_M} {mc ms : Nat} {rm : Room} {fs : List Value} (hCE : ∀ U, X U → me_ce U) (hrc : rm.cells = mc) (hrs : rm.slots = ms) (hR : rm.frames ≤ 12 ∧ rm.locals ≤ 440) (he : M bo = some (.inr (7, fs))) (ct : vx_Met l yX7_refusal (.code yX7_refusal cX7_refusal 4 (some .int) :: ws_all) rm (me_Pc [.ref bo, .int p0, .int p1, .int p2] D tb X z0 M n) me_no (me_XC D z0 M' "java/lang/IllegalArgumentException") mc ms (me_A z0)) : Met l yL_refusal (.codeWith yL_refusal cL_refusal 6 (some .int) [(0, 12, 15, 19), (0, 12, 19, 21)] :: ws_all) ({ frames := 13, cells := mc, slots := ms, locals := 480 } : Room) (me_Pc [.ref bo, .int p0, .int p1, .int p2, .ref oa] D tb X z0 M n) (me_Qn D z0 2 M') mc ms (me_A z0) := by
  refine me_openH (by decide) (Nat.le_of_ble_eq_true rfl) ?_
  intro p e s m args below meth c ls hC ht hr hlk hM hl
  have hl : lv_has ls 6 [(0, .ref bo), (1, .int p0), (2, .int p1), (3, .int p2), (4, .ref oa)] := hl
  have hx := hC.1
  have hb := hC.2.1
  have hw := hC.2.2.2.2.1
  refine lv_aload hx hb dL_refusal_0 (lv_at hl 4 rfl) ?_
  refine lv_iconst (v := 0) hx hb dL_refusal_2 (by decide) ?_
  refine lv_aload_n hx hb dL_refusal_3 rfl (lv_at hl 0 rfl) ?_
  refine lv_iload_n hx hb dL_refusal_4 rfl (lv_at hl 1 rfl) ?_
  refine lv_iload_n hx hb dL_refusal_5 rfl (lv_at hl 2 rfl) ?_
  refine lv_iload_n hx hb dL_refusal_6 rfl (lv_at hl 3 rfl) ?_
  refine me_xcat (E0 := "java/lang/IllegalArgumentException") (pre := [⟨0, 12, 15, 19⟩]) (x := ⟨0, 12, 19, 21⟩) (suf := []) (As := [.int p0, .int p1, .int p2]) (rest := [.int 0, .ref oa]) hC hl.1 hM ct (kv_L_75 hw hrc hrs ⟨by show rm.frames + 1 ≤ 13; omega, by show 8 + (4 + 11) + rm.locals ≤ 480; omega⟩) rfl rfl he rfl (Nat.le_of_ble_eq_true rfl) dL_refusal_7 ⟨by show 0 + mc ≤ mc; omega, by show 0 + ms ≤ ms; omega⟩ ht (fun z h => by
    simp only [List.mem_cons, List.not_mem_nil, or_false] at h
    subst h
    exact Or.inr ⟨by decide, "java/lang/IndexOutOfBoundsException", hw _ w_739, (hCE s hC.2.2.2.2.2.1.2).2.2.2.1⟩) (by decide) (by decide) w_740 (va_Nw.use (by decide +kernel) (hCE s hC.2.2.2.2.2.1.2).2.2.1) (fun H locs n1 q hM => ?_)
  refine lv_astore (lv' := [(5, .ref q), (0, .ref bo), (1, .int p0), (2, .int p1), (3, .int p2), (4, .ref oa)]) hx hb dL_refusal_19 hl (by decide) rfl (fun ls hl => ?_)
  refine lv_iconst (v := 2) hx hb dL_refusal_21 (by decide) ?_
  refine W.widen (k := mc) (n := ms) (by omega) (by omega) ?_
  exact me_nret hC hr hlk hM rfl rfl dL_refusal_22
set_option maxHeartbeats 4000000 in
theorem c_L_refusalCause (l : Launch) (D : va_G) (tb : Nat → ClassId) (X : State → Prop) (z0 n : Nat) (bo oa : Nat) (p0 p1 p2 : Int32) {M M' : me_M} {mc ms : Nat} {rm : Room} {n' : Nat} {r : Int32} {f : Nat → Int64} {fs : List Value} (hrc : rm.cells = mc) (hrs : rm.slots = ms) (hR : rm.frames ≤ 12 ∧ rm.locals ≤ 440) (he : M bo = some (.inr (7, fs))) (ho : M' oa = some (.inl (tb 3, 1, .inr (.inl f)))) (ct : Met l yX7_refusalCause (.code yX7_refusalCause cX7_refusalCause 4 (some .int) :: ws_all) rm (me_Pc [.ref bo, .int p0, .int p1, .int p2] D tb X z0 M n) (me_Qi D z0 r M' n') mc ms (me_A z0)) : Met l yL_refusalCause (.codeWith yL_refusalCause cL_refusalCause 6 (some .int) [(0, 12, 15, 19), (0, 12, 19, 21)] :: ws_all) ({ frames := 13, cells := mc, slots := ms, locals := 480 } : Room) (me_Pc [.ref bo, .int p0, .int p1, .int p2, .ref oa] D tb X z0 M n) (me_Qn D z0 0 (me_up M' oa (.inl (tb 3, 1, .inr (.inl (vp_updL f 0 r.toInt64)))))) mc ms (me_A z0) := by
  refine me_openH (by decide) (Nat.le_of_ble_eq_true rfl) ?_
  intro p e s m args below meth c ls hC ht hr hlk hM hl
  have hl : lv_has ls 6 [(0, .ref bo), (1, .int p0), (2, .int p1), (3, .int p2), (4, .ref oa)] := hl
  have hx := hC.1
  have hb := hC.2.1
  have hw := hC.2.2.2.2.1
  refine lv_aload hx hb dL_refusalCause_0 (lv_at hl 4 rfl) ?_
  refine lv_iconst (v := 0) hx hb dL_refusalCause_2 (by decide) ?_
  refine lv_aload_n hx hb dL_refusalCause_3 rfl (lv_at hl 0 rfl) ?_
  refine lv_iload_n hx hb dL_refusalCause_4 rfl (lv_at hl 1 rfl) ?_
  refine lv_iload_n hx hb dL_refusalCause_5 rfl (lv_at hl 2 rfl) ?_
  refine lv_iload_n hx hb dL_refusalCause_6 rfl (lv_at hl 3 rfl) ?_
  refine me_callVi (As := [.int p0, .int p1, .int p2]) (rest := [.int 0, .ref oa]) hC hl.1 hM ct (kv_L_79 hw hrc hrs ⟨by show rm.frames + 1 ≤ 13; omega, by show 8 + (4 + 11) + rm.locals ≤ 480; omega⟩) rfl rfl he rfl (Nat.le_of_ble_eq_true rfl) dL_refusalCause_7 ⟨by show 0 + mc ≤ mc; omega, by show 0 + ms ≤ ms; omega⟩ (fun H locs hM => ?_)
  refine lv_i2l hx hb dL_refusalCause_10 rfl ?_
  refine me_last (k := 0) (M2 := me_up M' oa (.inl (tb 3, 1, .inr (.inl (vp_updL f 0 r.toInt64))))) hC hM ho rfl (by decide) (by decide) rfl dL_refusalCause_11 (fun H locs hM => ?_)
  refine lv_goto (tgt := 23) hx hb dL_refusalCause_12 (by decide) ?_
  refine lv_iconst (v := 0) hx hb dL_refusalCause_23 (by decide) ?_
  refine W.widen (k := mc) (n := ms) (by omega) (by omega) ?_
  exact me_nret hC hr hlk hM rfl rfl dL_refusalCause_24
set_option maxHeartbeats 4000000 in
theorem c_L_refusalCause_x1 (l : Launch) (D : va_G) (tb : Nat → ClassId) (X : State → Prop) (z0 n : Nat) (bo oa : Nat) (p0 p1 p2 : Int32) {M M' : me_M} {mc ms : Nat} {rm : Room} {fs : List Value} (hCE : ∀ U, X U → me_ce U) (hrc : rm.cells = mc) (hrs : rm.slots = ms) (hR : rm.frames ≤ 12 ∧ rm.locals ≤ 440) (he : M bo = some (.inr (7, fs))) (ct : vx_Met l yX7_refusalCause (.code yX7_refusalCause cX7_refusalCause 4 (some .int) :: ws_all) rm (me_Pc [.ref bo, .int p0, .int p1, .int p2] D tb X z0 M n) me_no (me_XC D z0 M' "java/lang/IndexOutOfBoundsException") mc ms (me_A z0)) : Met l yL_refusalCause (.codeWith yL_refusalCause cL_refusalCause 6 (some .int) [(0, 12, 15, 19), (0, 12, 19, 21)] :: ws_all) ({ frames := 13, cells := mc, slots := ms, locals := 480 } : Room) (me_Pc [.ref bo, .int p0, .int p1, .int p2, .ref oa] D tb X z0 M n) (me_Qn D z0 1 M') mc ms (me_A z0) := by
  refine me_openH (by decide) (Nat.le_of_ble_eq_true rfl) ?_
  intro p e s m args below meth c ls hC ht hr hlk hM hl
  have hl : lv_has ls 6 [(0, .ref bo), (1, .int p0), (2, .int p1), (3, .int p2), (4, .ref oa)] := hl
  have hx := hC.1
  have hb := hC.2.1
  have hw := hC.2.2.2.2.1
  refine lv_aload hx hb dL_refusalCause_0 (lv_at hl 4 rfl) ?_
  refine lv_iconst (v := 0) hx hb dL_refusalCause_2 (by decide) ?_
  refine lv_aload_n hx hb dL_refusalCause_3 rfl (lv_at hl 0 rfl) ?_
  refine lv_iload_n hx hb dL_refusalCause_4 rfl (lv_at hl 1 rfl) ?_
  refine lv_iload_n hx hb dL_refusalCause_5 rfl (lv_at hl 2 rfl) ?_
  refine lv_iload_n hx hb dL_refusalCause_6 rfl (lv_at hl 3 rfl) ?_
  refine me_xcat (E0 := "java/lang/IndexOutOfBoundsException") (pre := []) (x := ⟨0, 12, 15, 19⟩) (suf := [⟨0, 12, 19, 21⟩]) (As := [.int p0, .int p1, .int p2]) (rest := [.int 0, .ref oa]) hC hl.1 hM ct (kv_L_79 hw hrc hrs ⟨by show rm.frames + 1 ≤ 13; omega, by show 8 + (4 + 11) + rm.locals ≤ 480; omega⟩) rfl rfl he rfl (Nat.le_of_ble_eq_true rfl) dL_refusalCause_7 ⟨by show 0 + mc ≤ mc; omega, by show 0 + ms ≤ ms; omega⟩ ht (fun z h => absurd h List.not_mem_nil) (by decide) (by decide) w_739 (va_Nw.use (by decide +kernel) (hCE s hC.2.2.2.2.2.1.2).2.1) (fun H locs n1 q hM => ?_)
  refine lv_astore (lv' := [(5, .ref q), (0, .ref bo), (1, .int p0), (2, .int p1), (3, .int p2), (4, .ref oa)]) hx hb dL_refusalCause_15 hl (by decide) rfl (fun ls hl => ?_)
  refine lv_iconst (v := 1) hx hb dL_refusalCause_17 (by decide) ?_
  refine W.widen (k := mc) (n := ms) (by omega) (by omega) ?_
  exact me_nret hC hr hlk hM rfl rfl dL_refusalCause_18
set_option maxHeartbeats 4000000 in
theorem c_L_refusalCause_x2 (l : Launch) (D : va_G) (tb : Nat → ClassId) (X : State → Prop) (z0 n : Nat) (bo oa : Nat) (p0 p1 p2 : Int32) {M M' : me_M} {mc ms : Nat} {rm : Room} {fs : List Value} (hCE : ∀ U, X U → me_ce U) (hrc : rm.cells = mc) (hrs : rm.slots = ms) (hR : rm.frames ≤ 12 ∧ rm.locals ≤ 440) (he : M bo = some (.inr (7, fs))) (ct : vx_Met l yX7_refusalCause (.code yX7_refusalCause cX7_refusalCause 4 (some .int) :: ws_all) rm (me_Pc [.ref bo, .int p0, .int p1, .int p2] D tb X z0 M n) me_no (me_XC D z0 M' "java/lang/IllegalArgumentException") mc ms (me_A z0)) : Met l yL_refusalCause (.codeWith yL_refusalCause cL_refusalCause 6 (some .int) [(0, 12, 15, 19), (0, 12, 19, 21)] :: ws_all) ({ frames := 13, cells := mc, slots := ms, locals := 480 } : Room) (me_Pc [.ref bo, .int p0, .int p1, .int p2, .ref oa] D tb X z0 M n) (me_Qn D z0 2 M') mc ms (me_A z0) := by
  refine me_openH (by decide) (Nat.le_of_ble_eq_true rfl) ?_
  intro p e s m args below meth c ls hC ht hr hlk hM hl
  have hl : lv_has ls 6 [(0, .ref bo), (1, .int p0), (2, .int p1), (3, .int p2), (4, .ref oa)] := hl
  have hx := hC.1
  have hb := hC.2.1
  have hw := hC.2.2.2.2.1
  refine lv_aload hx hb dL_refusalCause_0 (lv_at hl 4 rfl) ?_
  refine lv_iconst (v := 0) hx hb dL_refusalCause_2 (by decide) ?_
  refine lv_aload_n hx hb dL_refusalCause_3 rfl (lv_at hl 0 rfl) ?_
  refine lv_iload_n hx hb dL_refusalCause_4 rfl (lv_at hl 1 rfl) ?_
  refine lv_iload_n hx hb dL_refusalCause_5 rfl (lv_at hl 2 rfl) ?_
  refine lv_iload_n hx hb dL_refusalCause_6 rfl (lv_at hl 3 rfl) ?_
  refine me_xcat (E0 := "java/lang/IllegalArgumentException") (pre := [⟨0, 12, 15, 19⟩]) (x := ⟨0, 12, 19, 21⟩) (suf := []) (As := [.int p0, .int p1, .int p2]) (rest := [.int 0, .ref oa]) hC hl.1 hM ct (kv_L_79 hw hrc hrs ⟨by show rm.frames + 1 ≤ 13; omega, by show 8 + (4 + 11) + rm.locals ≤ 480; omega⟩) rfl rfl he rfl (Nat.le_of_ble_eq_true rfl) dL_refusalCause_7 ⟨by show 0 + mc ≤ mc; omega, by show 0 + ms ≤ ms; omega⟩ ht (fun z h => by
    simp only [List.mem_cons, List.not_mem_nil, or_false] at h
    subst h
    exact Or.inr ⟨by decide, "java/lang/IndexOutOfBoundsException", hw _ w_739, (hCE s hC.2.2.2.2.2.1.2).2.2.2.1⟩) (by decide) (by decide) w_740 (va_Nw.use (by decide +kernel) (hCE s hC.2.2.2.2.2.1.2).2.2.1) (fun H locs n1 q hM => ?_)
  refine lv_astore (lv' := [(5, .ref q), (0, .ref bo), (1, .int p0), (2, .int p1), (3, .int p2), (4, .ref oa)]) hx hb dL_refusalCause_19 hl (by decide) rfl (fun ls hl => ?_)
  refine lv_iconst (v := 2) hx hb dL_refusalCause_21 (by decide) ?_
  refine W.widen (k := mc) (n := ms) (by omega) (by omega) ?_
  exact me_nret hC hr hlk hM rfl rfl dL_refusalCause_22
set_option maxHeartbeats 4000000 in
theorem c_L_displacedBy (l : Launch) (D : va_G) (tb : Nat → ClassId) (X : State → Prop) (z0 n : Nat) (bo oa : Nat) (p0 p1 p2 : Int32) {M M' : me_M} {mc ms : Nat} {rm : Room} {n' : Nat} {r : Int32} {f : Nat → Int64} {fs : List Value} (hrc : rm.cells = mc) (hrs : rm.slots = ms) (hR : rm.frames ≤ 12 ∧ rm.locals ≤ 440) (he : M bo = some (.inr (7, fs))) (ho : M' oa = some (.inl (tb 3, 1, .inr (.inl f)))) (ct : Met l yX7_displacedBy (.code yX7_displacedBy cX7_displacedBy 4 (some .int) :: ws_all) rm (me_Pc [.ref bo, .int p0, .int p1, .int p2] D tb X z0 M n) (me_Qi D z0 r M' n') mc ms (me_A z0)) : Met l yL_displacedBy (.codeWith yL_displacedBy cL_displacedBy 6 (some .int) [(0, 12, 15, 19), (0, 12, 19, 21)] :: ws_all) ({ frames := 13, cells := mc, slots := ms, locals := 480 } : Room) (me_Pc [.ref bo, .int p0, .int p1, .int p2, .ref oa] D tb X z0 M n) (me_Qn D z0 0 (me_up M' oa (.inl (tb 3, 1, .inr (.inl (vp_updL f 0 r.toInt64)))))) mc ms (me_A z0) := by
  refine me_openH (by decide) (Nat.le_of_ble_eq_true rfl) ?_
  intro p e s m args below meth c ls hC ht hr hlk hM hl
  have hl : lv_has ls 6 [(0, .ref bo), (1, .int p0), (2, .int p1), (3, .int p2), (4, .ref oa)] := hl
  have hx := hC.1
  have hb := hC.2.1
  have hw := hC.2.2.2.2.1
  refine lv_aload hx hb dL_displacedBy_0 (lv_at hl 4 rfl) ?_
  refine lv_iconst (v := 0) hx hb dL_displacedBy_2 (by decide) ?_
  refine lv_aload_n hx hb dL_displacedBy_3 rfl (lv_at hl 0 rfl) ?_
  refine lv_iload_n hx hb dL_displacedBy_4 rfl (lv_at hl 1 rfl) ?_
  refine lv_iload_n hx hb dL_displacedBy_5 rfl (lv_at hl 2 rfl) ?_
  refine lv_iload_n hx hb dL_displacedBy_6 rfl (lv_at hl 3 rfl) ?_
  refine me_callVi (As := [.int p0, .int p1, .int p2]) (rest := [.int 0, .ref oa]) hC hl.1 hM ct (kv_L_82 hw hrc hrs ⟨by show rm.frames + 1 ≤ 13; omega, by show 8 + (4 + 11) + rm.locals ≤ 480; omega⟩) rfl rfl he rfl (Nat.le_of_ble_eq_true rfl) dL_displacedBy_7 ⟨by show 0 + mc ≤ mc; omega, by show 0 + ms ≤ ms; omega⟩ (fun H locs hM => ?_)
  refine lv_i2l hx hb dL_displacedBy_10 rfl ?_
  refine me_last (k := 0) (M2 := me_up M' oa (.inl (tb 3, 1, .inr (.inl (vp_updL f 0 r.toInt64))))) hC hM ho rfl (by decide) (by decide) rfl dL_displacedBy_11 (fun H locs hM => ?_)
  refine lv_goto (tgt := 23) hx hb dL_displacedBy_12 (by decide) ?_
  refine lv_iconst (v := 0) hx hb dL_displacedBy_23 (by decide) ?_
  refine W.widen (k := mc) (n := ms) (by omega) (by omega) ?_
  exact me_nret hC hr hlk hM rfl rfl dL_displacedBy_24
set_option maxHeartbeats 4000000 in
theorem c_L_displacedBy_x1 (l : Launch) (D : va_G) (tb : Nat → ClassId) (X : State → Prop) (z0 n : Nat) (bo oa : Nat) (p0 p1 p2 : Int32) {M M' : me_M} {mc ms : Nat} {rm : Room} {fs : List Value} (hCE : ∀ U, X U → me_ce U) (hrc : rm.cells = mc) (hrs : rm.slots = ms) (hR : rm.frames ≤ 12 ∧ rm.locals ≤ 440) (he : M bo = some (.inr (7, fs))) (ct : vx_Met l yX7_displacedBy (.code yX7_displacedBy cX7_displacedBy 4 (some .int) :: ws_all) rm (me_Pc [.ref bo, .int p0, .int p1, .int p2] D tb X z0 M n) me_no (me_XC D z0 M' "java/lang/IndexOutOfBoundsException") mc ms (me_A z0)) : Met l yL_displacedBy (.codeWith yL_displacedBy cL_displacedBy 6 (some .int) [(0, 12, 15, 19), (0, 12, 19, 21)] :: ws_all) ({ frames := 13, cells := mc, slots := ms, locals := 480 } : Room) (me_Pc [.ref bo, .int p0, .int p1, .int p2, .ref oa] D tb X z0 M n) (me_Qn D z0 1 M') mc ms (me_A z0) := by
  refine me_openH (by decide) (Nat.le_of_ble_eq_true rfl) ?_
  intro p e s m args below meth c ls hC ht hr hlk hM hl
  have hl : lv_has ls 6 [(0, .ref bo), (1, .int p0), (2, .int p1), (3, .int p2), (4, .ref oa)] := hl
  have hx := hC.1
  have hb := hC.2.1
  have hw := hC.2.2.2.2.1
  refine lv_aload hx hb dL_displacedBy_0 (lv_at hl 4 rfl) ?_
  refine lv_iconst (v := 0) hx hb dL_displacedBy_2 (by decide) ?_
  refine lv_aload_n hx hb dL_displacedBy_3 rfl (lv_at hl 0 rfl) ?_
  refine lv_iload_n hx hb dL_displacedBy_4 rfl (lv_at hl 1 rfl) ?_
  refine lv_iload_n hx hb dL_displacedBy_5 rfl (lv_at hl 2 rfl) ?_
  refine lv_iload_n hx hb dL_displacedBy_6 rfl (lv_at hl 3 rfl) ?_
  refine me_xcat (E0 := "java/lang/IndexOutOfBoundsException") (pre := []) (x := ⟨0, 12, 15, 19⟩) (suf := [⟨0, 12, 19, 21⟩]) (As := [.int p0, .int p1, .int p2]) (rest := [.int 0, .ref oa]) hC hl.1 hM ct (kv_L_82 hw hrc hrs ⟨by show rm.frames + 1 ≤ 13; omega, by show 8 + (4 + 11) + rm.locals ≤ 480; omega⟩) rfl rfl he rfl (Nat.le_of_ble_eq_true rfl) dL_displacedBy_7 ⟨by show 0 + mc ≤ mc; omega, by show 0 + ms ≤ ms; omega⟩ ht (fun z h => absurd h List.not_mem_nil) (by decide) (by decide) w_739 (va_Nw.use (by decide +kernel) (hCE s hC.2.2.2.2.2.1.2).2.1) (fun H locs n1 q hM => ?_)
  refine lv_astore (lv' := [(5, .ref q), (0, .ref bo), (1, .int p0), (2, .int p1), (3, .int p2), (4, .ref oa)]) hx hb dL_displacedBy_15 hl (by decide) rfl (fun ls hl => ?_)
  refine lv_iconst (v := 1) hx hb dL_displacedBy_17 (by decide) ?_
  refine W.widen (k := mc) (n := ms) (by omega) (by omega) ?_
  exact me_nret hC hr hlk hM rfl rfl dL_displacedBy_18
set_option maxHeartbeats 4000000 in
theorem c_L_displacedBy_x2 (l : Launch) (D : va_G) (tb : Nat → ClassId) (X : State → Prop) (z0 n : Nat) (bo oa : Nat) (p0 p1 p2 : Int32) {M M' : me_M} {mc ms : Nat} {rm : Room} {fs : List Value} (hCE : ∀ U, X U → me_ce U) (hrc : rm.cells = mc) (hrs : rm.slots = ms) (hR : rm.frames ≤ 12 ∧ rm.locals ≤ 440) (he : M bo = some (.inr (7, fs))) (ct : vx_Met l yX7_displacedBy (.code yX7_displacedBy cX7_displacedBy 4 (some .int) :: ws_all) rm (me_Pc [.ref bo, .int p0, .int p1, .int p2] D tb X z0 M n) me_no (me_XC D z0 M' "java/lang/IllegalArgumentException") mc ms (me_A z0)) : Met l yL_displacedBy (.codeWith yL_displacedBy cL_displacedBy 6 (some .int) [(0, 12, 15, 19), (0, 12, 19, 21)] :: ws_all) ({ frames := 13, cells := mc, slots := ms, locals := 480 } : Room) (me_Pc [.ref bo, .int p0, .int p1, .int p2, .ref oa] D tb X z0 M n) (me_Qn D z0 2 M') mc ms (me_A z0) := by
  refine me_openH (by decide) (Nat.le_of_ble_eq_true rfl) ?_
  intro p e s m args below meth c ls hC ht hr hlk hM hl
  have hl : lv_has ls 6 [(0, .ref bo), (1, .int p0), (2, .int p1), (3, .int p2), (4, .ref oa)] := hl
  have hx := hC.1
  have hb := hC.2.1
  have hw := hC.2.2.2.2.1
  refine lv_aload hx hb dL_displacedBy_0 (lv_at hl 4 rfl) ?_
  refine lv_iconst (v := 0) hx hb dL_displacedBy_2 (by decide) ?_
  refine lv_aload_n hx hb dL_displacedBy_3 rfl (lv_at hl 0 rfl) ?_
  refine lv_iload_n hx hb dL_displacedBy_4 rfl (lv_at hl 1 rfl) ?_
  refine lv_iload_n hx hb dL_displacedBy_5 rfl (lv_at hl 2 rfl) ?_
  refine lv_iload_n hx hb dL_displacedBy_6 rfl (lv_at hl 3 rfl) ?_
  refine me_xcat (E0 := "java/lang/IllegalArgumentException") (pre := [⟨0, 12, 15, 19⟩]) (x := ⟨0, 12, 19, 21⟩) (suf := []) (As := [.int p0, .int p1, .int p2]) (rest := [.int 0, .ref oa]) hC hl.1 hM ct (kv_L_82 hw hrc hrs ⟨by show rm.frames + 1 ≤ 13; omega, by show 8 + (4 + 11) + rm.locals ≤ 480; omega⟩) rfl rfl he rfl (Nat.le_of_ble_eq_true rfl) dL_displacedBy_7 ⟨by show 0 + mc ≤ mc; omega, by show 0 + ms ≤ ms; omega⟩ ht (fun z h => by
    simp only [List.mem_cons, List.not_mem_nil, or_false] at h
    subst h
    exact Or.inr ⟨by decide, "java/lang/IndexOutOfBoundsException", hw _ w_739, (hCE s hC.2.2.2.2.2.1.2).2.2.2.1⟩) (by decide) (by decide) w_740 (va_Nw.use (by decide +kernel) (hCE s hC.2.2.2.2.2.1.2).2.2.1) (fun H locs n1 q hM => ?_)
  refine lv_astore (lv' := [(5, .ref q), (0, .ref bo), (1, .int p0), (2, .int p1), (3, .int p2), (4, .ref oa)]) hx hb dL_displacedBy_19 hl (by decide) rfl (fun ls hl => ?_)
  refine lv_iconst (v := 2) hx hb dL_displacedBy_21 (by decide) ?_
  refine W.widen (k := mc) (n := ms) (by omega) (by omega) ?_
  exact me_nret hC hr hlk hM rfl rfl dL_displacedBy_22
set_option maxHeartbeats 4000000 in
theorem c_L_earliestStart (l : Launch) (D : va_G) (tb : Nat → ClassId) (X : State → Prop) (z0 n : Nat) (bo oa : Nat) (p0 p1 : Int32) {M M' : me_M} {mc ms : Nat} {rm : Room} {n' : Nat} {r : Int32} {f : Nat → Int64} {fs : List Value} (hrc : rm.cells = mc) (hrs : rm.slots = ms) (hR : rm.frames ≤ 12 ∧ rm.locals ≤ 440) (he : M bo = some (.inr (7, fs))) (ho : M' oa = some (.inl (tb 3, 1, .inr (.inl f)))) (ct : Met l yX7_earliestStart (.code yX7_earliestStart cX7_earliestStart 3 (some .int) :: ws_all) rm (me_Pc [.ref bo, .int p0, .int p1] D tb X z0 M n) (me_Qi D z0 r M' n') mc ms (me_A z0)) : Met l yL_earliestStart (.codeWith yL_earliestStart cL_earliestStart 5 (some .int) [(0, 10, 13, 19), (0, 10, 17, 21)] :: ws_all) ({ frames := 13, cells := mc, slots := ms, locals := 480 } : Room) (me_Pc [.ref bo, .int p0, .int p1, .ref oa] D tb X z0 M n) (me_Qn D z0 0 (me_up M' oa (.inl (tb 3, 1, .inr (.inl (vp_updL f 0 r.toInt64)))))) mc ms (me_A z0) := by
  refine me_openH (by decide) (Nat.le_of_ble_eq_true rfl) ?_
  intro p e s m args below meth c ls hC ht hr hlk hM hl
  have hl : lv_has ls 5 [(0, .ref bo), (1, .int p0), (2, .int p1), (3, .ref oa)] := hl
  have hx := hC.1
  have hb := hC.2.1
  have hw := hC.2.2.2.2.1
  refine lv_aload_n hx hb dL_earliestStart_0 rfl (lv_at hl 3 rfl) ?_
  refine lv_iconst (v := 0) hx hb dL_earliestStart_1 (by decide) ?_
  refine lv_aload_n hx hb dL_earliestStart_2 rfl (lv_at hl 0 rfl) ?_
  refine lv_iload_n hx hb dL_earliestStart_3 rfl (lv_at hl 1 rfl) ?_
  refine lv_iload_n hx hb dL_earliestStart_4 rfl (lv_at hl 2 rfl) ?_
  refine me_callVi (As := [.int p0, .int p1]) (rest := [.int 0, .ref oa]) hC hl.1 hM ct (kv_L_85 hw hrc hrs ⟨by show rm.frames + 1 ≤ 13; omega, by show 8 + (3 + 11) + rm.locals ≤ 480; omega⟩) rfl rfl he rfl (Nat.le_of_ble_eq_true rfl) dL_earliestStart_5 ⟨by show 0 + mc ≤ mc; omega, by show 0 + ms ≤ ms; omega⟩ (fun H locs hM => ?_)
  refine lv_i2l hx hb dL_earliestStart_8 rfl ?_
  refine me_last (k := 0) (M2 := me_up M' oa (.inl (tb 3, 1, .inr (.inl (vp_updL f 0 r.toInt64))))) hC hM ho rfl (by decide) (by decide) rfl dL_earliestStart_9 (fun H locs hM => ?_)
  refine lv_goto (tgt := 21) hx hb dL_earliestStart_10 (by decide) ?_
  refine lv_iconst (v := 0) hx hb dL_earliestStart_21 (by decide) ?_
  refine W.widen (k := mc) (n := ms) (by omega) (by omega) ?_
  exact me_nret hC hr hlk hM rfl rfl dL_earliestStart_22
set_option maxHeartbeats 4000000 in
theorem c_L_earliestStart_x1 (l : Launch) (D : va_G) (tb : Nat → ClassId) (X : State → Prop) (z0 n : Nat) (bo oa : Nat) (p0 p1 : Int32) {M M' : me_M} {mc ms : Nat} {rm : Room} {fs : List Value} (hCE : ∀ U, X U → me_ce U) (hrc : rm.cells = mc) (hrs : rm.slots = ms) (hR : rm.frames ≤ 12 ∧ rm.locals ≤ 440) (he : M bo = some (.inr (7, fs))) (ct : vx_Met l yX7_earliestStart (.code yX7_earliestStart cX7_earliestStart 3 (some .int) :: ws_all) rm (me_Pc [.ref bo, .int p0, .int p1] D tb X z0 M n) me_no (me_XC D z0 M' "java/lang/IndexOutOfBoundsException") mc ms (me_A z0)) : Met l yL_earliestStart (.codeWith yL_earliestStart cL_earliestStart 5 (some .int) [(0, 10, 13, 19), (0, 10, 17, 21)] :: ws_all) ({ frames := 13, cells := mc, slots := ms, locals := 480 } : Room) (me_Pc [.ref bo, .int p0, .int p1, .ref oa] D tb X z0 M n) (me_Qn D z0 1 M') mc ms (me_A z0) := by
  refine me_openH (by decide) (Nat.le_of_ble_eq_true rfl) ?_
  intro p e s m args below meth c ls hC ht hr hlk hM hl
  have hl : lv_has ls 5 [(0, .ref bo), (1, .int p0), (2, .int p1), (3, .ref oa)] := hl
  have hx := hC.1
  have hb := hC.2.1
  have hw := hC.2.2.2.2.1
  refine lv_aload_n hx hb dL_earliestStart_0 rfl (lv_at hl 3 rfl) ?_
  refine lv_iconst (v := 0) hx hb dL_earliestStart_1 (by decide) ?_
  refine lv_aload_n hx hb dL_earliestStart_2 rfl (lv_at hl 0 rfl) ?_
  refine lv_iload_n hx hb dL_earliestStart_3 rfl (lv_at hl 1 rfl) ?_
  refine lv_iload_n hx hb dL_earliestStart_4 rfl (lv_at hl 2 rfl) ?_
  refine me_xcat (E0 := "java/lang/IndexOutOfBoundsException") (pre := []) (x := ⟨0, 10, 13, 19⟩) (suf := [⟨0, 10, 17, 21⟩]) (As := [.int p0, .int p1]) (rest := [.int 0, .ref oa]) hC hl.1 hM ct (kv_L_85 hw hrc hrs ⟨by show rm.frames + 1 ≤ 13; omega, by show 8 + (3 + 11) + rm.locals ≤ 480; omega⟩) rfl rfl he rfl (Nat.le_of_ble_eq_true rfl) dL_earliestStart_5 ⟨by show 0 + mc ≤ mc; omega, by show 0 + ms ≤ ms; omega⟩ ht (fun z h => absurd h List.not_mem_nil) (by decide) (by decide) w_739 (va_Nw.use (by decide +kernel) (hCE s hC.2.2.2.2.2.1.2).2.1) (fun H locs n1 q hM => ?_)
  refine lv_astore (lv' := [(4, .ref q), (0, .ref bo), (1, .int p0), (2, .int p1), (3, .ref oa)]) hx hb dL_earliestStart_13 hl (by decide) rfl (fun ls hl => ?_)
  refine lv_iconst (v := 1) hx hb dL_earliestStart_15 (by decide) ?_
  refine W.widen (k := mc) (n := ms) (by omega) (by omega) ?_
  exact me_nret hC hr hlk hM rfl rfl dL_earliestStart_16
set_option maxHeartbeats 4000000 in
theorem c_L_earliestStart_x2 (l : Launch) (D : va_G) (tb : Nat → ClassId) (X : State → Prop) (z0 n : Nat) (bo oa : Nat) (p0 p1 : Int32) {M M' : me_M} {mc ms : Nat} {rm : Room} {fs : List Value} (hCE : ∀ U, X U → me_ce U) (hrc : rm.cells = mc) (hrs : rm.slots = ms) (hR : rm.frames ≤ 12 ∧ rm.locals ≤ 440) (he : M bo = some (.inr (7, fs))) (ct : vx_Met l yX7_earliestStart (.code yX7_earliestStart cX7_earliestStart 3 (some .int) :: ws_all) rm (me_Pc [.ref bo, .int p0, .int p1] D tb X z0 M n) me_no (me_XC D z0 M' "java/lang/IllegalArgumentException") mc ms (me_A z0)) : Met l yL_earliestStart (.codeWith yL_earliestStart cL_earliestStart 5 (some .int) [(0, 10, 13, 19), (0, 10, 17, 21)] :: ws_all) ({ frames := 13, cells := mc, slots := ms, locals := 480 } : Room) (me_Pc [.ref bo, .int p0, .int p1, .ref oa] D tb X z0 M n) (me_Qn D z0 2 M') mc ms (me_A z0) := by
  refine me_openH (by decide) (Nat.le_of_ble_eq_true rfl) ?_
  intro p e s m args below meth c ls hC ht hr hlk hM hl
  have hl : lv_has ls 5 [(0, .ref bo), (1, .int p0), (2, .int p1), (3, .ref oa)] := hl
  have hx := hC.1
  have hb := hC.2.1
  have hw := hC.2.2.2.2.1
  refine lv_aload_n hx hb dL_earliestStart_0 rfl (lv_at hl 3 rfl) ?_
  refine lv_iconst (v := 0) hx hb dL_earliestStart_1 (by decide) ?_
  refine lv_aload_n hx hb dL_earliestStart_2 rfl (lv_at hl 0 rfl) ?_
  refine lv_iload_n hx hb dL_earliestStart_3 rfl (lv_at hl 1 rfl) ?_
  refine lv_iload_n hx hb dL_earliestStart_4 rfl (lv_at hl 2 rfl) ?_
  refine me_xcat (E0 := "java/lang/IllegalArgumentException") (pre := [⟨0, 10, 13, 19⟩]) (x := ⟨0, 10, 17, 21⟩) (suf := []) (As := [.int p0, .int p1]) (rest := [.int 0, .ref oa]) hC hl.1 hM ct (kv_L_85 hw hrc hrs ⟨by show rm.frames + 1 ≤ 13; omega, by show 8 + (3 + 11) + rm.locals ≤ 480; omega⟩) rfl rfl he rfl (Nat.le_of_ble_eq_true rfl) dL_earliestStart_5 ⟨by show 0 + mc ≤ mc; omega, by show 0 + ms ≤ ms; omega⟩ ht (fun z h => by
    simp only [List.mem_cons, List.not_mem_nil, or_false] at h
    subst h
    exact Or.inr ⟨by decide, "java/lang/IndexOutOfBoundsException", hw _ w_739, (hCE s hC.2.2.2.2.2.1.2).2.2.2.1⟩) (by decide) (by decide) w_740 (va_Nw.use (by decide +kernel) (hCE s hC.2.2.2.2.2.1.2).2.2.1) (fun H locs n1 q hM => ?_)
  refine lv_astore (lv' := [(4, .ref q), (0, .ref bo), (1, .int p0), (2, .int p1), (3, .ref oa)]) hx hb dL_earliestStart_17 hl (by decide) rfl (fun ls hl => ?_)
  refine lv_iconst (v := 2) hx hb dL_earliestStart_19 (by decide) ?_
  refine W.widen (k := mc) (n := ms) (by omega) (by omega) ?_
  exact me_nret hC hr hlk hM rfl rfl dL_earliestStart_20
set_option maxHeartbeats 4000000 in
theorem c_L_earliestPeacefulStart (l : Launch) (D : va_G) (tb : Nat → ClassId) (X : State → Prop) (z0 n : Nat) (bo oa : Nat) (p0 p1 : Int32) {M M' : me_M} {mc ms : Nat} {rm : Room} {n' : Nat} {r : Int32} {f : Nat → Int64} {fs : List Value} (hrc : rm.cells = mc) (hrs : rm.slots = ms) (hR : rm.frames ≤ 12 ∧ rm.locals ≤ 440) (he : M bo = some (.inr (7, fs))) (ho : M' oa = some (.inl (tb 3, 1, .inr (.inl f)))) (ct : Met l yX7_earliestPeacefulStart (.code yX7_earliestPeacefulStart cX7_earliestPeacefulStart 3 (some .int) :: ws_all) rm (me_Pc [.ref bo, .int p0, .int p1] D tb X z0 M n) (me_Qi D z0 r M' n') mc ms (me_A z0)) : Met l yL_earliestPeacefulStart (.codeWith yL_earliestPeacefulStart cL_earliestPeacefulStart 5 (some .int) [(0, 10, 13, 19), (0, 10, 17, 21)] :: ws_all) ({ frames := 13, cells := mc, slots := ms, locals := 480 } : Room) (me_Pc [.ref bo, .int p0, .int p1, .ref oa] D tb X z0 M n) (me_Qn D z0 0 (me_up M' oa (.inl (tb 3, 1, .inr (.inl (vp_updL f 0 r.toInt64)))))) mc ms (me_A z0) := by
  refine me_openH (by decide) (Nat.le_of_ble_eq_true rfl) ?_
  intro p e s m args below meth c ls hC ht hr hlk hM hl
  have hl : lv_has ls 5 [(0, .ref bo), (1, .int p0), (2, .int p1), (3, .ref oa)] := hl
  have hx := hC.1
  have hb := hC.2.1
  have hw := hC.2.2.2.2.1
  refine lv_aload_n hx hb dL_earliestPeacefulStart_0 rfl (lv_at hl 3 rfl) ?_
  refine lv_iconst (v := 0) hx hb dL_earliestPeacefulStart_1 (by decide) ?_
  refine lv_aload_n hx hb dL_earliestPeacefulStart_2 rfl (lv_at hl 0 rfl) ?_
  refine lv_iload_n hx hb dL_earliestPeacefulStart_3 rfl (lv_at hl 1 rfl) ?_
  refine lv_iload_n hx hb dL_earliestPeacefulStart_4 rfl (lv_at hl 2 rfl) ?_
  refine me_callVi (As := [.int p0, .int p1]) (rest := [.int 0, .ref oa]) hC hl.1 hM ct (kv_L_88 hw hrc hrs ⟨by show rm.frames + 1 ≤ 13; omega, by show 8 + (3 + 11) + rm.locals ≤ 480; omega⟩) rfl rfl he rfl (Nat.le_of_ble_eq_true rfl) dL_earliestPeacefulStart_5 ⟨by show 0 + mc ≤ mc; omega, by show 0 + ms ≤ ms; omega⟩ (fun H locs hM => ?_)
  refine lv_i2l hx hb dL_earliestPeacefulStart_8 rfl ?_
  refine me_last (k := 0) (M2 := me_up M' oa (.inl (tb 3, 1, .inr (.inl (vp_updL f 0 r.toInt64))))) hC hM ho rfl (by decide) (by decide) rfl dL_earliestPeacefulStart_9 (fun H locs hM => ?_)
  refine lv_goto (tgt := 21) hx hb dL_earliestPeacefulStart_10 (by decide) ?_
  refine lv_iconst (v := 0) hx hb dL_earliestPeacefulStart_21 (by decide) ?_
  refine W.widen (k := mc) (n := ms) (by omega) (by omega) ?_
  exact me_nret hC hr hlk hM rfl rfl dL_earliestPeacefulStart_22
set_option maxHeartbeats 4000000 in
theorem c_L_earliestPeacefulStart_x1 (l : Launch) (D : va_G) (tb : Nat → ClassId) (X : State → Prop) (z0 n : Nat) (bo oa : Nat) (p0 p1 : Int32) {M M' : me_M} {mc ms : Nat} {rm : Room} {fs : List Value} (hCE : ∀ U, X U → me_ce U) (hrc : rm.cells = mc) (hrs : rm.slots = ms) (hR : rm.frames ≤ 12 ∧ rm.locals ≤ 440) (he : M bo = some (.inr (7, fs))) (ct : vx_Met l yX7_earliestPeacefulStart (.code yX7_earliestPeacefulStart cX7_earliestPeacefulStart 3 (some .int) :: ws_all) rm (me_Pc [.ref bo, .int p0, .int p1] D tb X z0 M n) me_no (me_XC D z0 M' "java/lang/IndexOutOfBoundsException") mc ms (me_A z0)) : Met l yL_earliestPeacefulStart (.codeWith yL_earliestPeacefulStart cL_earliestPeacefulStart 5 (some .int) [(0, 10, 13, 19), (0, 10, 17, 21)] :: ws_all) ({ frames := 13, cells := mc, slots := ms, locals := 480 } : Room) (me_Pc [.ref bo, .int p0, .int p1, .ref oa] D tb X z0 M n) (me_Qn D z0 1 M') mc ms (me_A z0) := by
  refine me_openH (by decide) (Nat.le_of_ble_eq_true rfl) ?_
  intro p e s m args below meth c ls hC ht hr hlk hM hl
  have hl : lv_has ls 5 [(0, .ref bo), (1, .int p0), (2, .int p1), (3, .ref oa)] := hl
  have hx := hC.1
  have hb := hC.2.1
  have hw := hC.2.2.2.2.1
  refine lv_aload_n hx hb dL_earliestPeacefulStart_0 rfl (lv_at hl 3 rfl) ?_
  refine lv_iconst (v := 0) hx hb dL_earliestPeacefulStart_1 (by decide) ?_
  refine lv_aload_n hx hb dL_earliestPeacefulStart_2 rfl (lv_at hl 0 rfl) ?_
  refine lv_iload_n hx hb dL_earliestPeacefulStart_3 rfl (lv_at hl 1 rfl) ?_
  refine lv_iload_n hx hb dL_earliestPeacefulStart_4 rfl (lv_at hl 2 rfl) ?_
  refine me_xcat (E0 := "java/lang/IndexOutOfBoundsException") (pre := []) (x := ⟨0, 10, 13, 19⟩) (suf := [⟨0, 10, 17, 21⟩]) (As := [.int p0, .int p1]) (rest := [.int 0, .ref oa]) hC hl.1 hM ct (kv_L_88 hw hrc hrs ⟨by show rm.frames + 1 ≤ 13; omega, by show 8 + (3 + 11) + rm.locals ≤ 480; omega⟩) rfl rfl he rfl (Nat.le_of_ble_eq_true rfl) dL_earliestPeacefulStart_5 ⟨by show 0 + mc ≤ mc; omega, by show 0 + ms ≤ ms; omega⟩ ht (fun z h => absurd h List.not_mem_nil) (by decide) (by decide) w_739 (va_Nw.use (by decide +kernel) (hCE s hC.2.2.2.2.2.1.2).2.1) (fun H locs n1 q hM => ?_)
  refine lv_astore (lv' := [(4, .ref q), (0, .ref bo), (1, .int p0), (2, .int p1), (3, .ref oa)]) hx hb dL_earliestPeacefulStart_13 hl (by decide) rfl (fun ls hl => ?_)
  refine lv_iconst (v := 1) hx hb dL_earliestPeacefulStart_15 (by decide) ?_
  refine W.widen (k := mc) (n := ms) (by omega) (by omega) ?_
  exact me_nret hC hr hlk hM rfl rfl dL_earliestPeacefulStart_16
set_option maxHeartbeats 4000000 in
theorem c_L_earliestPeacefulStart_x2 (l : Launch) (D : va_G) (tb : Nat → ClassId) (X : State → Prop) (z0 n : Nat) (bo oa : Nat) (p0 p1 : Int32) {M M' : me_M} {mc ms : Nat} {rm : Room} {fs : List Value} (hCE : ∀ U, X U → me_ce U) (hrc : rm.cells = mc) (hrs : rm.slots = ms) (hR : rm.frames ≤ 12 ∧ rm.locals ≤ 440) (he : M bo = some (.inr (7, fs))) (ct : vx_Met l yX7_earliestPeacefulStart (.code yX7_earliestPeacefulStart cX7_earliestPeacefulStart 3 (some .int) :: ws_all) rm (me_Pc [.ref bo, .int p0, .int p1] D tb X z0 M n) me_no (me_XC D z0 M' "java/lang/IllegalArgumentException") mc ms (me_A z0)) : Met l yL_earliestPeacefulStart (.codeWith yL_earliestPeacefulStart cL_earliestPeacefulStart 5 (some .int) [(0, 10, 13, 19), (0, 10, 17, 21)] :: ws_all) ({ frames := 13, cells := mc, slots := ms, locals := 480 } : Room) (me_Pc [.ref bo, .int p0, .int p1, .ref oa] D tb X z0 M n) (me_Qn D z0 2 M') mc ms (me_A z0) := by
  refine me_openH (by decide) (Nat.le_of_ble_eq_true rfl) ?_
  intro p e s m args below meth c ls hC ht hr hlk hM hl
  have hl : lv_has ls 5 [(0, .ref bo), (1, .int p0), (2, .int p1), (3, .ref oa)] := hl
  have hx := hC.1
  have hb := hC.2.1
  have hw := hC.2.2.2.2.1
  refine lv_aload_n hx hb dL_earliestPeacefulStart_0 rfl (lv_at hl 3 rfl) ?_
  refine lv_iconst (v := 0) hx hb dL_earliestPeacefulStart_1 (by decide) ?_
  refine lv_aload_n hx hb dL_earliestPeacefulStart_2 rfl (lv_at hl 0 rfl) ?_
  refine lv_iload_n hx hb dL_earliestPeacefulStart_3 rfl (lv_at hl 1 rfl) ?_
  refine lv_iload_n hx hb dL_earliestPeacefulStart_4 rfl (lv_at hl 2 rfl) ?_
  refine me_xcat (E0 := "java/lang/IllegalArgumentException") (pre := [⟨0, 10, 13, 19⟩]) (x := ⟨0, 10, 17, 21⟩) (suf := []) (As := [.int p0, .int p1]) (rest := [.int 0, .ref oa]) hC hl.1 hM ct (kv_L_88 hw hrc hrs ⟨by show rm.frames + 1 ≤ 13; omega, by show 8 + (3 + 11) + rm.locals ≤ 480; omega⟩) rfl rfl he rfl (Nat.le_of_ble_eq_true rfl) dL_earliestPeacefulStart_5 ⟨by show 0 + mc ≤ mc; omega, by show 0 + ms ≤ ms; omega⟩ ht (fun z h => by
    simp only [List.mem_cons, List.not_mem_nil, or_false] at h
    subst h
    exact Or.inr ⟨by decide, "java/lang/IndexOutOfBoundsException", hw _ w_739, (hCE s hC.2.2.2.2.2.1.2).2.2.2.1⟩) (by decide) (by decide) w_740 (va_Nw.use (by decide +kernel) (hCE s hC.2.2.2.2.2.1.2).2.2.1) (fun H locs n1 q hM => ?_)
  refine lv_astore (lv' := [(4, .ref q), (0, .ref bo), (1, .int p0), (2, .int p1), (3, .ref oa)]) hx hb dL_earliestPeacefulStart_17 hl (by decide) rfl (fun ls hl => ?_)
  refine lv_iconst (v := 2) hx hb dL_earliestPeacefulStart_19 (by decide) ?_
  refine W.widen (k := mc) (n := ms) (by omega) (by omega) ?_
  exact me_nret hC hr hlk hM rfl rfl dL_earliestPeacefulStart_20
set_option maxHeartbeats 4000000 in
theorem c_L_illnessAfter (l : Launch) (D : va_G) (tb : Nat → ClassId) (X : State → Prop) (z0 n : Nat) (bo oa : Nat) (p0 p1 : Int32) {M M' : me_M} {mc ms : Nat} {rm : Room} {n' : Nat} {r : Int32} {f : Nat → Int64} {fs : List Value} (hrc : rm.cells = mc) (hrs : rm.slots = ms) (hR : rm.frames ≤ 12 ∧ rm.locals ≤ 440) (he : M bo = some (.inr (7, fs))) (ho : M' oa = some (.inl (tb 3, 1, .inr (.inl f)))) (ct : Met l yX7_illnessAfter (.code yX7_illnessAfter cX7_illnessAfter 3 (some .int) :: ws_all) rm (me_Pc [.ref bo, .int p0, .int p1] D tb X z0 M n) (me_Qi D z0 r M' n') mc ms (me_A z0)) : Met l yL_illnessAfter (.codeWith yL_illnessAfter cL_illnessAfter 5 (some .int) [(0, 10, 13, 19), (0, 10, 17, 21)] :: ws_all) ({ frames := 13, cells := mc, slots := ms, locals := 480 } : Room) (me_Pc [.ref bo, .int p0, .int p1, .ref oa] D tb X z0 M n) (me_Qn D z0 0 (me_up M' oa (.inl (tb 3, 1, .inr (.inl (vp_updL f 0 r.toInt64)))))) mc ms (me_A z0) := by
  refine me_openH (by decide) (Nat.le_of_ble_eq_true rfl) ?_
  intro p e s m args below meth c ls hC ht hr hlk hM hl
  have hl : lv_has ls 5 [(0, .ref bo), (1, .int p0), (2, .int p1), (3, .ref oa)] := hl
  have hx := hC.1
  have hb := hC.2.1
  have hw := hC.2.2.2.2.1
  refine lv_aload_n hx hb dL_illnessAfter_0 rfl (lv_at hl 3 rfl) ?_
  refine lv_iconst (v := 0) hx hb dL_illnessAfter_1 (by decide) ?_
  refine lv_aload_n hx hb dL_illnessAfter_2 rfl (lv_at hl 0 rfl) ?_
  refine lv_iload_n hx hb dL_illnessAfter_3 rfl (lv_at hl 1 rfl) ?_
  refine lv_iload_n hx hb dL_illnessAfter_4 rfl (lv_at hl 2 rfl) ?_
  refine me_callVi (As := [.int p0, .int p1]) (rest := [.int 0, .ref oa]) hC hl.1 hM ct (kv_L_91 hw hrc hrs ⟨by show rm.frames + 1 ≤ 13; omega, by show 8 + (3 + 11) + rm.locals ≤ 480; omega⟩) rfl rfl he rfl (Nat.le_of_ble_eq_true rfl) dL_illnessAfter_5 ⟨by show 0 + mc ≤ mc; omega, by show 0 + ms ≤ ms; omega⟩ (fun H locs hM => ?_)
  refine lv_i2l hx hb dL_illnessAfter_8 rfl ?_
  refine me_last (k := 0) (M2 := me_up M' oa (.inl (tb 3, 1, .inr (.inl (vp_updL f 0 r.toInt64))))) hC hM ho rfl (by decide) (by decide) rfl dL_illnessAfter_9 (fun H locs hM => ?_)
  refine lv_goto (tgt := 21) hx hb dL_illnessAfter_10 (by decide) ?_
  refine lv_iconst (v := 0) hx hb dL_illnessAfter_21 (by decide) ?_
  refine W.widen (k := mc) (n := ms) (by omega) (by omega) ?_
  exact me_nret hC hr hlk hM rfl rfl dL_illnessAfter_22
set_option maxHeartbeats 4000000 in
theorem c_L_illnessAfter_x1 (l : Launch) (D : va_G) (tb : Nat → ClassId) (X : State → Prop) (z0 n : Nat) (bo oa : Nat) (p0 p1 : Int32) {M M' : me_M} {mc ms : Nat} {rm : Room} {fs : List Value} (hCE : ∀ U, X U → me_ce U) (hrc : rm.cells = mc) (hrs : rm.slots = ms) (hR : rm.frames ≤ 12 ∧ rm.locals ≤ 440) (he : M bo = some (.inr (7, fs))) (ct : vx_Met l yX7_illnessAfter (.code yX7_illnessAfter cX7_illnessAfter 3 (some .int) :: ws_all) rm (me_Pc [.ref bo, .int p0, .int p1] D tb X z0 M n) me_no (me_XC D z0 M' "java/lang/IndexOutOfBoundsException") mc ms (me_A z0)) : Met l yL_illnessAfter (.codeWith yL_illnessAfter cL_illnessAfter 5 (some .int) [(0, 10, 13, 19), (0, 10, 17, 21)] :: ws_all) ({ frames := 13, cells := mc, slots := ms, locals := 480 } : Room) (me_Pc [.ref bo, .int p0, .int p1, .ref oa] D tb X z0 M n) (me_Qn D z0 1 M') mc ms (me_A z0) := by
  refine me_openH (by decide) (Nat.le_of_ble_eq_true rfl) ?_
  intro p e s m args below meth c ls hC ht hr hlk hM hl
  have hl : lv_has ls 5 [(0, .ref bo), (1, .int p0), (2, .int p1), (3, .ref oa)] := hl
  have hx := hC.1
  have hb := hC.2.1
  have hw := hC.2.2.2.2.1
  refine lv_aload_n hx hb dL_illnessAfter_0 rfl (lv_at hl 3 rfl) ?_
  refine lv_iconst (v := 0) hx hb dL_illnessAfter_1 (by decide) ?_
  refine lv_aload_n hx hb dL_illnessAfter_2 rfl (lv_at hl 0 rfl) ?_
  refine lv_iload_n hx hb dL_illnessAfter_3 rfl (lv_at hl 1 rfl) ?_
  refine lv_iload_n hx hb dL_illnessAfter_4 rfl (lv_at hl 2 rfl) ?_
  refine me_xcat (E0 := "java/lang/IndexOutOfBoundsException") (pre := []) (x := ⟨0, 10, 13, 19⟩) (suf := [⟨0, 10, 17, 21⟩]) (As := [.int p0, .int p1]) (rest := [.int 0, .ref oa]) hC hl.1 hM ct (kv_L_91 hw hrc hrs ⟨by show rm.frames + 1 ≤ 13; omega, by show 8 + (3 + 11) + rm.locals ≤ 480; omega⟩) rfl rfl he rfl (Nat.le_of_ble_eq_true rfl) dL_illnessAfter_5 ⟨by show 0 + mc ≤ mc; omega, by show 0 + ms ≤ ms; omega⟩ ht (fun z h => absurd h List.not_mem_nil) (by decide) (by decide) w_739 (va_Nw.use (by decide +kernel) (hCE s hC.2.2.2.2.2.1.2).2.1) (fun H locs n1 q hM => ?_)
  refine lv_astore (lv' := [(4, .ref q), (0, .ref bo), (1, .int p0), (2, .int p1), (3, .ref oa)]) hx hb dL_illnessAfter_13 hl (by decide) rfl (fun ls hl => ?_)
  refine lv_iconst (v := 1) hx hb dL_illnessAfter_15 (by decide) ?_
  refine W.widen (k := mc) (n := ms) (by omega) (by omega) ?_
  exact me_nret hC hr hlk hM rfl rfl dL_illnessAfter_16
set_option maxHeartbeats 4000000 in
theorem c_L_illnessAfter_x2 (l : Launch) (D : va_G) (tb : Nat → ClassId) (X : State → Prop) (z0 n : Nat) (bo oa : Nat) (p0 p1 : Int32) {M M' : me_M} {mc ms : Nat} {rm : Room} {fs : List Value} (hCE : ∀ U, X U → me_ce U) (hrc : rm.cells = mc) (hrs : rm.slots = ms) (hR : rm.frames ≤ 12 ∧ rm.locals ≤ 440) (he : M bo = some (.inr (7, fs))) (ct : vx_Met l yX7_illnessAfter (.code yX7_illnessAfter cX7_illnessAfter 3 (some .int) :: ws_all) rm (me_Pc [.ref bo, .int p0, .int p1] D tb X z0 M n) me_no (me_XC D z0 M' "java/lang/IllegalArgumentException") mc ms (me_A z0)) : Met l yL_illnessAfter (.codeWith yL_illnessAfter cL_illnessAfter 5 (some .int) [(0, 10, 13, 19), (0, 10, 17, 21)] :: ws_all) ({ frames := 13, cells := mc, slots := ms, locals := 480 } : Room) (me_Pc [.ref bo, .int p0, .int p1, .ref oa] D tb X z0 M n) (me_Qn D z0 2 M') mc ms (me_A z0) := by
  refine me_openH (by decide) (Nat.le_of_ble_eq_true rfl) ?_
  intro p e s m args below meth c ls hC ht hr hlk hM hl
  have hl : lv_has ls 5 [(0, .ref bo), (1, .int p0), (2, .int p1), (3, .ref oa)] := hl
  have hx := hC.1
  have hb := hC.2.1
  have hw := hC.2.2.2.2.1
  refine lv_aload_n hx hb dL_illnessAfter_0 rfl (lv_at hl 3 rfl) ?_
  refine lv_iconst (v := 0) hx hb dL_illnessAfter_1 (by decide) ?_
  refine lv_aload_n hx hb dL_illnessAfter_2 rfl (lv_at hl 0 rfl) ?_
  refine lv_iload_n hx hb dL_illnessAfter_3 rfl (lv_at hl 1 rfl) ?_
  refine lv_iload_n hx hb dL_illnessAfter_4 rfl (lv_at hl 2 rfl) ?_
  refine me_xcat (E0 := "java/lang/IllegalArgumentException") (pre := [⟨0, 10, 13, 19⟩]) (x := ⟨0, 10, 17, 21⟩) (suf := []) (As := [.int p0, .int p1]) (rest := [.int 0, .ref oa]) hC hl.1 hM ct (kv_L_91 hw hrc hrs ⟨by show rm.frames + 1 ≤ 13; omega, by show 8 + (3 + 11) + rm.locals ≤ 480; omega⟩) rfl rfl he rfl (Nat.le_of_ble_eq_true rfl) dL_illnessAfter_5 ⟨by show 0 + mc ≤ mc; omega, by show 0 + ms ≤ ms; omega⟩ ht (fun z h => by
    simp only [List.mem_cons, List.not_mem_nil, or_false] at h
    subst h
    exact Or.inr ⟨by decide, "java/lang/IndexOutOfBoundsException", hw _ w_739, (hCE s hC.2.2.2.2.2.1.2).2.2.2.1⟩) (by decide) (by decide) w_740 (va_Nw.use (by decide +kernel) (hCE s hC.2.2.2.2.2.1.2).2.2.1) (fun H locs n1 q hM => ?_)
  refine lv_astore (lv' := [(4, .ref q), (0, .ref bo), (1, .int p0), (2, .int p1), (3, .ref oa)]) hx hb dL_illnessAfter_17 hl (by decide) rfl (fun ls hl => ?_)
  refine lv_iconst (v := 2) hx hb dL_illnessAfter_19 (by decide) ?_
  refine W.widen (k := mc) (n := ms) (by omega) (by omega) ?_
  exact me_nret hC hr hlk hM rfl rfl dL_illnessAfter_20
set_option maxHeartbeats 4000000 in
theorem c_L_meanNoise (l : Launch) (D : va_G) (tb : Nat → ClassId) (X : State → Prop) (z0 n : Nat) (bo oa : Nat) (p0 : Int32) {M M' : me_M} {mc ms : Nat} {rm : Room} {n' : Nat} {r : UInt64} {f : Nat → UInt64} {fs : List Value} (hrc : rm.cells = mc) (hrs : rm.slots = ms) (hR : rm.frames ≤ 12 ∧ rm.locals ≤ 440) (he : M bo = some (.inr (7, fs))) (ho : M' oa = some (.inl (tb 4, 1, .inr (.inr (.inr (.inl f)))))) (ct : Met l yX7_meanNoise (.code yX7_meanNoise cX7_meanNoise 2 (some .double) :: ws_all) rm (me_Pc [.ref bo, .int p0] D tb X z0 M n) (me_Qd D z0 r M' n') mc ms (me_A z0)) : Met l yL_meanNoise (.codeWith yL_meanNoise cL_meanNoise 4 (some .int) [(0, 8, 11, 19)] :: ws_all) ({ frames := 13, cells := mc, slots := ms, locals := 480 } : Room) (me_Pc [.ref bo, .int p0, .ref oa] D tb X z0 M n) (me_Qn D z0 0 (me_up M' oa (.inl (tb 4, 1, .inr (.inr (.inr (.inl (vf_upd f 0 r)))))))) mc ms (me_A z0) := by
  refine me_openH (by decide) (Nat.le_of_ble_eq_true rfl) ?_
  intro p e s m args below meth c ls hC ht hr hlk hM hl
  have hl : lv_has ls 4 [(0, .ref bo), (1, .int p0), (2, .ref oa)] := hl
  have hx := hC.1
  have hb := hC.2.1
  have hw := hC.2.2.2.2.1
  refine lv_aload_n hx hb dL_meanNoise_0 rfl (lv_at hl 2 rfl) ?_
  refine lv_iconst (v := 0) hx hb dL_meanNoise_1 (by decide) ?_
  refine lv_aload_n hx hb dL_meanNoise_2 rfl (lv_at hl 0 rfl) ?_
  refine lv_iload_n hx hb dL_meanNoise_3 rfl (lv_at hl 1 rfl) ?_
  refine me_callVd (As := [.int p0]) (rest := [.int 0, .ref oa]) hC hl.1 hM ct (kv_L_94 hw hrc hrs ⟨by show rm.frames + 1 ≤ 13; omega, by show 8 + (2 + 11) + rm.locals ≤ 480; omega⟩) rfl rfl he rfl (Nat.le_of_ble_eq_true rfl) dL_meanNoise_4 ⟨by show 0 + mc ≤ mc; omega, by show 0 + ms ≤ ms; omega⟩ (fun H locs hM => ?_)
  refine me_dast (k := 0) (M2 := me_up M' oa (.inl (tb 4, 1, .inr (.inr (.inr (.inl (vf_upd f 0 r))))))) hC hM ho rfl (by decide) (by decide) rfl dL_meanNoise_7 (fun H locs hM => ?_)
  refine lv_goto (tgt := 14) hx hb dL_meanNoise_8 (by decide) ?_
  refine lv_iconst (v := 0) hx hb dL_meanNoise_14 (by decide) ?_
  refine W.widen (k := mc) (n := ms) (by omega) (by omega) ?_
  exact me_nret hC hr hlk hM rfl rfl dL_meanNoise_15
set_option maxHeartbeats 4000000 in
theorem c_L_meanNoise_x1 (l : Launch) (D : va_G) (tb : Nat → ClassId) (X : State → Prop) (z0 n : Nat) (bo oa : Nat) (p0 : Int32) {M M' : me_M} {mc ms : Nat} {rm : Room} {fs : List Value} (hCE : ∀ U, X U → me_ce U) (hrc : rm.cells = mc) (hrs : rm.slots = ms) (hR : rm.frames ≤ 12 ∧ rm.locals ≤ 440) (he : M bo = some (.inr (7, fs))) (ct : vx_Met l yX7_meanNoise (.code yX7_meanNoise cX7_meanNoise 2 (some .double) :: ws_all) rm (me_Pc [.ref bo, .int p0] D tb X z0 M n) me_no (me_XC D z0 M' "java/lang/IndexOutOfBoundsException") mc ms (me_A z0)) : Met l yL_meanNoise (.codeWith yL_meanNoise cL_meanNoise 4 (some .int) [(0, 8, 11, 19)] :: ws_all) ({ frames := 13, cells := mc, slots := ms, locals := 480 } : Room) (me_Pc [.ref bo, .int p0, .ref oa] D tb X z0 M n) (me_Qn D z0 1 M') mc ms (me_A z0) := by
  refine me_openH (by decide) (Nat.le_of_ble_eq_true rfl) ?_
  intro p e s m args below meth c ls hC ht hr hlk hM hl
  have hl : lv_has ls 4 [(0, .ref bo), (1, .int p0), (2, .ref oa)] := hl
  have hx := hC.1
  have hb := hC.2.1
  have hw := hC.2.2.2.2.1
  refine lv_aload_n hx hb dL_meanNoise_0 rfl (lv_at hl 2 rfl) ?_
  refine lv_iconst (v := 0) hx hb dL_meanNoise_1 (by decide) ?_
  refine lv_aload_n hx hb dL_meanNoise_2 rfl (lv_at hl 0 rfl) ?_
  refine lv_iload_n hx hb dL_meanNoise_3 rfl (lv_at hl 1 rfl) ?_
  refine me_xcat (E0 := "java/lang/IndexOutOfBoundsException") (pre := []) (x := ⟨0, 8, 11, 19⟩) (suf := []) (As := [.int p0]) (rest := [.int 0, .ref oa]) hC hl.1 hM ct (kv_L_94 hw hrc hrs ⟨by show rm.frames + 1 ≤ 13; omega, by show 8 + (2 + 11) + rm.locals ≤ 480; omega⟩) rfl rfl he rfl (Nat.le_of_ble_eq_true rfl) dL_meanNoise_4 ⟨by show 0 + mc ≤ mc; omega, by show 0 + ms ≤ ms; omega⟩ ht (fun z h => absurd h List.not_mem_nil) (by decide) (by decide) w_739 (va_Nw.use (by decide +kernel) (hCE s hC.2.2.2.2.2.1.2).2.1) (fun H locs n1 q hM => ?_)
  refine lv_astore_n (lv' := [(3, .ref q), (0, .ref bo), (1, .int p0), (2, .ref oa)]) hx hb dL_meanNoise_11 rfl hl (by decide) rfl (fun ls hl => ?_)
  refine lv_iconst (v := 1) hx hb dL_meanNoise_12 (by decide) ?_
  refine W.widen (k := mc) (n := ms) (by omega) (by omega) ?_
  exact me_nret hC hr hlk hM rfl rfl dL_meanNoise_13
set_option maxHeartbeats 4000000 in
theorem c_L_lend (l : Launch) (D : va_G) (tb : Nat → ClassId) (X : State → Prop) (z0 n : Nat) (bo oa : Nat) (p0 p1 p2 : Int32) {M M' : me_M} {mc ms : Nat} {rm : Room} {n' : Nat} {r : Int32} {f : Nat → Int64} {fs : List Value} (hrc : rm.cells = mc) (hrs : rm.slots = ms) (hR : rm.frames ≤ 12 ∧ rm.locals ≤ 440) (he : M bo = some (.inr (7, fs))) (ho : M' oa = some (.inl (tb 3, 1, .inr (.inl f)))) (ct : Met l yX7_lend (.code yX7_lend cX7_lend 4 (some .int) :: ws_all) rm (me_Pc [.ref bo, .int p0, .int p1, .int p2] D tb X z0 M n) (me_Qi D z0 r M' n') mc ms (me_A z0)) : Met l yL_lend (.codeWith yL_lend cL_lend 6 (some .int) [(0, 12, 15, 19), (0, 12, 19, 21), (0, 12, 23, 13)] :: ws_all) ({ frames := 13, cells := mc, slots := ms, locals := 480 } : Room) (me_Pc [.ref bo, .int p0, .int p1, .int p2, .ref oa] D tb X z0 M n) (me_Qn D z0 0 (me_up M' oa (.inl (tb 3, 1, .inr (.inl (vp_updL f 0 r.toInt64)))))) mc ms (me_A z0) := by
  refine me_openH (by decide) (Nat.le_of_ble_eq_true rfl) ?_
  intro p e s m args below meth c ls hC ht hr hlk hM hl
  have hl : lv_has ls 6 [(0, .ref bo), (1, .int p0), (2, .int p1), (3, .int p2), (4, .ref oa)] := hl
  have hx := hC.1
  have hb := hC.2.1
  have hw := hC.2.2.2.2.1
  refine lv_aload hx hb dL_lend_0 (lv_at hl 4 rfl) ?_
  refine lv_iconst (v := 0) hx hb dL_lend_2 (by decide) ?_
  refine lv_aload_n hx hb dL_lend_3 rfl (lv_at hl 0 rfl) ?_
  refine lv_iload_n hx hb dL_lend_4 rfl (lv_at hl 1 rfl) ?_
  refine lv_iload_n hx hb dL_lend_5 rfl (lv_at hl 2 rfl) ?_
  refine lv_iload_n hx hb dL_lend_6 rfl (lv_at hl 3 rfl) ?_
  refine me_callVi (As := [.int p0, .int p1, .int p2]) (rest := [.int 0, .ref oa]) hC hl.1 hM ct (kv_L_98 hw hrc hrs ⟨by show rm.frames + 1 ≤ 13; omega, by show 8 + (4 + 11) + rm.locals ≤ 480; omega⟩) rfl rfl he rfl (Nat.le_of_ble_eq_true rfl) dL_lend_7 ⟨by show 0 + mc ≤ mc; omega, by show 0 + ms ≤ ms; omega⟩ (fun H locs hM => ?_)
  refine lv_i2l hx hb dL_lend_10 rfl ?_
  refine me_last (k := 0) (M2 := me_up M' oa (.inl (tb 3, 1, .inr (.inl (vp_updL f 0 r.toInt64))))) hC hM ho rfl (by decide) (by decide) rfl dL_lend_11 (fun H locs hM => ?_)
  refine lv_goto (tgt := 27) hx hb dL_lend_12 (by decide) ?_
  refine lv_iconst (v := 0) hx hb dL_lend_27 (by decide) ?_
  refine W.widen (k := mc) (n := ms) (by omega) (by omega) ?_
  exact me_nret hC hr hlk hM rfl rfl dL_lend_28
set_option maxHeartbeats 4000000 in
theorem c_L_lend_x1 (l : Launch) (D : va_G) (tb : Nat → ClassId) (X : State → Prop) (z0 n : Nat) (bo oa : Nat) (p0 p1 p2 : Int32) {M M' : me_M} {mc ms : Nat} {rm : Room} {fs : List Value} (hCE : ∀ U, X U → me_ce U) (hrc : rm.cells = mc) (hrs : rm.slots = ms) (hR : rm.frames ≤ 12 ∧ rm.locals ≤ 440) (he : M bo = some (.inr (7, fs))) (ct : vx_Met l yX7_lend (.code yX7_lend cX7_lend 4 (some .int) :: ws_all) rm (me_Pc [.ref bo, .int p0, .int p1, .int p2] D tb X z0 M n) me_no (me_XC D z0 M' "java/lang/IndexOutOfBoundsException") mc ms (me_A z0)) : Met l yL_lend (.codeWith yL_lend cL_lend 6 (some .int) [(0, 12, 15, 19), (0, 12, 19, 21), (0, 12, 23, 13)] :: ws_all) ({ frames := 13, cells := mc, slots := ms, locals := 480 } : Room) (me_Pc [.ref bo, .int p0, .int p1, .int p2, .ref oa] D tb X z0 M n) (me_Qn D z0 1 M') mc ms (me_A z0) := by
  refine me_openH (by decide) (Nat.le_of_ble_eq_true rfl) ?_
  intro p e s m args below meth c ls hC ht hr hlk hM hl
  have hl : lv_has ls 6 [(0, .ref bo), (1, .int p0), (2, .int p1), (3, .int p2), (4, .ref oa)] := hl
  have hx := hC.1
  have hb := hC.2.1
  have hw := hC.2.2.2.2.1
  refine lv_aload hx hb dL_lend_0 (lv_at hl 4 rfl) ?_
  refine lv_iconst (v := 0) hx hb dL_lend_2 (by decide) ?_
  refine lv_aload_n hx hb dL_lend_3 rfl (lv_at hl 0 rfl) ?_
  refine lv_iload_n hx hb dL_lend_4 rfl (lv_at hl 1 rfl) ?_
  refine lv_iload_n hx hb dL_lend_5 rfl (lv_at hl 2 rfl) ?_
  refine lv_iload_n hx hb dL_lend_6 rfl (lv_at hl 3 rfl) ?_
  refine me_xcat (E0 := "java/lang/IndexOutOfBoundsException") (pre := []) (x := ⟨0, 12, 15, 19⟩) (suf := [⟨0, 12, 19, 21⟩, ⟨0, 12, 23, 13⟩]) (As := [.int p0, .int p1, .int p2]) (rest := [.int 0, .ref oa]) hC hl.1 hM ct (kv_L_98 hw hrc hrs ⟨by show rm.frames + 1 ≤ 13; omega, by show 8 + (4 + 11) + rm.locals ≤ 480; omega⟩) rfl rfl he rfl (Nat.le_of_ble_eq_true rfl) dL_lend_7 ⟨by show 0 + mc ≤ mc; omega, by show 0 + ms ≤ ms; omega⟩ ht (fun z h => absurd h List.not_mem_nil) (by decide) (by decide) w_739 (va_Nw.use (by decide +kernel) (hCE s hC.2.2.2.2.2.1.2).2.1) (fun H locs n1 q hM => ?_)
  refine lv_astore (lv' := [(5, .ref q), (0, .ref bo), (1, .int p0), (2, .int p1), (3, .int p2), (4, .ref oa)]) hx hb dL_lend_15 hl (by decide) rfl (fun ls hl => ?_)
  refine lv_iconst (v := 1) hx hb dL_lend_17 (by decide) ?_
  refine W.widen (k := mc) (n := ms) (by omega) (by omega) ?_
  exact me_nret hC hr hlk hM rfl rfl dL_lend_18
set_option maxHeartbeats 4000000 in
theorem c_L_lend_x2 (l : Launch) (D : va_G) (tb : Nat → ClassId) (X : State → Prop) (z0 n : Nat) (bo oa : Nat) (p0 p1 p2 : Int32) {M M' : me_M} {mc ms : Nat} {rm : Room} {fs : List Value} (hCE : ∀ U, X U → me_ce U) (hrc : rm.cells = mc) (hrs : rm.slots = ms) (hR : rm.frames ≤ 12 ∧ rm.locals ≤ 440) (he : M bo = some (.inr (7, fs))) (ct : vx_Met l yX7_lend (.code yX7_lend cX7_lend 4 (some .int) :: ws_all) rm (me_Pc [.ref bo, .int p0, .int p1, .int p2] D tb X z0 M n) me_no (me_XC D z0 M' "java/lang/IllegalArgumentException") mc ms (me_A z0)) : Met l yL_lend (.codeWith yL_lend cL_lend 6 (some .int) [(0, 12, 15, 19), (0, 12, 19, 21), (0, 12, 23, 13)] :: ws_all) ({ frames := 13, cells := mc, slots := ms, locals := 480 } : Room) (me_Pc [.ref bo, .int p0, .int p1, .int p2, .ref oa] D tb X z0 M n) (me_Qn D z0 2 M') mc ms (me_A z0) := by
  refine me_openH (by decide) (Nat.le_of_ble_eq_true rfl) ?_
  intro p e s m args below meth c ls hC ht hr hlk hM hl
  have hl : lv_has ls 6 [(0, .ref bo), (1, .int p0), (2, .int p1), (3, .int p2), (4, .ref oa)] := hl
  have hx := hC.1
  have hb := hC.2.1
  have hw := hC.2.2.2.2.1
  refine lv_aload hx hb dL_lend_0 (lv_at hl 4 rfl) ?_
  refine lv_iconst (v := 0) hx hb dL_lend_2 (by decide) ?_
  refine lv_aload_n hx hb dL_lend_3 rfl (lv_at hl 0 rfl) ?_
  refine lv_iload_n hx hb dL_lend_4 rfl (lv_at hl 1 rfl) ?_
  refine lv_iload_n hx hb dL_lend_5 rfl (lv_at hl 2 rfl) ?_
  refine lv_iload_n hx hb dL_lend_6 rfl (lv_at hl 3 rfl) ?_
  refine me_xcat (E0 := "java/lang/IllegalArgumentException") (pre := [⟨0, 12, 15, 19⟩]) (x := ⟨0, 12, 19, 21⟩) (suf := [⟨0, 12, 23, 13⟩]) (As := [.int p0, .int p1, .int p2]) (rest := [.int 0, .ref oa]) hC hl.1 hM ct (kv_L_98 hw hrc hrs ⟨by show rm.frames + 1 ≤ 13; omega, by show 8 + (4 + 11) + rm.locals ≤ 480; omega⟩) rfl rfl he rfl (Nat.le_of_ble_eq_true rfl) dL_lend_7 ⟨by show 0 + mc ≤ mc; omega, by show 0 + ms ≤ ms; omega⟩ ht (fun z h => by
    simp only [List.mem_cons, List.not_mem_nil, or_false] at h
    subst h
    exact Or.inr ⟨by decide, "java/lang/IndexOutOfBoundsException", hw _ w_739, (hCE s hC.2.2.2.2.2.1.2).2.2.2.1⟩) (by decide) (by decide) w_740 (va_Nw.use (by decide +kernel) (hCE s hC.2.2.2.2.2.1.2).2.2.1) (fun H locs n1 q hM => ?_)
  refine lv_astore (lv' := [(5, .ref q), (0, .ref bo), (1, .int p0), (2, .int p1), (3, .int p2), (4, .ref oa)]) hx hb dL_lend_19 hl (by decide) rfl (fun ls hl => ?_)
  refine lv_iconst (v := 2) hx hb dL_lend_21 (by decide) ?_
  refine W.widen (k := mc) (n := ms) (by omega) (by omega) ?_
  exact me_nret hC hr hlk hM rfl rfl dL_lend_22
set_option maxHeartbeats 4000000 in
theorem c_L_lend_x3 (l : Launch) (D : va_G) (tb : Nat → ClassId) (X : State → Prop) (z0 n : Nat) (bo oa : Nat) (p0 p1 p2 : Int32) {M M' : me_M} {mc ms : Nat} {rm : Room} {fs : List Value} (hCE : ∀ U, X U → me_ce U) (hrc : rm.cells = mc) (hrs : rm.slots = ms) (hR : rm.frames ≤ 12 ∧ rm.locals ≤ 440) (he : M bo = some (.inr (7, fs))) (ct : vx_Met l yX7_lend (.code yX7_lend cX7_lend 4 (some .int) :: ws_all) rm (me_Pc [.ref bo, .int p0, .int p1, .int p2] D tb X z0 M n) me_no (me_XC D z0 M' "java/lang/IllegalStateException") mc ms (me_A z0)) : Met l yL_lend (.codeWith yL_lend cL_lend 6 (some .int) [(0, 12, 15, 19), (0, 12, 19, 21), (0, 12, 23, 13)] :: ws_all) ({ frames := 13, cells := mc, slots := ms, locals := 480 } : Room) (me_Pc [.ref bo, .int p0, .int p1, .int p2, .ref oa] D tb X z0 M n) (me_Qn D z0 3 M') mc ms (me_A z0) := by
  refine me_openH (by decide) (Nat.le_of_ble_eq_true rfl) ?_
  intro p e s m args below meth c ls hC ht hr hlk hM hl
  have hl : lv_has ls 6 [(0, .ref bo), (1, .int p0), (2, .int p1), (3, .int p2), (4, .ref oa)] := hl
  have hx := hC.1
  have hb := hC.2.1
  have hw := hC.2.2.2.2.1
  refine lv_aload hx hb dL_lend_0 (lv_at hl 4 rfl) ?_
  refine lv_iconst (v := 0) hx hb dL_lend_2 (by decide) ?_
  refine lv_aload_n hx hb dL_lend_3 rfl (lv_at hl 0 rfl) ?_
  refine lv_iload_n hx hb dL_lend_4 rfl (lv_at hl 1 rfl) ?_
  refine lv_iload_n hx hb dL_lend_5 rfl (lv_at hl 2 rfl) ?_
  refine lv_iload_n hx hb dL_lend_6 rfl (lv_at hl 3 rfl) ?_
  refine me_xcat (E0 := "java/lang/IllegalStateException") (pre := [⟨0, 12, 15, 19⟩, ⟨0, 12, 19, 21⟩]) (x := ⟨0, 12, 23, 13⟩) (suf := []) (As := [.int p0, .int p1, .int p2]) (rest := [.int 0, .ref oa]) hC hl.1 hM ct (kv_L_98 hw hrc hrs ⟨by show rm.frames + 1 ≤ 13; omega, by show 8 + (4 + 11) + rm.locals ≤ 480; omega⟩) rfl rfl he rfl (Nat.le_of_ble_eq_true rfl) dL_lend_7 ⟨by show 0 + mc ≤ mc; omega, by show 0 + ms ≤ ms; omega⟩ ht (fun z h => by
    simp only [List.mem_cons, List.not_mem_nil, or_false] at h
    rcases h with rfl | rfl
    · exact Or.inr ⟨by decide, "java/lang/IndexOutOfBoundsException", hw _ w_739, (hCE s hC.2.2.2.2.2.1.2).2.2.2.2.1⟩
    · exact Or.inr ⟨by decide, "java/lang/IllegalArgumentException", hw _ w_740, (hCE s hC.2.2.2.2.2.1.2).2.2.2.2.2⟩) (by decide) (by decide) w_660 (va_Nw.use (by decide +kernel) (hCE s hC.2.2.2.2.2.1.2).1) (fun H locs n1 q hM => ?_)
  refine lv_astore (lv' := [(5, .ref q), (0, .ref bo), (1, .int p0), (2, .int p1), (3, .int p2), (4, .ref oa)]) hx hb dL_lend_23 hl (by decide) rfl (fun ls hl => ?_)
  refine lv_iconst (v := 3) hx hb dL_lend_25 (by decide) ?_
  refine W.widen (k := mc) (n := ms) (by omega) (by omega) ?_
  exact me_nret hC hr hlk hM rfl rfl dL_lend_26
set_option maxHeartbeats 4000000 in
theorem c_L_cancel (l : Launch) (D : va_G) (tb : Nat → ClassId) (X : State → Prop) (z0 n : Nat) (bo oa : Nat) (p0 : Int32) {M M' : me_M} {mc ms : Nat} {rm : Room} {n' : Nat} {r : Int32} {f : Nat → Int64} {fs : List Value} (hrc : rm.cells = mc) (hrs : rm.slots = ms) (hR : rm.frames ≤ 12 ∧ rm.locals ≤ 440) (he : M bo = some (.inr (7, fs))) (ho : M' oa = some (.inl (tb 3, 1, .inr (.inl f)))) (ct : Met l yX7_cancel (.code yX7_cancel cX7_cancel 2 (some .int) :: ws_all) rm (me_Pc [.ref bo, .int p0] D tb X z0 M n) (me_Qi D z0 r M' n') mc ms (me_A z0)) : Met l yL_cancel (.codeWith yL_cancel cL_cancel 4 (some .int) [(0, 9, 12, 19), (0, 9, 15, 13)] :: ws_all) ({ frames := 13, cells := mc, slots := ms, locals := 480 } : Room) (me_Pc [.ref bo, .int p0, .ref oa] D tb X z0 M n) (me_Qn D z0 0 (me_up M' oa (.inl (tb 3, 1, .inr (.inl (vp_updL f 0 r.toInt64)))))) mc ms (me_A z0) := by
  refine me_openH (by decide) (Nat.le_of_ble_eq_true rfl) ?_
  intro p e s m args below meth c ls hC ht hr hlk hM hl
  have hl : lv_has ls 4 [(0, .ref bo), (1, .int p0), (2, .ref oa)] := hl
  have hx := hC.1
  have hb := hC.2.1
  have hw := hC.2.2.2.2.1
  refine lv_aload_n hx hb dL_cancel_0 rfl (lv_at hl 2 rfl) ?_
  refine lv_iconst (v := 0) hx hb dL_cancel_1 (by decide) ?_
  refine lv_aload_n hx hb dL_cancel_2 rfl (lv_at hl 0 rfl) ?_
  refine lv_iload_n hx hb dL_cancel_3 rfl (lv_at hl 1 rfl) ?_
  refine me_callVi (As := [.int p0]) (rest := [.int 0, .ref oa]) hC hl.1 hM ct (kv_L_101 hw hrc hrs ⟨by show rm.frames + 1 ≤ 13; omega, by show 8 + (2 + 11) + rm.locals ≤ 480; omega⟩) rfl rfl he rfl (Nat.le_of_ble_eq_true rfl) dL_cancel_4 ⟨by show 0 + mc ≤ mc; omega, by show 0 + ms ≤ ms; omega⟩ (fun H locs hM => ?_)
  refine lv_i2l hx hb dL_cancel_7 rfl ?_
  refine me_last (k := 0) (M2 := me_up M' oa (.inl (tb 3, 1, .inr (.inl (vp_updL f 0 r.toInt64))))) hC hM ho rfl (by decide) (by decide) rfl dL_cancel_8 (fun H locs hM => ?_)
  refine lv_goto (tgt := 18) hx hb dL_cancel_9 (by decide) ?_
  refine lv_iconst (v := 0) hx hb dL_cancel_18 (by decide) ?_
  refine W.widen (k := mc) (n := ms) (by omega) (by omega) ?_
  exact me_nret hC hr hlk hM rfl rfl dL_cancel_19
set_option maxHeartbeats 4000000 in
theorem c_L_cancel_x1 (l : Launch) (D : va_G) (tb : Nat → ClassId) (X : State → Prop) (z0 n : Nat) (bo oa : Nat) (p0 : Int32) {M M' : me_M} {mc ms : Nat} {rm : Room} {fs : List Value} (hCE : ∀ U, X U → me_ce U) (hrc : rm.cells = mc) (hrs : rm.slots = ms) (hR : rm.frames ≤ 12 ∧ rm.locals ≤ 440) (he : M bo = some (.inr (7, fs))) (ct : vx_Met l yX7_cancel (.code yX7_cancel cX7_cancel 2 (some .int) :: ws_all) rm (me_Pc [.ref bo, .int p0] D tb X z0 M n) me_no (me_XC D z0 M' "java/lang/IndexOutOfBoundsException") mc ms (me_A z0)) : Met l yL_cancel (.codeWith yL_cancel cL_cancel 4 (some .int) [(0, 9, 12, 19), (0, 9, 15, 13)] :: ws_all) ({ frames := 13, cells := mc, slots := ms, locals := 480 } : Room) (me_Pc [.ref bo, .int p0, .ref oa] D tb X z0 M n) (me_Qn D z0 1 M') mc ms (me_A z0) := by
  refine me_openH (by decide) (Nat.le_of_ble_eq_true rfl) ?_
  intro p e s m args below meth c ls hC ht hr hlk hM hl
  have hl : lv_has ls 4 [(0, .ref bo), (1, .int p0), (2, .ref oa)] := hl
  have hx := hC.1
  have hb := hC.2.1
  have hw := hC.2.2.2.2.1
  refine lv_aload_n hx hb dL_cancel_0 rfl (lv_at hl 2 rfl) ?_
  refine lv_iconst (v := 0) hx hb dL_cancel_1 (by decide) ?_
  refine lv_aload_n hx hb dL_cancel_2 rfl (lv_at hl 0 rfl) ?_
  refine lv_iload_n hx hb dL_cancel_3 rfl (lv_at hl 1 rfl) ?_
  refine me_xcat (E0 := "java/lang/IndexOutOfBoundsException") (pre := []) (x := ⟨0, 9, 12, 19⟩) (suf := [⟨0, 9, 15, 13⟩]) (As := [.int p0]) (rest := [.int 0, .ref oa]) hC hl.1 hM ct (kv_L_101 hw hrc hrs ⟨by show rm.frames + 1 ≤ 13; omega, by show 8 + (2 + 11) + rm.locals ≤ 480; omega⟩) rfl rfl he rfl (Nat.le_of_ble_eq_true rfl) dL_cancel_4 ⟨by show 0 + mc ≤ mc; omega, by show 0 + ms ≤ ms; omega⟩ ht (fun z h => absurd h List.not_mem_nil) (by decide) (by decide) w_739 (va_Nw.use (by decide +kernel) (hCE s hC.2.2.2.2.2.1.2).2.1) (fun H locs n1 q hM => ?_)
  refine lv_astore_n (lv' := [(3, .ref q), (0, .ref bo), (1, .int p0), (2, .ref oa)]) hx hb dL_cancel_12 rfl hl (by decide) rfl (fun ls hl => ?_)
  refine lv_iconst (v := 1) hx hb dL_cancel_13 (by decide) ?_
  refine W.widen (k := mc) (n := ms) (by omega) (by omega) ?_
  exact me_nret hC hr hlk hM rfl rfl dL_cancel_14
set_option maxHeartbeats 4000000 in
theorem c_L_cancel_x2 (l : Launch) (D : va_G) (tb : Nat → ClassId) (X : State → Prop) (z0 n : Nat) (bo oa : Nat) (p0 : Int32) {M M' : me_M} {mc ms : Nat} {rm : Room} {fs : List Value} (hCE : ∀ U, X U → me_ce U) (hrc : rm.cells = mc) (hrs : rm.slots = ms) (hR : rm.frames ≤ 12 ∧ rm.locals ≤ 440) (he : M bo = some (.inr (7, fs))) (ct : vx_Met l yX7_cancel (.code yX7_cancel cX7_cancel 2 (some .int) :: ws_all) rm (me_Pc [.ref bo, .int p0] D tb X z0 M n) me_no (me_XC D z0 M' "java/lang/IllegalStateException") mc ms (me_A z0)) : Met l yL_cancel (.codeWith yL_cancel cL_cancel 4 (some .int) [(0, 9, 12, 19), (0, 9, 15, 13)] :: ws_all) ({ frames := 13, cells := mc, slots := ms, locals := 480 } : Room) (me_Pc [.ref bo, .int p0, .ref oa] D tb X z0 M n) (me_Qn D z0 2 M') mc ms (me_A z0) := by
  refine me_openH (by decide) (Nat.le_of_ble_eq_true rfl) ?_
  intro p e s m args below meth c ls hC ht hr hlk hM hl
  have hl : lv_has ls 4 [(0, .ref bo), (1, .int p0), (2, .ref oa)] := hl
  have hx := hC.1
  have hb := hC.2.1
  have hw := hC.2.2.2.2.1
  refine lv_aload_n hx hb dL_cancel_0 rfl (lv_at hl 2 rfl) ?_
  refine lv_iconst (v := 0) hx hb dL_cancel_1 (by decide) ?_
  refine lv_aload_n hx hb dL_cancel_2 rfl (lv_at hl 0 rfl) ?_
  refine lv_iload_n hx hb dL_cancel_3 rfl (lv_at hl 1 rfl) ?_
  refine me_xcat (E0 := "java/lang/IllegalStateException") (pre := [⟨0, 9, 12, 19⟩]) (x := ⟨0, 9, 15, 13⟩) (suf := []) (As := [.int p0]) (rest := [.int 0, .ref oa]) hC hl.1 hM ct (kv_L_101 hw hrc hrs ⟨by show rm.frames + 1 ≤ 13; omega, by show 8 + (2 + 11) + rm.locals ≤ 480; omega⟩) rfl rfl he rfl (Nat.le_of_ble_eq_true rfl) dL_cancel_4 ⟨by show 0 + mc ≤ mc; omega, by show 0 + ms ≤ ms; omega⟩ ht (fun z h => by
    simp only [List.mem_cons, List.not_mem_nil, or_false] at h
    subst h
    exact Or.inr ⟨by decide, "java/lang/IndexOutOfBoundsException", hw _ w_739, (hCE s hC.2.2.2.2.2.1.2).2.2.2.2.1⟩) (by decide) (by decide) w_660 (va_Nw.use (by decide +kernel) (hCE s hC.2.2.2.2.2.1.2).1) (fun H locs n1 q hM => ?_)
  refine lv_astore_n (lv' := [(3, .ref q), (0, .ref bo), (1, .int p0), (2, .ref oa)]) hx hb dL_cancel_15 rfl hl (by decide) rfl (fun ls hl => ?_)
  refine lv_iconst (v := 2) hx hb dL_cancel_16 (by decide) ?_
  refine W.widen (k := mc) (n := ms) (by omega) (by omega) ?_
  exact me_nret hC hr hlk hM rfl rfl dL_cancel_17
set_option maxHeartbeats 4000000 in
theorem c_L_whistle (l : Launch) (D : va_G) (tb : Nat → ClassId) (X : State → Prop) (z0 n : Nat) (bo oa : Nat) (p0 : Int32) {M M' : me_M} {mc ms : Nat} {rm : Room} {n' : Nat} {r : Int32} {f : Nat → Int64} {fs : List Value} (hrc : rm.cells = mc) (hrs : rm.slots = ms) (hR : rm.frames ≤ 12 ∧ rm.locals ≤ 440) (he : M bo = some (.inr (7, fs))) (ho : M' oa = some (.inl (tb 3, 1, .inr (.inl f)))) (ct : Met l yX7_whistle (.code yX7_whistle cX7_whistle 2 (some .int) :: ws_all) rm (me_Pc [.ref bo, .int p0] D tb X z0 M n) (me_Qi D z0 r M' n') mc ms (me_A z0)) : Met l yL_whistle (.codeWith yL_whistle cL_whistle 4 (some .int) [(0, 9, 12, 19), (0, 9, 15, 13)] :: ws_all) ({ frames := 13, cells := mc, slots := ms, locals := 480 } : Room) (me_Pc [.ref bo, .int p0, .ref oa] D tb X z0 M n) (me_Qn D z0 0 (me_up M' oa (.inl (tb 3, 1, .inr (.inl (vp_updL f 0 r.toInt64)))))) mc ms (me_A z0) := by
  refine me_openH (by decide) (Nat.le_of_ble_eq_true rfl) ?_
  intro p e s m args below meth c ls hC ht hr hlk hM hl
  have hl : lv_has ls 4 [(0, .ref bo), (1, .int p0), (2, .ref oa)] := hl
  have hx := hC.1
  have hb := hC.2.1
  have hw := hC.2.2.2.2.1
  refine lv_aload_n hx hb dL_whistle_0 rfl (lv_at hl 2 rfl) ?_
  refine lv_iconst (v := 0) hx hb dL_whistle_1 (by decide) ?_
  refine lv_aload_n hx hb dL_whistle_2 rfl (lv_at hl 0 rfl) ?_
  refine lv_iload_n hx hb dL_whistle_3 rfl (lv_at hl 1 rfl) ?_
  refine me_callVi (As := [.int p0]) (rest := [.int 0, .ref oa]) hC hl.1 hM ct (kv_L_104 hw hrc hrs ⟨by show rm.frames + 1 ≤ 13; omega, by show 8 + (2 + 11) + rm.locals ≤ 480; omega⟩) rfl rfl he rfl (Nat.le_of_ble_eq_true rfl) dL_whistle_4 ⟨by show 0 + mc ≤ mc; omega, by show 0 + ms ≤ ms; omega⟩ (fun H locs hM => ?_)
  refine lv_i2l hx hb dL_whistle_7 rfl ?_
  refine me_last (k := 0) (M2 := me_up M' oa (.inl (tb 3, 1, .inr (.inl (vp_updL f 0 r.toInt64))))) hC hM ho rfl (by decide) (by decide) rfl dL_whistle_8 (fun H locs hM => ?_)
  refine lv_goto (tgt := 18) hx hb dL_whistle_9 (by decide) ?_
  refine lv_iconst (v := 0) hx hb dL_whistle_18 (by decide) ?_
  refine W.widen (k := mc) (n := ms) (by omega) (by omega) ?_
  exact me_nret hC hr hlk hM rfl rfl dL_whistle_19
set_option maxHeartbeats 4000000 in
theorem c_L_whistle_x1 (l : Launch) (D : va_G) (tb : Nat → ClassId) (X : State → Prop) (z0 n : Nat) (bo oa : Nat) (p0 : Int32) {M M' : me_M} {mc ms : Nat} {rm : Room} {fs : List Value} (hCE : ∀ U, X U → me_ce U) (hrc : rm.cells = mc) (hrs : rm.slots = ms) (hR : rm.frames ≤ 12 ∧ rm.locals ≤ 440) (he : M bo = some (.inr (7, fs))) (ct : vx_Met l yX7_whistle (.code yX7_whistle cX7_whistle 2 (some .int) :: ws_all) rm (me_Pc [.ref bo, .int p0] D tb X z0 M n) me_no (me_XC D z0 M' "java/lang/IndexOutOfBoundsException") mc ms (me_A z0)) : Met l yL_whistle (.codeWith yL_whistle cL_whistle 4 (some .int) [(0, 9, 12, 19), (0, 9, 15, 13)] :: ws_all) ({ frames := 13, cells := mc, slots := ms, locals := 480 } : Room) (me_Pc [.ref bo, .int p0, .ref oa] D tb X z0 M n) (me_Qn D z0 1 M') mc ms (me_A z0) := by
  refine me_openH (by decide) (Nat.le_of_ble_eq_true rfl) ?_
  intro p e s m args below meth c ls hC ht hr hlk hM hl
  have hl : lv_has ls 4 [(0, .ref bo), (1, .int p0), (2, .ref oa)] := hl
  have hx := hC.1
  have hb := hC.2.1
  have hw := hC.2.2.2.2.1
  refine lv_aload_n hx hb dL_whistle_0 rfl (lv_at hl 2 rfl) ?_
  refine lv_iconst (v := 0) hx hb dL_whistle_1 (by decide) ?_
  refine lv_aload_n hx hb dL_whistle_2 rfl (lv_at hl 0 rfl) ?_
  refine lv_iload_n hx hb dL_whistle_3 rfl (lv_at hl 1 rfl) ?_
  refine me_xcat (E0 := "java/lang/IndexOutOfBoundsException") (pre := []) (x := ⟨0, 9, 12, 19⟩) (suf := [⟨0, 9, 15, 13⟩]) (As := [.int p0]) (rest := [.int 0, .ref oa]) hC hl.1 hM ct (kv_L_104 hw hrc hrs ⟨by show rm.frames + 1 ≤ 13; omega, by show 8 + (2 + 11) + rm.locals ≤ 480; omega⟩) rfl rfl he rfl (Nat.le_of_ble_eq_true rfl) dL_whistle_4 ⟨by show 0 + mc ≤ mc; omega, by show 0 + ms ≤ ms; omega⟩ ht (fun z h => absurd h List.not_mem_nil) (by decide) (by decide) w_739 (va_Nw.use (by decide +kernel) (hCE s hC.2.2.2.2.2.1.2).2.1) (fun H locs n1 q hM => ?_)
  refine lv_astore_n (lv' := [(3, .ref q), (0, .ref bo), (1, .int p0), (2, .ref oa)]) hx hb dL_whistle_12 rfl hl (by decide) rfl (fun ls hl => ?_)
  refine lv_iconst (v := 1) hx hb dL_whistle_13 (by decide) ?_
  refine W.widen (k := mc) (n := ms) (by omega) (by omega) ?_
  exact me_nret hC hr hlk hM rfl rfl dL_whistle_14
set_option maxHeartbeats 4000000 in
theorem c_L_whistle_x2 (l : Launch) (D : va_G) (tb : Nat → ClassId) (X : State → Prop) (z0 n : Nat) (bo oa : Nat) (p0 : Int32) {M M' : me_M} {mc ms : Nat} {rm : Room} {fs : List Value} (hCE : ∀ U, X U → me_ce U) (hrc : rm.cells = mc) (hrs : rm.slots = ms) (hR : rm.frames ≤ 12 ∧ rm.locals ≤ 440) (he : M bo = some (.inr (7, fs))) (ct : vx_Met l yX7_whistle (.code yX7_whistle cX7_whistle 2 (some .int) :: ws_all) rm (me_Pc [.ref bo, .int p0] D tb X z0 M n) me_no (me_XC D z0 M' "java/lang/IllegalStateException") mc ms (me_A z0)) : Met l yL_whistle (.codeWith yL_whistle cL_whistle 4 (some .int) [(0, 9, 12, 19), (0, 9, 15, 13)] :: ws_all) ({ frames := 13, cells := mc, slots := ms, locals := 480 } : Room) (me_Pc [.ref bo, .int p0, .ref oa] D tb X z0 M n) (me_Qn D z0 2 M') mc ms (me_A z0) := by
  refine me_openH (by decide) (Nat.le_of_ble_eq_true rfl) ?_
  intro p e s m args below meth c ls hC ht hr hlk hM hl
  have hl : lv_has ls 4 [(0, .ref bo), (1, .int p0), (2, .ref oa)] := hl
  have hx := hC.1
  have hb := hC.2.1
  have hw := hC.2.2.2.2.1
  refine lv_aload_n hx hb dL_whistle_0 rfl (lv_at hl 2 rfl) ?_
  refine lv_iconst (v := 0) hx hb dL_whistle_1 (by decide) ?_
  refine lv_aload_n hx hb dL_whistle_2 rfl (lv_at hl 0 rfl) ?_
  refine lv_iload_n hx hb dL_whistle_3 rfl (lv_at hl 1 rfl) ?_
  refine me_xcat (E0 := "java/lang/IllegalStateException") (pre := [⟨0, 9, 12, 19⟩]) (x := ⟨0, 9, 15, 13⟩) (suf := []) (As := [.int p0]) (rest := [.int 0, .ref oa]) hC hl.1 hM ct (kv_L_104 hw hrc hrs ⟨by show rm.frames + 1 ≤ 13; omega, by show 8 + (2 + 11) + rm.locals ≤ 480; omega⟩) rfl rfl he rfl (Nat.le_of_ble_eq_true rfl) dL_whistle_4 ⟨by show 0 + mc ≤ mc; omega, by show 0 + ms ≤ ms; omega⟩ ht (fun z h => by
    simp only [List.mem_cons, List.not_mem_nil, or_false] at h
    subst h
    exact Or.inr ⟨by decide, "java/lang/IndexOutOfBoundsException", hw _ w_739, (hCE s hC.2.2.2.2.2.1.2).2.2.2.2.1⟩) (by decide) (by decide) w_660 (va_Nw.use (by decide +kernel) (hCE s hC.2.2.2.2.2.1.2).1) (fun H locs n1 q hM => ?_)
  refine lv_astore_n (lv' := [(3, .ref q), (0, .ref bo), (1, .int p0), (2, .ref oa)]) hx hb dL_whistle_15 rfl hl (by decide) rfl (fun ls hl => ?_)
  refine lv_iconst (v := 2) hx hb dL_whistle_16 (by decide) ?_
  refine W.widen (k := mc) (n := ms) (by omega) (by omega) ?_
  exact me_nret hC hr hlk hM rfl rfl dL_whistle_17
set_option maxHeartbeats 4000000 in
theorem c_L_grantPermit (l : Launch) (D : va_G) (tb : Nat → ClassId) (X : State → Prop) (z0 n : Nat) (bo oa : Nat) (p0 p1 p2 : Int32) {M M' : me_M} {mc ms : Nat} {rm : Room} {n' : Nat} {r : Int32} {f : Nat → Int64} {fs : List Value} (hrc : rm.cells = mc) (hrs : rm.slots = ms) (hR : rm.frames ≤ 12 ∧ rm.locals ≤ 440) (he : M bo = some (.inr (7, fs))) (ho : M' oa = some (.inl (tb 3, 1, .inr (.inl f)))) (ct : Met l yX7_grantPermit (.code yX7_grantPermit cX7_grantPermit 4 (some .int) :: ws_all) rm (me_Pc [.ref bo, .int p0, .int p1, .int p2] D tb X z0 M n) (me_Qi D z0 r M' n') mc ms (me_A z0)) : Met l yL_grantPermit (.codeWith yL_grantPermit cL_grantPermit 6 (some .int) [(0, 12, 15, 19), (0, 12, 19, 21), (0, 12, 23, 13)] :: ws_all) ({ frames := 13, cells := mc, slots := ms, locals := 480 } : Room) (me_Pc [.ref bo, .int p0, .int p1, .int p2, .ref oa] D tb X z0 M n) (me_Qn D z0 0 (me_up M' oa (.inl (tb 3, 1, .inr (.inl (vp_updL f 0 r.toInt64)))))) mc ms (me_A z0) := by
  refine me_openH (by decide) (Nat.le_of_ble_eq_true rfl) ?_
  intro p e s m args below meth c ls hC ht hr hlk hM hl
  have hl : lv_has ls 6 [(0, .ref bo), (1, .int p0), (2, .int p1), (3, .int p2), (4, .ref oa)] := hl
  have hx := hC.1
  have hb := hC.2.1
  have hw := hC.2.2.2.2.1
  refine lv_aload hx hb dL_grantPermit_0 (lv_at hl 4 rfl) ?_
  refine lv_iconst (v := 0) hx hb dL_grantPermit_2 (by decide) ?_
  refine lv_aload_n hx hb dL_grantPermit_3 rfl (lv_at hl 0 rfl) ?_
  refine lv_iload_n hx hb dL_grantPermit_4 rfl (lv_at hl 1 rfl) ?_
  refine lv_iload_n hx hb dL_grantPermit_5 rfl (lv_at hl 2 rfl) ?_
  refine lv_iload_n hx hb dL_grantPermit_6 rfl (lv_at hl 3 rfl) ?_
  refine me_callVi (As := [.int p0, .int p1, .int p2]) (rest := [.int 0, .ref oa]) hC hl.1 hM ct (kv_L_107 hw hrc hrs ⟨by show rm.frames + 1 ≤ 13; omega, by show 8 + (4 + 11) + rm.locals ≤ 480; omega⟩) rfl rfl he rfl (Nat.le_of_ble_eq_true rfl) dL_grantPermit_7 ⟨by show 0 + mc ≤ mc; omega, by show 0 + ms ≤ ms; omega⟩ (fun H locs hM => ?_)
  refine lv_i2l hx hb dL_grantPermit_10 rfl ?_
  refine me_last (k := 0) (M2 := me_up M' oa (.inl (tb 3, 1, .inr (.inl (vp_updL f 0 r.toInt64))))) hC hM ho rfl (by decide) (by decide) rfl dL_grantPermit_11 (fun H locs hM => ?_)
  refine lv_goto (tgt := 27) hx hb dL_grantPermit_12 (by decide) ?_
  refine lv_iconst (v := 0) hx hb dL_grantPermit_27 (by decide) ?_
  refine W.widen (k := mc) (n := ms) (by omega) (by omega) ?_
  exact me_nret hC hr hlk hM rfl rfl dL_grantPermit_28
set_option maxHeartbeats 4000000 in
theorem c_L_grantPermit_x1 (l : Launch) (D : va_G) (tb : Nat → ClassId) (X : State → Prop) (z0 n : Nat) (bo oa : Nat) (p0 p1 p2 : Int32) {M M' : me_M} {mc ms : Nat} {rm : Room} {fs : List Value} (hCE : ∀ U, X U → me_ce U) (hrc : rm.cells = mc) (hrs : rm.slots = ms) (hR : rm.frames ≤ 12 ∧ rm.locals ≤ 440) (he : M bo = some (.inr (7, fs))) (ct : vx_Met l yX7_grantPermit (.code yX7_grantPermit cX7_grantPermit 4 (some .int) :: ws_all) rm (me_Pc [.ref bo, .int p0, .int p1, .int p2] D tb X z0 M n) me_no (me_XC D z0 M' "java/lang/IndexOutOfBoundsException") mc ms (me_A z0)) : Met l yL_grantPermit (.codeWith yL_grantPermit cL_grantPermit 6 (some .int) [(0, 12, 15, 19), (0, 12, 19, 21), (0, 12, 23, 13)] :: ws_all) ({ frames := 13, cells := mc, slots := ms, locals := 480 } : Room) (me_Pc [.ref bo, .int p0, .int p1, .int p2, .ref oa] D tb X z0 M n) (me_Qn D z0 1 M') mc ms (me_A z0) := by
  refine me_openH (by decide) (Nat.le_of_ble_eq_true rfl) ?_
  intro p e s m args below meth c ls hC ht hr hlk hM hl
  have hl : lv_has ls 6 [(0, .ref bo), (1, .int p0), (2, .int p1), (3, .int p2), (4, .ref oa)] := hl
  have hx := hC.1
  have hb := hC.2.1
  have hw := hC.2.2.2.2.1
  refine lv_aload hx hb dL_grantPermit_0 (lv_at hl 4 rfl) ?_
  refine lv_iconst (v := 0) hx hb dL_grantPermit_2 (by decide) ?_
  refine lv_aload_n hx hb dL_grantPermit_3 rfl (lv_at hl 0 rfl) ?_
  refine lv_iload_n hx hb dL_grantPermit_4 rfl (lv_at hl 1 rfl) ?_
  refine lv_iload_n hx hb dL_grantPermit_5 rfl (lv_at hl 2 rfl) ?_
  refine lv_iload_n hx hb dL_grantPermit_6 rfl (lv_at hl 3 rfl) ?_
  refine me_xcat (E0 := "java/lang/IndexOutOfBoundsException") (pre := []) (x := ⟨0, 12, 15, 19⟩) (suf := [⟨0, 12, 19, 21⟩, ⟨0, 12, 23, 13⟩]) (As := [.int p0, .int p1, .int p2]) (rest := [.int 0, .ref oa]) hC hl.1 hM ct (kv_L_107 hw hrc hrs ⟨by show rm.frames + 1 ≤ 13; omega, by show 8 + (4 + 11) + rm.locals ≤ 480; omega⟩) rfl rfl he rfl (Nat.le_of_ble_eq_true rfl) dL_grantPermit_7 ⟨by show 0 + mc ≤ mc; omega, by show 0 + ms ≤ ms; omega⟩ ht (fun z h => absurd h List.not_mem_nil) (by decide) (by decide) w_739 (va_Nw.use (by decide +kernel) (hCE s hC.2.2.2.2.2.1.2).2.1) (fun H locs n1 q hM => ?_)
  refine lv_astore (lv' := [(5, .ref q), (0, .ref bo), (1, .int p0), (2, .int p1), (3, .int p2), (4, .ref oa)]) hx hb dL_grantPermit_15 hl (by decide) rfl (fun ls hl => ?_)
  refine lv_iconst (v := 1) hx hb dL_grantPermit_17 (by decide) ?_
  refine W.widen (k := mc) (n := ms) (by omega) (by omega) ?_
  exact me_nret hC hr hlk hM rfl rfl dL_grantPermit_18
set_option maxHeartbeats 4000000 in
theorem c_L_grantPermit_x2 (l : Launch) (D : va_G) (tb : Nat → ClassId) (X : State → Prop) (z0 n : Nat) (bo oa : Nat) (p0 p1 p2 : Int32) {M M' : me_M} {mc ms : Nat} {rm : Room} {fs : List Value} (hCE : ∀ U, X U → me_ce U) (hrc : rm.cells = mc) (hrs : rm.slots = ms) (hR : rm.frames ≤ 12 ∧ rm.locals ≤ 440) (he : M bo = some (.inr (7, fs))) (ct : vx_Met l yX7_grantPermit (.code yX7_grantPermit cX7_grantPermit 4 (some .int) :: ws_all) rm (me_Pc [.ref bo, .int p0, .int p1, .int p2] D tb X z0 M n) me_no (me_XC D z0 M' "java/lang/IllegalArgumentException") mc ms (me_A z0)) : Met l yL_grantPermit (.codeWith yL_grantPermit cL_grantPermit 6 (some .int) [(0, 12, 15, 19), (0, 12, 19, 21), (0, 12, 23, 13)] :: ws_all) ({ frames := 13, cells := mc, slots := ms, locals := 480 } : Room) (me_Pc [.ref bo, .int p0, .int p1, .int p2, .ref oa] D tb X z0 M n) (me_Qn D z0 2 M') mc ms (me_A z0) := by
  refine me_openH (by decide) (Nat.le_of_ble_eq_true rfl) ?_
  intro p e s m args below meth c ls hC ht hr hlk hM hl
  have hl : lv_has ls 6 [(0, .ref bo), (1, .int p0), (2, .int p1), (3, .int p2), (4, .ref oa)] := hl
  have hx := hC.1
  have hb := hC.2.1
  have hw := hC.2.2.2.2.1
  refine lv_aload hx hb dL_grantPermit_0 (lv_at hl 4 rfl) ?_
  refine lv_iconst (v := 0) hx hb dL_grantPermit_2 (by decide) ?_
  refine lv_aload_n hx hb dL_grantPermit_3 rfl (lv_at hl 0 rfl) ?_
  refine lv_iload_n hx hb dL_grantPermit_4 rfl (lv_at hl 1 rfl) ?_
  refine lv_iload_n hx hb dL_grantPermit_5 rfl (lv_at hl 2 rfl) ?_
  refine lv_iload_n hx hb dL_grantPermit_6 rfl (lv_at hl 3 rfl) ?_
  refine me_xcat (E0 := "java/lang/IllegalArgumentException") (pre := [⟨0, 12, 15, 19⟩]) (x := ⟨0, 12, 19, 21⟩) (suf := [⟨0, 12, 23, 13⟩]) (As := [.int p0, .int p1, .int p2]) (rest := [.int 0, .ref oa]) hC hl.1 hM ct (kv_L_107 hw hrc hrs ⟨by show rm.frames + 1 ≤ 13; omega, by show 8 + (4 + 11) + rm.locals ≤ 480; omega⟩) rfl rfl he rfl (Nat.le_of_ble_eq_true rfl) dL_grantPermit_7 ⟨by show 0 + mc ≤ mc; omega, by show 0 + ms ≤ ms; omega⟩ ht (fun z h => by
    simp only [List.mem_cons, List.not_mem_nil, or_false] at h
    subst h
    exact Or.inr ⟨by decide, "java/lang/IndexOutOfBoundsException", hw _ w_739, (hCE s hC.2.2.2.2.2.1.2).2.2.2.1⟩) (by decide) (by decide) w_740 (va_Nw.use (by decide +kernel) (hCE s hC.2.2.2.2.2.1.2).2.2.1) (fun H locs n1 q hM => ?_)
  refine lv_astore (lv' := [(5, .ref q), (0, .ref bo), (1, .int p0), (2, .int p1), (3, .int p2), (4, .ref oa)]) hx hb dL_grantPermit_19 hl (by decide) rfl (fun ls hl => ?_)
  refine lv_iconst (v := 2) hx hb dL_grantPermit_21 (by decide) ?_
  refine W.widen (k := mc) (n := ms) (by omega) (by omega) ?_
  exact me_nret hC hr hlk hM rfl rfl dL_grantPermit_22
set_option maxHeartbeats 4000000 in
theorem c_L_grantPermit_x3 (l : Launch) (D : va_G) (tb : Nat → ClassId) (X : State → Prop) (z0 n : Nat) (bo oa : Nat) (p0 p1 p2 : Int32) {M M' : me_M} {mc ms : Nat} {rm : Room} {fs : List Value} (hCE : ∀ U, X U → me_ce U) (hrc : rm.cells = mc) (hrs : rm.slots = ms) (hR : rm.frames ≤ 12 ∧ rm.locals ≤ 440) (he : M bo = some (.inr (7, fs))) (ct : vx_Met l yX7_grantPermit (.code yX7_grantPermit cX7_grantPermit 4 (some .int) :: ws_all) rm (me_Pc [.ref bo, .int p0, .int p1, .int p2] D tb X z0 M n) me_no (me_XC D z0 M' "java/lang/IllegalStateException") mc ms (me_A z0)) : Met l yL_grantPermit (.codeWith yL_grantPermit cL_grantPermit 6 (some .int) [(0, 12, 15, 19), (0, 12, 19, 21), (0, 12, 23, 13)] :: ws_all) ({ frames := 13, cells := mc, slots := ms, locals := 480 } : Room) (me_Pc [.ref bo, .int p0, .int p1, .int p2, .ref oa] D tb X z0 M n) (me_Qn D z0 3 M') mc ms (me_A z0) := by
  refine me_openH (by decide) (Nat.le_of_ble_eq_true rfl) ?_
  intro p e s m args below meth c ls hC ht hr hlk hM hl
  have hl : lv_has ls 6 [(0, .ref bo), (1, .int p0), (2, .int p1), (3, .int p2), (4, .ref oa)] := hl
  have hx := hC.1
  have hb := hC.2.1
  have hw := hC.2.2.2.2.1
  refine lv_aload hx hb dL_grantPermit_0 (lv_at hl 4 rfl) ?_
  refine lv_iconst (v := 0) hx hb dL_grantPermit_2 (by decide) ?_
  refine lv_aload_n hx hb dL_grantPermit_3 rfl (lv_at hl 0 rfl) ?_
  refine lv_iload_n hx hb dL_grantPermit_4 rfl (lv_at hl 1 rfl) ?_
  refine lv_iload_n hx hb dL_grantPermit_5 rfl (lv_at hl 2 rfl) ?_
  refine lv_iload_n hx hb dL_grantPermit_6 rfl (lv_at hl 3 rfl) ?_
  refine me_xcat (E0 := "java/lang/IllegalStateException") (pre := [⟨0, 12, 15, 19⟩, ⟨0, 12, 19, 21⟩]) (x := ⟨0, 12, 23, 13⟩) (suf := []) (As := [.int p0, .int p1, .int p2]) (rest := [.int 0, .ref oa]) hC hl.1 hM ct (kv_L_107 hw hrc hrs ⟨by show rm.frames + 1 ≤ 13; omega, by show 8 + (4 + 11) + rm.locals ≤ 480; omega⟩) rfl rfl he rfl (Nat.le_of_ble_eq_true rfl) dL_grantPermit_7 ⟨by show 0 + mc ≤ mc; omega, by show 0 + ms ≤ ms; omega⟩ ht (fun z h => by
    simp only [List.mem_cons, List.not_mem_nil, or_false] at h
    rcases h with rfl | rfl
    · exact Or.inr ⟨by decide, "java/lang/IndexOutOfBoundsException", hw _ w_739, (hCE s hC.2.2.2.2.2.1.2).2.2.2.2.1⟩
    · exact Or.inr ⟨by decide, "java/lang/IllegalArgumentException", hw _ w_740, (hCE s hC.2.2.2.2.2.1.2).2.2.2.2.2⟩) (by decide) (by decide) w_660 (va_Nw.use (by decide +kernel) (hCE s hC.2.2.2.2.2.1.2).1) (fun H locs n1 q hM => ?_)
  refine lv_astore (lv' := [(5, .ref q), (0, .ref bo), (1, .int p0), (2, .int p1), (3, .int p2), (4, .ref oa)]) hx hb dL_grantPermit_23 hl (by decide) rfl (fun ls hl => ?_)
  refine lv_iconst (v := 3) hx hb dL_grantPermit_25 (by decide) ?_
  refine W.widen (k := mc) (n := ms) (by omega) (by omega) ?_
  exact me_nret hC hr hlk hM rfl rfl dL_grantPermit_26
set_option maxHeartbeats 4000000 in
theorem c_L_revokePermit (l : Launch) (D : va_G) (tb : Nat → ClassId) (X : State → Prop) (z0 n : Nat) (bo oa : Nat) (p0 : Int32) {M M' : me_M} {mc ms : Nat} {rm : Room} {n' : Nat} {r : Int32} {f : Nat → Int64} {fs : List Value} (hrc : rm.cells = mc) (hrs : rm.slots = ms) (hR : rm.frames ≤ 12 ∧ rm.locals ≤ 440) (he : M bo = some (.inr (7, fs))) (ho : M' oa = some (.inl (tb 3, 1, .inr (.inl f)))) (ct : Met l yX7_revokePermit (.code yX7_revokePermit cX7_revokePermit 2 (some .int) :: ws_all) rm (me_Pc [.ref bo, .int p0] D tb X z0 M n) (me_Qi D z0 r M' n') mc ms (me_A z0)) : Met l yL_revokePermit (.codeWith yL_revokePermit cL_revokePermit 4 (some .int) [(0, 9, 12, 19), (0, 9, 15, 13)] :: ws_all) ({ frames := 13, cells := mc, slots := ms, locals := 480 } : Room) (me_Pc [.ref bo, .int p0, .ref oa] D tb X z0 M n) (me_Qn D z0 0 (me_up M' oa (.inl (tb 3, 1, .inr (.inl (vp_updL f 0 r.toInt64)))))) mc ms (me_A z0) := by
  refine me_openH (by decide) (Nat.le_of_ble_eq_true rfl) ?_
  intro p e s m args below meth c ls hC ht hr hlk hM hl
  have hl : lv_has ls 4 [(0, .ref bo), (1, .int p0), (2, .ref oa)] := hl
  have hx := hC.1
  have hb := hC.2.1
  have hw := hC.2.2.2.2.1
  refine lv_aload_n hx hb dL_revokePermit_0 rfl (lv_at hl 2 rfl) ?_
  refine lv_iconst (v := 0) hx hb dL_revokePermit_1 (by decide) ?_
  refine lv_aload_n hx hb dL_revokePermit_2 rfl (lv_at hl 0 rfl) ?_
  refine lv_iload_n hx hb dL_revokePermit_3 rfl (lv_at hl 1 rfl) ?_
  refine me_callVi (As := [.int p0]) (rest := [.int 0, .ref oa]) hC hl.1 hM ct (kv_L_110 hw hrc hrs ⟨by show rm.frames + 1 ≤ 13; omega, by show 8 + (2 + 11) + rm.locals ≤ 480; omega⟩) rfl rfl he rfl (Nat.le_of_ble_eq_true rfl) dL_revokePermit_4 ⟨by show 0 + mc ≤ mc; omega, by show 0 + ms ≤ ms; omega⟩ (fun H locs hM => ?_)
  refine lv_i2l hx hb dL_revokePermit_7 rfl ?_
  refine me_last (k := 0) (M2 := me_up M' oa (.inl (tb 3, 1, .inr (.inl (vp_updL f 0 r.toInt64))))) hC hM ho rfl (by decide) (by decide) rfl dL_revokePermit_8 (fun H locs hM => ?_)
  refine lv_goto (tgt := 18) hx hb dL_revokePermit_9 (by decide) ?_
  refine lv_iconst (v := 0) hx hb dL_revokePermit_18 (by decide) ?_
  refine W.widen (k := mc) (n := ms) (by omega) (by omega) ?_
  exact me_nret hC hr hlk hM rfl rfl dL_revokePermit_19
set_option maxHeartbeats 4000000 in
theorem c_L_revokePermit_x1 (l : Launch) (D : va_G) (tb : Nat → ClassId) (X : State → Prop) (z0 n : Nat) (bo oa : Nat) (p0 : Int32) {M M' : me_M} {mc ms : Nat} {rm : Room} {fs : List Value} (hCE : ∀ U, X U → me_ce U) (hrc : rm.cells = mc) (hrs : rm.slots = ms) (hR : rm.frames ≤ 12 ∧ rm.locals ≤ 440) (he : M bo = some (.inr (7, fs))) (ct : vx_Met l yX7_revokePermit (.code yX7_revokePermit cX7_revokePermit 2 (some .int) :: ws_all) rm (me_Pc [.ref bo, .int p0] D tb X z0 M n) me_no (me_XC D z0 M' "java/lang/IndexOutOfBoundsException") mc ms (me_A z0)) : Met l yL_revokePermit (.codeWith yL_revokePermit cL_revokePermit 4 (some .int) [(0, 9, 12, 19), (0, 9, 15, 13)] :: ws_all) ({ frames := 13, cells := mc, slots := ms, locals := 480 } : Room) (me_Pc [.ref bo, .int p0, .ref oa] D tb X z0 M n) (me_Qn D z0 1 M') mc ms (me_A z0) := by
  refine me_openH (by decide) (Nat.le_of_ble_eq_true rfl) ?_
  intro p e s m args below meth c ls hC ht hr hlk hM hl
  have hl : lv_has ls 4 [(0, .ref bo), (1, .int p0), (2, .ref oa)] := hl
  have hx := hC.1
  have hb := hC.2.1
  have hw := hC.2.2.2.2.1
  refine lv_aload_n hx hb dL_revokePermit_0 rfl (lv_at hl 2 rfl) ?_
  refine lv_iconst (v := 0) hx hb dL_revokePermit_1 (by decide) ?_
  refine lv_aload_n hx hb dL_revokePermit_2 rfl (lv_at hl 0 rfl) ?_
  refine lv_iload_n hx hb dL_revokePermit_3 rfl (lv_at hl 1 rfl) ?_
  refine me_xcat (E0 := "java/lang/IndexOutOfBoundsException") (pre := []) (x := ⟨0, 9, 12, 19⟩) (suf := [⟨0, 9, 15, 13⟩]) (As := [.int p0]) (rest := [.int 0, .ref oa]) hC hl.1 hM ct (kv_L_110 hw hrc hrs ⟨by show rm.frames + 1 ≤ 13; omega, by show 8 + (2 + 11) + rm.locals ≤ 480; omega⟩) rfl rfl he rfl (Nat.le_of_ble_eq_true rfl) dL_revokePermit_4 ⟨by show 0 + mc ≤ mc; omega, by show 0 + ms ≤ ms; omega⟩ ht (fun z h => absurd h List.not_mem_nil) (by decide) (by decide) w_739 (va_Nw.use (by decide +kernel) (hCE s hC.2.2.2.2.2.1.2).2.1) (fun H locs n1 q hM => ?_)
  refine lv_astore_n (lv' := [(3, .ref q), (0, .ref bo), (1, .int p0), (2, .ref oa)]) hx hb dL_revokePermit_12 rfl hl (by decide) rfl (fun ls hl => ?_)
  refine lv_iconst (v := 1) hx hb dL_revokePermit_13 (by decide) ?_
  refine W.widen (k := mc) (n := ms) (by omega) (by omega) ?_
  exact me_nret hC hr hlk hM rfl rfl dL_revokePermit_14
set_option maxHeartbeats 4000000 in
theorem c_L_revokePermit_x2 (l : Launch) (D : va_G) (tb : Nat → ClassId) (X : State → Prop) (z0 n : Nat) (bo oa : Nat) (p0 : Int32) {M M' : me_M} {mc ms : Nat} {rm : Room} {fs : List Value} (hCE : ∀ U, X U → me_ce U) (hrc : rm.cells = mc) (hrs : rm.slots = ms) (hR : rm.frames ≤ 12 ∧ rm.locals ≤ 440) (he : M bo = some (.inr (7, fs))) (ct : vx_Met l yX7_revokePermit (.code yX7_revokePermit cX7_revokePermit 2 (some .int) :: ws_all) rm (me_Pc [.ref bo, .int p0] D tb X z0 M n) me_no (me_XC D z0 M' "java/lang/IllegalStateException") mc ms (me_A z0)) : Met l yL_revokePermit (.codeWith yL_revokePermit cL_revokePermit 4 (some .int) [(0, 9, 12, 19), (0, 9, 15, 13)] :: ws_all) ({ frames := 13, cells := mc, slots := ms, locals := 480 } : Room) (me_Pc [.ref bo, .int p0, .ref oa] D tb X z0 M n) (me_Qn D z0 2 M') mc ms (me_A z0) := by
  refine me_openH (by decide) (Nat.le_of_ble_eq_true rfl) ?_
  intro p e s m args below meth c ls hC ht hr hlk hM hl
  have hl : lv_has ls 4 [(0, .ref bo), (1, .int p0), (2, .ref oa)] := hl
  have hx := hC.1
  have hb := hC.2.1
  have hw := hC.2.2.2.2.1
  refine lv_aload_n hx hb dL_revokePermit_0 rfl (lv_at hl 2 rfl) ?_
  refine lv_iconst (v := 0) hx hb dL_revokePermit_1 (by decide) ?_
  refine lv_aload_n hx hb dL_revokePermit_2 rfl (lv_at hl 0 rfl) ?_
  refine lv_iload_n hx hb dL_revokePermit_3 rfl (lv_at hl 1 rfl) ?_
  refine me_xcat (E0 := "java/lang/IllegalStateException") (pre := [⟨0, 9, 12, 19⟩]) (x := ⟨0, 9, 15, 13⟩) (suf := []) (As := [.int p0]) (rest := [.int 0, .ref oa]) hC hl.1 hM ct (kv_L_110 hw hrc hrs ⟨by show rm.frames + 1 ≤ 13; omega, by show 8 + (2 + 11) + rm.locals ≤ 480; omega⟩) rfl rfl he rfl (Nat.le_of_ble_eq_true rfl) dL_revokePermit_4 ⟨by show 0 + mc ≤ mc; omega, by show 0 + ms ≤ ms; omega⟩ ht (fun z h => by
    simp only [List.mem_cons, List.not_mem_nil, or_false] at h
    subst h
    exact Or.inr ⟨by decide, "java/lang/IndexOutOfBoundsException", hw _ w_739, (hCE s hC.2.2.2.2.2.1.2).2.2.2.2.1⟩) (by decide) (by decide) w_660 (va_Nw.use (by decide +kernel) (hCE s hC.2.2.2.2.2.1.2).1) (fun H locs n1 q hM => ?_)
  refine lv_astore_n (lv' := [(3, .ref q), (0, .ref bo), (1, .int p0), (2, .ref oa)]) hx hb dL_revokePermit_15 rfl hl (by decide) rfl (fun ls hl => ?_)
  refine lv_iconst (v := 2) hx hb dL_revokePermit_16 (by decide) ?_
  refine W.widen (k := mc) (n := ms) (by omega) (by omega) ?_
  exact me_nret hC hr hlk hM rfl rfl dL_revokePermit_17
set_option maxHeartbeats 4000000 in
theorem c_L_pay (l : Launch) (D : va_G) (tb : Nat → ClassId) (X : State → Prop) (z0 n : Nat) (bo oa : Nat) (p0 p1 : Int32) {M M' : me_M} {mc ms : Nat} {rm : Room} {n' : Nat} {r : Int32} {f : Nat → Int64} {fs : List Value} (hrc : rm.cells = mc) (hrs : rm.slots = ms) (hR : rm.frames ≤ 12 ∧ rm.locals ≤ 440) (he : M bo = some (.inr (7, fs))) (ho : M' oa = some (.inl (tb 3, 1, .inr (.inl f)))) (ct : Met l yX7_pay (.code yX7_pay cX7_pay 3 (some .int) :: ws_all) rm (me_Pc [.ref bo, .int p0, .int p1] D tb X z0 M n) (me_Qi D z0 r M' n') mc ms (me_A z0)) : Met l yL_pay (.codeWith yL_pay cL_pay 5 (some .int) [(0, 10, 13, 19), (0, 10, 17, 21)] :: ws_all) ({ frames := 13, cells := mc, slots := ms, locals := 480 } : Room) (me_Pc [.ref bo, .int p0, .int p1, .ref oa] D tb X z0 M n) (me_Qn D z0 0 (me_up M' oa (.inl (tb 3, 1, .inr (.inl (vp_updL f 0 r.toInt64)))))) mc ms (me_A z0) := by
  refine me_openH (by decide) (Nat.le_of_ble_eq_true rfl) ?_
  intro p e s m args below meth c ls hC ht hr hlk hM hl
  have hl : lv_has ls 5 [(0, .ref bo), (1, .int p0), (2, .int p1), (3, .ref oa)] := hl
  have hx := hC.1
  have hb := hC.2.1
  have hw := hC.2.2.2.2.1
  refine lv_aload_n hx hb dL_pay_0 rfl (lv_at hl 3 rfl) ?_
  refine lv_iconst (v := 0) hx hb dL_pay_1 (by decide) ?_
  refine lv_aload_n hx hb dL_pay_2 rfl (lv_at hl 0 rfl) ?_
  refine lv_iload_n hx hb dL_pay_3 rfl (lv_at hl 1 rfl) ?_
  refine lv_iload_n hx hb dL_pay_4 rfl (lv_at hl 2 rfl) ?_
  refine me_callVi (As := [.int p0, .int p1]) (rest := [.int 0, .ref oa]) hC hl.1 hM ct (kv_L_113 hw hrc hrs ⟨by show rm.frames + 1 ≤ 13; omega, by show 8 + (3 + 11) + rm.locals ≤ 480; omega⟩) rfl rfl he rfl (Nat.le_of_ble_eq_true rfl) dL_pay_5 ⟨by show 0 + mc ≤ mc; omega, by show 0 + ms ≤ ms; omega⟩ (fun H locs hM => ?_)
  refine lv_i2l hx hb dL_pay_8 rfl ?_
  refine me_last (k := 0) (M2 := me_up M' oa (.inl (tb 3, 1, .inr (.inl (vp_updL f 0 r.toInt64))))) hC hM ho rfl (by decide) (by decide) rfl dL_pay_9 (fun H locs hM => ?_)
  refine lv_goto (tgt := 21) hx hb dL_pay_10 (by decide) ?_
  refine lv_iconst (v := 0) hx hb dL_pay_21 (by decide) ?_
  refine W.widen (k := mc) (n := ms) (by omega) (by omega) ?_
  exact me_nret hC hr hlk hM rfl rfl dL_pay_22
set_option maxHeartbeats 4000000 in
theorem c_L_pay_x1 (l : Launch) (D : va_G) (tb : Nat → ClassId) (X : State → Prop) (z0 n : Nat) (bo oa : Nat) (p0 p1 : Int32) {M M' : me_M} {mc ms : Nat} {rm : Room} {fs : List Value} (hCE : ∀ U, X U → me_ce U) (hrc : rm.cells = mc) (hrs : rm.slots = ms) (hR : rm.frames ≤ 12 ∧ rm.locals ≤ 440) (he : M bo = some (.inr (7, fs))) (ct : vx_Met l yX7_pay (.code yX7_pay cX7_pay 3 (some .int) :: ws_all) rm (me_Pc [.ref bo, .int p0, .int p1] D tb X z0 M n) me_no (me_XC D z0 M' "java/lang/IndexOutOfBoundsException") mc ms (me_A z0)) : Met l yL_pay (.codeWith yL_pay cL_pay 5 (some .int) [(0, 10, 13, 19), (0, 10, 17, 21)] :: ws_all) ({ frames := 13, cells := mc, slots := ms, locals := 480 } : Room) (me_Pc [.ref bo, .int p0, .int p1, .ref oa] D tb X z0 M n) (me_Qn D z0 1 M') mc ms (me_A z0) := by
  refine me_openH (by decide) (Nat.le_of_ble_eq_true rfl) ?_
  intro p e s m args below meth c ls hC ht hr hlk hM hl
  have hl : lv_has ls 5 [(0, .ref bo), (1, .int p0), (2, .int p1), (3, .ref oa)] := hl
  have hx := hC.1
  have hb := hC.2.1
  have hw := hC.2.2.2.2.1
  refine lv_aload_n hx hb dL_pay_0 rfl (lv_at hl 3 rfl) ?_
  refine lv_iconst (v := 0) hx hb dL_pay_1 (by decide) ?_
  refine lv_aload_n hx hb dL_pay_2 rfl (lv_at hl 0 rfl) ?_
  refine lv_iload_n hx hb dL_pay_3 rfl (lv_at hl 1 rfl) ?_
  refine lv_iload_n hx hb dL_pay_4 rfl (lv_at hl 2 rfl) ?_
  refine me_xcat (E0 := "java/lang/IndexOutOfBoundsException") (pre := []) (x := ⟨0, 10, 13, 19⟩) (suf := [⟨0, 10, 17, 21⟩]) (As := [.int p0, .int p1]) (rest := [.int 0, .ref oa]) hC hl.1 hM ct (kv_L_113 hw hrc hrs ⟨by show rm.frames + 1 ≤ 13; omega, by show 8 + (3 + 11) + rm.locals ≤ 480; omega⟩) rfl rfl he rfl (Nat.le_of_ble_eq_true rfl) dL_pay_5 ⟨by show 0 + mc ≤ mc; omega, by show 0 + ms ≤ ms; omega⟩ ht (fun z h => absurd h List.not_mem_nil) (by decide) (by decide) w_739 (va_Nw.use (by decide +kernel) (hCE s hC.2.2.2.2.2.1.2).2.1) (fun H locs n1 q hM => ?_)
  refine lv_astore (lv' := [(4, .ref q), (0, .ref bo), (1, .int p0), (2, .int p1), (3, .ref oa)]) hx hb dL_pay_13 hl (by decide) rfl (fun ls hl => ?_)
  refine lv_iconst (v := 1) hx hb dL_pay_15 (by decide) ?_
  refine W.widen (k := mc) (n := ms) (by omega) (by omega) ?_
  exact me_nret hC hr hlk hM rfl rfl dL_pay_16
set_option maxHeartbeats 4000000 in
theorem c_L_pay_x2 (l : Launch) (D : va_G) (tb : Nat → ClassId) (X : State → Prop) (z0 n : Nat) (bo oa : Nat) (p0 p1 : Int32) {M M' : me_M} {mc ms : Nat} {rm : Room} {fs : List Value} (hCE : ∀ U, X U → me_ce U) (hrc : rm.cells = mc) (hrs : rm.slots = ms) (hR : rm.frames ≤ 12 ∧ rm.locals ≤ 440) (he : M bo = some (.inr (7, fs))) (ct : vx_Met l yX7_pay (.code yX7_pay cX7_pay 3 (some .int) :: ws_all) rm (me_Pc [.ref bo, .int p0, .int p1] D tb X z0 M n) me_no (me_XC D z0 M' "java/lang/IllegalArgumentException") mc ms (me_A z0)) : Met l yL_pay (.codeWith yL_pay cL_pay 5 (some .int) [(0, 10, 13, 19), (0, 10, 17, 21)] :: ws_all) ({ frames := 13, cells := mc, slots := ms, locals := 480 } : Room) (me_Pc [.ref bo, .int p0, .int p1, .ref oa] D tb X z0 M n) (me_Qn D z0 2 M') mc ms (me_A z0) := by
  refine me_openH (by decide) (Nat.le_of_ble_eq_true rfl) ?_
  intro p e s m args below meth c ls hC ht hr hlk hM hl
  have hl : lv_has ls 5 [(0, .ref bo), (1, .int p0), (2, .int p1), (3, .ref oa)] := hl
  have hx := hC.1
  have hb := hC.2.1
  have hw := hC.2.2.2.2.1
  refine lv_aload_n hx hb dL_pay_0 rfl (lv_at hl 3 rfl) ?_
  refine lv_iconst (v := 0) hx hb dL_pay_1 (by decide) ?_
  refine lv_aload_n hx hb dL_pay_2 rfl (lv_at hl 0 rfl) ?_
  refine lv_iload_n hx hb dL_pay_3 rfl (lv_at hl 1 rfl) ?_
  refine lv_iload_n hx hb dL_pay_4 rfl (lv_at hl 2 rfl) ?_
  refine me_xcat (E0 := "java/lang/IllegalArgumentException") (pre := [⟨0, 10, 13, 19⟩]) (x := ⟨0, 10, 17, 21⟩) (suf := []) (As := [.int p0, .int p1]) (rest := [.int 0, .ref oa]) hC hl.1 hM ct (kv_L_113 hw hrc hrs ⟨by show rm.frames + 1 ≤ 13; omega, by show 8 + (3 + 11) + rm.locals ≤ 480; omega⟩) rfl rfl he rfl (Nat.le_of_ble_eq_true rfl) dL_pay_5 ⟨by show 0 + mc ≤ mc; omega, by show 0 + ms ≤ ms; omega⟩ ht (fun z h => by
    simp only [List.mem_cons, List.not_mem_nil, or_false] at h
    subst h
    exact Or.inr ⟨by decide, "java/lang/IndexOutOfBoundsException", hw _ w_739, (hCE s hC.2.2.2.2.2.1.2).2.2.2.1⟩) (by decide) (by decide) w_740 (va_Nw.use (by decide +kernel) (hCE s hC.2.2.2.2.2.1.2).2.2.1) (fun H locs n1 q hM => ?_)
  refine lv_astore (lv' := [(4, .ref q), (0, .ref bo), (1, .int p0), (2, .int p1), (3, .ref oa)]) hx hb dL_pay_17 hl (by decide) rfl (fun ls hl => ?_)
  refine lv_iconst (v := 2) hx hb dL_pay_19 (by decide) ?_
  refine W.widen (k := mc) (n := ms) (by omega) (by omega) ?_
  exact me_nret hC hr hlk hM rfl rfl dL_pay_20
set_option maxHeartbeats 4000000 in
theorem c_L_advance (l : Launch) (D : va_G) (tb : Nat → ClassId) (X : State → Prop) (z0 n : Nat) (bo oa : Nat) (p0 : Int32) {M M' : me_M} {mc ms : Nat} {rm : Room} {n' : Nat} {r : Int32} {f : Nat → Int64} {fs : List Value} (hrc : rm.cells = mc) (hrs : rm.slots = ms) (hR : rm.frames ≤ 12 ∧ rm.locals ≤ 440) (he : M bo = some (.inr (7, fs))) (ho : M' oa = some (.inl (tb 3, 1, .inr (.inl f)))) (ct : Met l yX7_advance (.code yX7_advance cX7_advance 2 (some .int) :: ws_all) rm (me_Pc [.ref bo, .int p0] D tb X z0 M n) (me_Qi D z0 r M' n') mc ms (me_A z0)) : Met l yL_advance (.codeWith yL_advance cL_advance 4 (some .int) [(0, 9, 12, 21), (0, 9, 15, 13)] :: ws_all) ({ frames := 13, cells := mc, slots := ms, locals := 480 } : Room) (me_Pc [.ref bo, .int p0, .ref oa] D tb X z0 M n) (me_Qn D z0 0 (me_up M' oa (.inl (tb 3, 1, .inr (.inl (vp_updL f 0 r.toInt64)))))) mc ms (me_A z0) := by
  refine me_openH (by decide) (Nat.le_of_ble_eq_true rfl) ?_
  intro p e s m args below meth c ls hC ht hr hlk hM hl
  have hl : lv_has ls 4 [(0, .ref bo), (1, .int p0), (2, .ref oa)] := hl
  have hx := hC.1
  have hb := hC.2.1
  have hw := hC.2.2.2.2.1
  refine lv_aload_n hx hb dL_advance_0 rfl (lv_at hl 2 rfl) ?_
  refine lv_iconst (v := 0) hx hb dL_advance_1 (by decide) ?_
  refine lv_aload_n hx hb dL_advance_2 rfl (lv_at hl 0 rfl) ?_
  refine lv_iload_n hx hb dL_advance_3 rfl (lv_at hl 1 rfl) ?_
  refine me_callVi (As := [.int p0]) (rest := [.int 0, .ref oa]) hC hl.1 hM ct (kv_L_116 hw hrc hrs ⟨by show rm.frames + 1 ≤ 13; omega, by show 8 + (2 + 11) + rm.locals ≤ 480; omega⟩) rfl rfl he rfl (Nat.le_of_ble_eq_true rfl) dL_advance_4 ⟨by show 0 + mc ≤ mc; omega, by show 0 + ms ≤ ms; omega⟩ (fun H locs hM => ?_)
  refine lv_i2l hx hb dL_advance_7 rfl ?_
  refine me_last (k := 0) (M2 := me_up M' oa (.inl (tb 3, 1, .inr (.inl (vp_updL f 0 r.toInt64))))) hC hM ho rfl (by decide) (by decide) rfl dL_advance_8 (fun H locs hM => ?_)
  refine lv_goto (tgt := 18) hx hb dL_advance_9 (by decide) ?_
  refine lv_iconst (v := 0) hx hb dL_advance_18 (by decide) ?_
  refine W.widen (k := mc) (n := ms) (by omega) (by omega) ?_
  exact me_nret hC hr hlk hM rfl rfl dL_advance_19
set_option maxHeartbeats 4000000 in
theorem c_L_advance_x1 (l : Launch) (D : va_G) (tb : Nat → ClassId) (X : State → Prop) (z0 n : Nat) (bo oa : Nat) (p0 : Int32) {M M' : me_M} {mc ms : Nat} {rm : Room} {fs : List Value} (hCE : ∀ U, X U → me_ce U) (hrc : rm.cells = mc) (hrs : rm.slots = ms) (hR : rm.frames ≤ 12 ∧ rm.locals ≤ 440) (he : M bo = some (.inr (7, fs))) (ct : vx_Met l yX7_advance (.code yX7_advance cX7_advance 2 (some .int) :: ws_all) rm (me_Pc [.ref bo, .int p0] D tb X z0 M n) me_no (me_XC D z0 M' "java/lang/IllegalArgumentException") mc ms (me_A z0)) : Met l yL_advance (.codeWith yL_advance cL_advance 4 (some .int) [(0, 9, 12, 21), (0, 9, 15, 13)] :: ws_all) ({ frames := 13, cells := mc, slots := ms, locals := 480 } : Room) (me_Pc [.ref bo, .int p0, .ref oa] D tb X z0 M n) (me_Qn D z0 1 M') mc ms (me_A z0) := by
  refine me_openH (by decide) (Nat.le_of_ble_eq_true rfl) ?_
  intro p e s m args below meth c ls hC ht hr hlk hM hl
  have hl : lv_has ls 4 [(0, .ref bo), (1, .int p0), (2, .ref oa)] := hl
  have hx := hC.1
  have hb := hC.2.1
  have hw := hC.2.2.2.2.1
  refine lv_aload_n hx hb dL_advance_0 rfl (lv_at hl 2 rfl) ?_
  refine lv_iconst (v := 0) hx hb dL_advance_1 (by decide) ?_
  refine lv_aload_n hx hb dL_advance_2 rfl (lv_at hl 0 rfl) ?_
  refine lv_iload_n hx hb dL_advance_3 rfl (lv_at hl 1 rfl) ?_
  refine me_xcat (E0 := "java/lang/IllegalArgumentException") (pre := []) (x := ⟨0, 9, 12, 21⟩) (suf := [⟨0, 9, 15, 13⟩]) (As := [.int p0]) (rest := [.int 0, .ref oa]) hC hl.1 hM ct (kv_L_116 hw hrc hrs ⟨by show rm.frames + 1 ≤ 13; omega, by show 8 + (2 + 11) + rm.locals ≤ 480; omega⟩) rfl rfl he rfl (Nat.le_of_ble_eq_true rfl) dL_advance_4 ⟨by show 0 + mc ≤ mc; omega, by show 0 + ms ≤ ms; omega⟩ ht (fun z h => absurd h List.not_mem_nil) (by decide) (by decide) w_740 (va_Nw.use (by decide +kernel) (hCE s hC.2.2.2.2.2.1.2).2.2.1) (fun H locs n1 q hM => ?_)
  refine lv_astore_n (lv' := [(3, .ref q), (0, .ref bo), (1, .int p0), (2, .ref oa)]) hx hb dL_advance_12 rfl hl (by decide) rfl (fun ls hl => ?_)
  refine lv_iconst (v := 1) hx hb dL_advance_13 (by decide) ?_
  refine W.widen (k := mc) (n := ms) (by omega) (by omega) ?_
  exact me_nret hC hr hlk hM rfl rfl dL_advance_14
set_option maxHeartbeats 4000000 in
theorem c_L_advance_x2 (l : Launch) (D : va_G) (tb : Nat → ClassId) (X : State → Prop) (z0 n : Nat) (bo oa : Nat) (p0 : Int32) {M M' : me_M} {mc ms : Nat} {rm : Room} {fs : List Value} (hCE : ∀ U, X U → me_ce U) (hrc : rm.cells = mc) (hrs : rm.slots = ms) (hR : rm.frames ≤ 12 ∧ rm.locals ≤ 440) (he : M bo = some (.inr (7, fs))) (ct : vx_Met l yX7_advance (.code yX7_advance cX7_advance 2 (some .int) :: ws_all) rm (me_Pc [.ref bo, .int p0] D tb X z0 M n) me_no (me_XC D z0 M' "java/lang/IllegalStateException") mc ms (me_A z0)) : Met l yL_advance (.codeWith yL_advance cL_advance 4 (some .int) [(0, 9, 12, 21), (0, 9, 15, 13)] :: ws_all) ({ frames := 13, cells := mc, slots := ms, locals := 480 } : Room) (me_Pc [.ref bo, .int p0, .ref oa] D tb X z0 M n) (me_Qn D z0 2 M') mc ms (me_A z0) := by
  refine me_openH (by decide) (Nat.le_of_ble_eq_true rfl) ?_
  intro p e s m args below meth c ls hC ht hr hlk hM hl
  have hl : lv_has ls 4 [(0, .ref bo), (1, .int p0), (2, .ref oa)] := hl
  have hx := hC.1
  have hb := hC.2.1
  have hw := hC.2.2.2.2.1
  refine lv_aload_n hx hb dL_advance_0 rfl (lv_at hl 2 rfl) ?_
  refine lv_iconst (v := 0) hx hb dL_advance_1 (by decide) ?_
  refine lv_aload_n hx hb dL_advance_2 rfl (lv_at hl 0 rfl) ?_
  refine lv_iload_n hx hb dL_advance_3 rfl (lv_at hl 1 rfl) ?_
  refine me_xcat (E0 := "java/lang/IllegalStateException") (pre := [⟨0, 9, 12, 21⟩]) (x := ⟨0, 9, 15, 13⟩) (suf := []) (As := [.int p0]) (rest := [.int 0, .ref oa]) hC hl.1 hM ct (kv_L_116 hw hrc hrs ⟨by show rm.frames + 1 ≤ 13; omega, by show 8 + (2 + 11) + rm.locals ≤ 480; omega⟩) rfl rfl he rfl (Nat.le_of_ble_eq_true rfl) dL_advance_4 ⟨by show 0 + mc ≤ mc; omega, by show 0 + ms ≤ ms; omega⟩ ht (fun z h => by
    simp only [List.mem_cons, List.not_mem_nil, or_false] at h
    subst h
    exact Or.inr ⟨by decide, "java/lang/IllegalArgumentException", hw _ w_740, (hCE s hC.2.2.2.2.2.1.2).2.2.2.2.2⟩) (by decide) (by decide) w_660 (va_Nw.use (by decide +kernel) (hCE s hC.2.2.2.2.2.1.2).1) (fun H locs n1 q hM => ?_)
  refine lv_astore_n (lv' := [(3, .ref q), (0, .ref bo), (1, .int p0), (2, .ref oa)]) hx hb dL_advance_15 rfl hl (by decide) rfl (fun ls hl => ?_)
  refine lv_iconst (v := 2) hx hb dL_advance_16 (by decide) ?_
  refine W.widen (k := mc) (n := ms) (by omega) (by omega) ?_
  exact me_nret hC hr hlk hM rfl rfl dL_advance_17
set_option maxHeartbeats 4000000 in
theorem c_L_restore (l : Launch) (D : va_G) (tb : Nat → ClassId) (X : State → Prop) (z0 n : Nat) (bo oa : Nat) (p0 : Int32) {M M' : me_M} {mc ms : Nat} {rm : Room} {n' : Nat} {r : Int32} {f : Nat → Int64} {fs : List Value} (hrc : rm.cells = mc) (hrs : rm.slots = ms) (hR : rm.frames ≤ 12 ∧ rm.locals ≤ 440) (he : M bo = some (.inr (7, fs))) (ho : M' oa = some (.inl (tb 3, 1, .inr (.inl f)))) (ct : Met l yX7_restore (.code yX7_restore cX7_restore 2 (some .int) :: ws_all) rm (me_Pc [.ref bo, .int p0] D tb X z0 M n) (me_Qi D z0 r M' n') mc ms (me_A z0)) : Met l yL_restore (.codeWith yL_restore cL_restore 4 (some .int) [(0, 9, 12, 19), (0, 9, 15, 13)] :: ws_all) ({ frames := 13, cells := mc, slots := ms, locals := 480 } : Room) (me_Pc [.ref bo, .int p0, .ref oa] D tb X z0 M n) (me_Qn D z0 0 (me_up M' oa (.inl (tb 3, 1, .inr (.inl (vp_updL f 0 r.toInt64)))))) mc ms (me_A z0) := by
  refine me_openH (by decide) (Nat.le_of_ble_eq_true rfl) ?_
  intro p e s m args below meth c ls hC ht hr hlk hM hl
  have hl : lv_has ls 4 [(0, .ref bo), (1, .int p0), (2, .ref oa)] := hl
  have hx := hC.1
  have hb := hC.2.1
  have hw := hC.2.2.2.2.1
  refine lv_aload_n hx hb dL_restore_0 rfl (lv_at hl 2 rfl) ?_
  refine lv_iconst (v := 0) hx hb dL_restore_1 (by decide) ?_
  refine lv_aload_n hx hb dL_restore_2 rfl (lv_at hl 0 rfl) ?_
  refine lv_iload_n hx hb dL_restore_3 rfl (lv_at hl 1 rfl) ?_
  refine me_callVi (As := [.int p0]) (rest := [.int 0, .ref oa]) hC hl.1 hM ct (kv_L_119 hw hrc hrs ⟨by show rm.frames + 1 ≤ 13; omega, by show 8 + (2 + 11) + rm.locals ≤ 480; omega⟩) rfl rfl he rfl (Nat.le_of_ble_eq_true rfl) dL_restore_4 ⟨by show 0 + mc ≤ mc; omega, by show 0 + ms ≤ ms; omega⟩ (fun H locs hM => ?_)
  refine lv_i2l hx hb dL_restore_7 rfl ?_
  refine me_last (k := 0) (M2 := me_up M' oa (.inl (tb 3, 1, .inr (.inl (vp_updL f 0 r.toInt64))))) hC hM ho rfl (by decide) (by decide) rfl dL_restore_8 (fun H locs hM => ?_)
  refine lv_goto (tgt := 18) hx hb dL_restore_9 (by decide) ?_
  refine lv_iconst (v := 0) hx hb dL_restore_18 (by decide) ?_
  refine W.widen (k := mc) (n := ms) (by omega) (by omega) ?_
  exact me_nret hC hr hlk hM rfl rfl dL_restore_19
set_option maxHeartbeats 4000000 in
theorem c_L_restore_x1 (l : Launch) (D : va_G) (tb : Nat → ClassId) (X : State → Prop) (z0 n : Nat) (bo oa : Nat) (p0 : Int32) {M M' : me_M} {mc ms : Nat} {rm : Room} {fs : List Value} (hCE : ∀ U, X U → me_ce U) (hrc : rm.cells = mc) (hrs : rm.slots = ms) (hR : rm.frames ≤ 12 ∧ rm.locals ≤ 440) (he : M bo = some (.inr (7, fs))) (ct : vx_Met l yX7_restore (.code yX7_restore cX7_restore 2 (some .int) :: ws_all) rm (me_Pc [.ref bo, .int p0] D tb X z0 M n) me_no (me_XC D z0 M' "java/lang/IndexOutOfBoundsException") mc ms (me_A z0)) : Met l yL_restore (.codeWith yL_restore cL_restore 4 (some .int) [(0, 9, 12, 19), (0, 9, 15, 13)] :: ws_all) ({ frames := 13, cells := mc, slots := ms, locals := 480 } : Room) (me_Pc [.ref bo, .int p0, .ref oa] D tb X z0 M n) (me_Qn D z0 1 M') mc ms (me_A z0) := by
  refine me_openH (by decide) (Nat.le_of_ble_eq_true rfl) ?_
  intro p e s m args below meth c ls hC ht hr hlk hM hl
  have hl : lv_has ls 4 [(0, .ref bo), (1, .int p0), (2, .ref oa)] := hl
  have hx := hC.1
  have hb := hC.2.1
  have hw := hC.2.2.2.2.1
  refine lv_aload_n hx hb dL_restore_0 rfl (lv_at hl 2 rfl) ?_
  refine lv_iconst (v := 0) hx hb dL_restore_1 (by decide) ?_
  refine lv_aload_n hx hb dL_restore_2 rfl (lv_at hl 0 rfl) ?_
  refine lv_iload_n hx hb dL_restore_3 rfl (lv_at hl 1 rfl) ?_
  refine me_xcat (E0 := "java/lang/IndexOutOfBoundsException") (pre := []) (x := ⟨0, 9, 12, 19⟩) (suf := [⟨0, 9, 15, 13⟩]) (As := [.int p0]) (rest := [.int 0, .ref oa]) hC hl.1 hM ct (kv_L_119 hw hrc hrs ⟨by show rm.frames + 1 ≤ 13; omega, by show 8 + (2 + 11) + rm.locals ≤ 480; omega⟩) rfl rfl he rfl (Nat.le_of_ble_eq_true rfl) dL_restore_4 ⟨by show 0 + mc ≤ mc; omega, by show 0 + ms ≤ ms; omega⟩ ht (fun z h => absurd h List.not_mem_nil) (by decide) (by decide) w_739 (va_Nw.use (by decide +kernel) (hCE s hC.2.2.2.2.2.1.2).2.1) (fun H locs n1 q hM => ?_)
  refine lv_astore_n (lv' := [(3, .ref q), (0, .ref bo), (1, .int p0), (2, .ref oa)]) hx hb dL_restore_12 rfl hl (by decide) rfl (fun ls hl => ?_)
  refine lv_iconst (v := 1) hx hb dL_restore_13 (by decide) ?_
  refine W.widen (k := mc) (n := ms) (by omega) (by omega) ?_
  exact me_nret hC hr hlk hM rfl rfl dL_restore_14
set_option maxHeartbeats 4000000 in
theorem c_L_restore_x2 (l : Launch) (D : va_G) (tb : Nat → ClassId) (X : State → Prop) (z0 n : Nat) (bo oa : Nat) (p0 : Int32) {M M' : me_M} {mc ms : Nat} {rm : Room} {fs : List Value} (hCE : ∀ U, X U → me_ce U) (hrc : rm.cells = mc) (hrs : rm.slots = ms) (hR : rm.frames ≤ 12 ∧ rm.locals ≤ 440) (he : M bo = some (.inr (7, fs))) (ct : vx_Met l yX7_restore (.code yX7_restore cX7_restore 2 (some .int) :: ws_all) rm (me_Pc [.ref bo, .int p0] D tb X z0 M n) me_no (me_XC D z0 M' "java/lang/IllegalStateException") mc ms (me_A z0)) : Met l yL_restore (.codeWith yL_restore cL_restore 4 (some .int) [(0, 9, 12, 19), (0, 9, 15, 13)] :: ws_all) ({ frames := 13, cells := mc, slots := ms, locals := 480 } : Room) (me_Pc [.ref bo, .int p0, .ref oa] D tb X z0 M n) (me_Qn D z0 2 M') mc ms (me_A z0) := by
  refine me_openH (by decide) (Nat.le_of_ble_eq_true rfl) ?_
  intro p e s m args below meth c ls hC ht hr hlk hM hl
  have hl : lv_has ls 4 [(0, .ref bo), (1, .int p0), (2, .ref oa)] := hl
  have hx := hC.1
  have hb := hC.2.1
  have hw := hC.2.2.2.2.1
  refine lv_aload_n hx hb dL_restore_0 rfl (lv_at hl 2 rfl) ?_
  refine lv_iconst (v := 0) hx hb dL_restore_1 (by decide) ?_
  refine lv_aload_n hx hb dL_restore_2 rfl (lv_at hl 0 rfl) ?_
  refine lv_iload_n hx hb dL_restore_3 rfl (lv_at hl 1 rfl) ?_
  refine me_xcat (E0 := "java/lang/IllegalStateException") (pre := [⟨0, 9, 12, 19⟩]) (x := ⟨0, 9, 15, 13⟩) (suf := []) (As := [.int p0]) (rest := [.int 0, .ref oa]) hC hl.1 hM ct (kv_L_119 hw hrc hrs ⟨by show rm.frames + 1 ≤ 13; omega, by show 8 + (2 + 11) + rm.locals ≤ 480; omega⟩) rfl rfl he rfl (Nat.le_of_ble_eq_true rfl) dL_restore_4 ⟨by show 0 + mc ≤ mc; omega, by show 0 + ms ≤ ms; omega⟩ ht (fun z h => by
    simp only [List.mem_cons, List.not_mem_nil, or_false] at h
    subst h
    exact Or.inr ⟨by decide, "java/lang/IndexOutOfBoundsException", hw _ w_739, (hCE s hC.2.2.2.2.2.1.2).2.2.2.2.1⟩) (by decide) (by decide) w_660 (va_Nw.use (by decide +kernel) (hCE s hC.2.2.2.2.2.1.2).1) (fun H locs n1 q hM => ?_)
  refine lv_astore_n (lv' := [(3, .ref q), (0, .ref bo), (1, .int p0), (2, .ref oa)]) hx hb dL_restore_15 rfl hl (by decide) rfl (fun ls hl => ?_)
  refine lv_iconst (v := 2) hx hb dL_restore_16 (by decide) ?_
  refine W.widen (k := mc) (n := ms) (by omega) (by omega) ?_
  exact me_nret hC hr hlk hM rfl rfl dL_restore_17
set_option maxHeartbeats 4000000 in
theorem c_L_undo (l : Launch) (D : va_G) (tb : Nat → ClassId) (X : State → Prop) (z0 n : Nat) (bo oa : Nat) {M M' : me_M} {mc ms : Nat} {rm : Room} {n' : Nat} {r : Int32} {f : Nat → Int64} {fs : List Value} (hrc : rm.cells = mc) (hrs : rm.slots = ms) (hR : rm.frames ≤ 12 ∧ rm.locals ≤ 440) (he : M bo = some (.inr (7, fs))) (ho : M' oa = some (.inl (tb 3, 1, .inr (.inl f)))) (ct : Met l yX7_undo (.code yX7_undo cX7_undo 1 (some .int) :: ws_all) rm (me_Pc [.ref bo] D tb X z0 M n) (me_Qi D z0 r M' n') mc ms (me_A z0)) : Met l yL_undo (.codeWith yL_undo cL_undo 3 (some .int) [(0, 8, 11, 13)] :: ws_all) ({ frames := 13, cells := mc, slots := ms, locals := 480 } : Room) (me_Pc [.ref bo, .ref oa] D tb X z0 M n) (me_Qn D z0 0 (me_up M' oa (.inl (tb 3, 1, .inr (.inl (vp_updL f 0 r.toInt64)))))) mc ms (me_A z0) := by
  refine me_openH (by decide) (Nat.le_of_ble_eq_true rfl) ?_
  intro p e s m args below meth c ls hC ht hr hlk hM hl
  have hl : lv_has ls 3 [(0, .ref bo), (1, .ref oa)] := hl
  have hx := hC.1
  have hb := hC.2.1
  have hw := hC.2.2.2.2.1
  refine lv_aload_n hx hb dL_undo_0 rfl (lv_at hl 1 rfl) ?_
  refine lv_iconst (v := 0) hx hb dL_undo_1 (by decide) ?_
  refine lv_aload_n hx hb dL_undo_2 rfl (lv_at hl 0 rfl) ?_
  refine me_callVi (As := []) (rest := [.int 0, .ref oa]) hC hl.1 hM ct (kv_L_122 hw hrc hrs ⟨by show rm.frames + 1 ≤ 13; omega, by show 8 + (1 + 11) + rm.locals ≤ 480; omega⟩) rfl rfl he rfl (Nat.le_of_ble_eq_true rfl) dL_undo_3 ⟨by show 0 + mc ≤ mc; omega, by show 0 + ms ≤ ms; omega⟩ (fun H locs hM => ?_)
  refine lv_i2l hx hb dL_undo_6 rfl ?_
  refine me_last (k := 0) (M2 := me_up M' oa (.inl (tb 3, 1, .inr (.inl (vp_updL f 0 r.toInt64))))) hC hM ho rfl (by decide) (by decide) rfl dL_undo_7 (fun H locs hM => ?_)
  refine lv_goto (tgt := 14) hx hb dL_undo_8 (by decide) ?_
  refine lv_iconst (v := 0) hx hb dL_undo_14 (by decide) ?_
  refine W.widen (k := mc) (n := ms) (by omega) (by omega) ?_
  exact me_nret hC hr hlk hM rfl rfl dL_undo_15
set_option maxHeartbeats 4000000 in
theorem c_L_undo_x1 (l : Launch) (D : va_G) (tb : Nat → ClassId) (X : State → Prop) (z0 n : Nat) (bo oa : Nat) {M M' : me_M} {mc ms : Nat} {rm : Room} {fs : List Value} (hCE : ∀ U, X U → me_ce U) (hrc : rm.cells = mc) (hrs : rm.slots = ms) (hR : rm.frames ≤ 12 ∧ rm.locals ≤ 440) (he : M bo = some (.inr (7, fs))) (ct : vx_Met l yX7_undo (.code yX7_undo cX7_undo 1 (some .int) :: ws_all) rm (me_Pc [.ref bo] D tb X z0 M n) me_no (me_XC D z0 M' "java/lang/IllegalStateException") mc ms (me_A z0)) : Met l yL_undo (.codeWith yL_undo cL_undo 3 (some .int) [(0, 8, 11, 13)] :: ws_all) ({ frames := 13, cells := mc, slots := ms, locals := 480 } : Room) (me_Pc [.ref bo, .ref oa] D tb X z0 M n) (me_Qn D z0 1 M') mc ms (me_A z0) := by
  refine me_openH (by decide) (Nat.le_of_ble_eq_true rfl) ?_
  intro p e s m args below meth c ls hC ht hr hlk hM hl
  have hl : lv_has ls 3 [(0, .ref bo), (1, .ref oa)] := hl
  have hx := hC.1
  have hb := hC.2.1
  have hw := hC.2.2.2.2.1
  refine lv_aload_n hx hb dL_undo_0 rfl (lv_at hl 1 rfl) ?_
  refine lv_iconst (v := 0) hx hb dL_undo_1 (by decide) ?_
  refine lv_aload_n hx hb dL_undo_2 rfl (lv_at hl 0 rfl) ?_
  refine me_xcat (E0 := "java/lang/IllegalStateException") (pre := []) (x := ⟨0, 8, 11, 13⟩) (suf := []) (As := []) (rest := [.int 0, .ref oa]) hC hl.1 hM ct (kv_L_122 hw hrc hrs ⟨by show rm.frames + 1 ≤ 13; omega, by show 8 + (1 + 11) + rm.locals ≤ 480; omega⟩) rfl rfl he rfl (Nat.le_of_ble_eq_true rfl) dL_undo_3 ⟨by show 0 + mc ≤ mc; omega, by show 0 + ms ≤ ms; omega⟩ ht (fun z h => absurd h List.not_mem_nil) (by decide) (by decide) w_660 (va_Nw.use (by decide +kernel) (hCE s hC.2.2.2.2.2.1.2).1) (fun H locs n1 q hM => ?_)
  refine lv_astore_n (lv' := [(2, .ref q), (0, .ref bo), (1, .ref oa)]) hx hb dL_undo_11 rfl hl (by decide) rfl (fun ls hl => ?_)
  refine lv_iconst (v := 1) hx hb dL_undo_12 (by decide) ?_
  refine W.widen (k := mc) (n := ms) (by omega) (by omega) ?_
  exact me_nret hC hr hlk hM rfl rfl dL_undo_13
set_option maxHeartbeats 4000000 in
theorem c_L_save (l : Launch) (D : va_G) (tb : Nat → ClassId) (X : State → Prop) (z0 n : Nat) (bo oa : Nat) (p0 : Int32) {M M' : me_M} {mc ms : Nat} {rm : Room} {n' : Nat} {r : Int32} {f : Nat → Int64} {fs : List Value} (hrc : rm.cells = mc) (hrs : rm.slots = ms) (hR : rm.frames ≤ 12 ∧ rm.locals ≤ 440) (he : M bo = some (.inr (7, fs))) (ho : M' oa = some (.inl (tb 3, 1, .inr (.inl f)))) (ct : Met l yX7_save (.code yX7_save cX7_save 2 (some .int) :: ws_all) rm (me_Pc [.ref bo, .int p0] D tb X z0 M n) (me_Qi D z0 r M' n') mc ms (me_A z0)) : Met l yL_save (.codeWith yL_save cL_save 4 (some .int) [(0, 9, 12, 19)] :: ws_all) ({ frames := 13, cells := mc, slots := ms, locals := 480 } : Room) (me_Pc [.ref bo, .int p0, .ref oa] D tb X z0 M n) (me_Qn D z0 0 (me_up M' oa (.inl (tb 3, 1, .inr (.inl (vp_updL f 0 r.toInt64)))))) mc ms (me_A z0) := by
  refine me_openH (by decide) (Nat.le_of_ble_eq_true rfl) ?_
  intro p e s m args below meth c ls hC ht hr hlk hM hl
  have hl : lv_has ls 4 [(0, .ref bo), (1, .int p0), (2, .ref oa)] := hl
  have hx := hC.1
  have hb := hC.2.1
  have hw := hC.2.2.2.2.1
  refine lv_aload_n hx hb dL_save_0 rfl (lv_at hl 2 rfl) ?_
  refine lv_iconst (v := 0) hx hb dL_save_1 (by decide) ?_
  refine lv_aload_n hx hb dL_save_2 rfl (lv_at hl 0 rfl) ?_
  refine lv_iload_n hx hb dL_save_3 rfl (lv_at hl 1 rfl) ?_
  refine me_callVi (As := [.int p0]) (rest := [.int 0, .ref oa]) hC hl.1 hM ct (kv_L_126 hw hrc hrs ⟨by show rm.frames + 1 ≤ 13; omega, by show 8 + (2 + 11) + rm.locals ≤ 480; omega⟩) rfl rfl he rfl (Nat.le_of_ble_eq_true rfl) dL_save_4 ⟨by show 0 + mc ≤ mc; omega, by show 0 + ms ≤ ms; omega⟩ (fun H locs hM => ?_)
  refine lv_i2l hx hb dL_save_7 rfl ?_
  refine me_last (k := 0) (M2 := me_up M' oa (.inl (tb 3, 1, .inr (.inl (vp_updL f 0 r.toInt64))))) hC hM ho rfl (by decide) (by decide) rfl dL_save_8 (fun H locs hM => ?_)
  refine lv_goto (tgt := 15) hx hb dL_save_9 (by decide) ?_
  refine lv_iconst (v := 0) hx hb dL_save_15 (by decide) ?_
  refine W.widen (k := mc) (n := ms) (by omega) (by omega) ?_
  exact me_nret hC hr hlk hM rfl rfl dL_save_16
set_option maxHeartbeats 4000000 in
theorem c_L_save_x1 (l : Launch) (D : va_G) (tb : Nat → ClassId) (X : State → Prop) (z0 n : Nat) (bo oa : Nat) (p0 : Int32) {M M' : me_M} {mc ms : Nat} {rm : Room} {fs : List Value} (hCE : ∀ U, X U → me_ce U) (hrc : rm.cells = mc) (hrs : rm.slots = ms) (hR : rm.frames ≤ 12 ∧ rm.locals ≤ 440) (he : M bo = some (.inr (7, fs))) (ct : vx_Met l yX7_save (.code yX7_save cX7_save 2 (some .int) :: ws_all) rm (me_Pc [.ref bo, .int p0] D tb X z0 M n) me_no (me_XC D z0 M' "java/lang/IndexOutOfBoundsException") mc ms (me_A z0)) : Met l yL_save (.codeWith yL_save cL_save 4 (some .int) [(0, 9, 12, 19)] :: ws_all) ({ frames := 13, cells := mc, slots := ms, locals := 480 } : Room) (me_Pc [.ref bo, .int p0, .ref oa] D tb X z0 M n) (me_Qn D z0 1 M') mc ms (me_A z0) := by
  refine me_openH (by decide) (Nat.le_of_ble_eq_true rfl) ?_
  intro p e s m args below meth c ls hC ht hr hlk hM hl
  have hl : lv_has ls 4 [(0, .ref bo), (1, .int p0), (2, .ref oa)] := hl
  have hx := hC.1
  have hb := hC.2.1
  have hw := hC.2.2.2.2.1
  refine lv_aload_n hx hb dL_save_0 rfl (lv_at hl 2 rfl) ?_
  refine lv_iconst (v := 0) hx hb dL_save_1 (by decide) ?_
  refine lv_aload_n hx hb dL_save_2 rfl (lv_at hl 0 rfl) ?_
  refine lv_iload_n hx hb dL_save_3 rfl (lv_at hl 1 rfl) ?_
  refine me_xcat (E0 := "java/lang/IndexOutOfBoundsException") (pre := []) (x := ⟨0, 9, 12, 19⟩) (suf := []) (As := [.int p0]) (rest := [.int 0, .ref oa]) hC hl.1 hM ct (kv_L_126 hw hrc hrs ⟨by show rm.frames + 1 ≤ 13; omega, by show 8 + (2 + 11) + rm.locals ≤ 480; omega⟩) rfl rfl he rfl (Nat.le_of_ble_eq_true rfl) dL_save_4 ⟨by show 0 + mc ≤ mc; omega, by show 0 + ms ≤ ms; omega⟩ ht (fun z h => absurd h List.not_mem_nil) (by decide) (by decide) w_739 (va_Nw.use (by decide +kernel) (hCE s hC.2.2.2.2.2.1.2).2.1) (fun H locs n1 q hM => ?_)
  refine lv_astore_n (lv' := [(3, .ref q), (0, .ref bo), (1, .int p0), (2, .ref oa)]) hx hb dL_save_12 rfl hl (by decide) rfl (fun ls hl => ?_)
  refine lv_iconst (v := 1) hx hb dL_save_13 (by decide) ?_
  refine W.widen (k := mc) (n := ms) (by omega) (by omega) ?_
  exact me_nret hC hr hlk hM rfl rfl dL_save_14
set_option maxHeartbeats 4000000 in
theorem c_L_writeBorrower (l : Launch) (D : va_G) (tb : Nat → ClassId) (X : State → Prop) (z0 n : Nat) (bo oa : Nat) (p0 : Int32) {M M' : me_M} {mc ms : Nat} {rm : Room} {n' : Nat} {r : Int32} {f : Nat → Int64} {fs : List Value} (hrc : rm.cells = mc) (hrs : rm.slots = ms) (hR : rm.frames ≤ 12 ∧ rm.locals ≤ 440) (he : M bo = some (.inr (7, fs))) (ho : M' oa = some (.inl (tb 3, 1, .inr (.inl f)))) (ct : Met l yX7_writeBorrower (.code yX7_writeBorrower cX7_writeBorrower 5 (some .int) :: ws_all) rm (me_Pc [.ref bo, .int p0] D tb X z0 M n) (me_Qi D z0 r M' n') mc ms (me_A z0)) : Met l yL_writeBorrower (.codeWith yL_writeBorrower cL_writeBorrower 4 (some .int) [(0, 9, 12, 19)] :: ws_all) ({ frames := 13, cells := mc, slots := ms, locals := 480 } : Room) (me_Pc [.ref bo, .int p0, .ref oa] D tb X z0 M n) (me_Qn D z0 0 (me_up M' oa (.inl (tb 3, 1, .inr (.inl (vp_updL f 0 r.toInt64)))))) mc ms (me_A z0) := by
  refine me_openH (by decide) (Nat.le_of_ble_eq_true rfl) ?_
  intro p e s m args below meth c ls hC ht hr hlk hM hl
  have hl : lv_has ls 4 [(0, .ref bo), (1, .int p0), (2, .ref oa)] := hl
  have hx := hC.1
  have hb := hC.2.1
  have hw := hC.2.2.2.2.1
  refine lv_aload_n hx hb dL_writeBorrower_0 rfl (lv_at hl 2 rfl) ?_
  refine lv_iconst (v := 0) hx hb dL_writeBorrower_1 (by decide) ?_
  refine lv_aload_n hx hb dL_writeBorrower_2 rfl (lv_at hl 0 rfl) ?_
  refine lv_iload_n hx hb dL_writeBorrower_3 rfl (lv_at hl 1 rfl) ?_
  refine me_callVi (As := [.int p0]) (rest := [.int 0, .ref oa]) hC hl.1 hM ct (kv_L_129 hw hrc hrs ⟨by show rm.frames + 1 ≤ 13; omega, by show 8 + (5 + 11) + rm.locals ≤ 480; omega⟩) rfl rfl he rfl (Nat.le_of_ble_eq_true rfl) dL_writeBorrower_4 ⟨by show 0 + mc ≤ mc; omega, by show 0 + ms ≤ ms; omega⟩ (fun H locs hM => ?_)
  refine lv_i2l hx hb dL_writeBorrower_7 rfl ?_
  refine me_last (k := 0) (M2 := me_up M' oa (.inl (tb 3, 1, .inr (.inl (vp_updL f 0 r.toInt64))))) hC hM ho rfl (by decide) (by decide) rfl dL_writeBorrower_8 (fun H locs hM => ?_)
  refine lv_goto (tgt := 15) hx hb dL_writeBorrower_9 (by decide) ?_
  refine lv_iconst (v := 0) hx hb dL_writeBorrower_15 (by decide) ?_
  refine W.widen (k := mc) (n := ms) (by omega) (by omega) ?_
  exact me_nret hC hr hlk hM rfl rfl dL_writeBorrower_16
set_option maxHeartbeats 4000000 in
theorem c_L_writeBorrower_x1 (l : Launch) (D : va_G) (tb : Nat → ClassId) (X : State → Prop) (z0 n : Nat) (bo oa : Nat) (p0 : Int32) {M M' : me_M} {mc ms : Nat} {rm : Room} {fs : List Value} (hCE : ∀ U, X U → me_ce U) (hrc : rm.cells = mc) (hrs : rm.slots = ms) (hR : rm.frames ≤ 12 ∧ rm.locals ≤ 440) (he : M bo = some (.inr (7, fs))) (ct : vx_Met l yX7_writeBorrower (.code yX7_writeBorrower cX7_writeBorrower 5 (some .int) :: ws_all) rm (me_Pc [.ref bo, .int p0] D tb X z0 M n) me_no (me_XC D z0 M' "java/lang/IndexOutOfBoundsException") mc ms (me_A z0)) : Met l yL_writeBorrower (.codeWith yL_writeBorrower cL_writeBorrower 4 (some .int) [(0, 9, 12, 19)] :: ws_all) ({ frames := 13, cells := mc, slots := ms, locals := 480 } : Room) (me_Pc [.ref bo, .int p0, .ref oa] D tb X z0 M n) (me_Qn D z0 1 M') mc ms (me_A z0) := by
  refine me_openH (by decide) (Nat.le_of_ble_eq_true rfl) ?_
  intro p e s m args below meth c ls hC ht hr hlk hM hl
  have hl : lv_has ls 4 [(0, .ref bo), (1, .int p0), (2, .ref oa)] := hl
  have hx := hC.1
  have hb := hC.2.1
  have hw := hC.2.2.2.2.1
  refine lv_aload_n hx hb dL_writeBorrower_0 rfl (lv_at hl 2 rfl) ?_
  refine lv_iconst (v := 0) hx hb dL_writeBorrower_1 (by decide) ?_
  refine lv_aload_n hx hb dL_writeBorrower_2 rfl (lv_at hl 0 rfl) ?_
  refine lv_iload_n hx hb dL_writeBorrower_3 rfl (lv_at hl 1 rfl) ?_
  refine me_xcat (E0 := "java/lang/IndexOutOfBoundsException") (pre := []) (x := ⟨0, 9, 12, 19⟩) (suf := []) (As := [.int p0]) (rest := [.int 0, .ref oa]) hC hl.1 hM ct (kv_L_129 hw hrc hrs ⟨by show rm.frames + 1 ≤ 13; omega, by show 8 + (5 + 11) + rm.locals ≤ 480; omega⟩) rfl rfl he rfl (Nat.le_of_ble_eq_true rfl) dL_writeBorrower_4 ⟨by show 0 + mc ≤ mc; omega, by show 0 + ms ≤ ms; omega⟩ ht (fun z h => absurd h List.not_mem_nil) (by decide) (by decide) w_739 (va_Nw.use (by decide +kernel) (hCE s hC.2.2.2.2.2.1.2).2.1) (fun H locs n1 q hM => ?_)
  refine lv_astore_n (lv' := [(3, .ref q), (0, .ref bo), (1, .int p0), (2, .ref oa)]) hx hb dL_writeBorrower_12 rfl hl (by decide) rfl (fun ls hl => ?_)
  refine lv_iconst (v := 1) hx hb dL_writeBorrower_13 (by decide) ?_
  refine W.widen (k := mc) (n := ms) (by omega) (by omega) ?_
  exact me_nret hC hr hlk hM rfl rfl dL_writeBorrower_14
set_option maxHeartbeats 4000000 in
theorem c_L_outputByte (l : Launch) (D : va_G) (tb : Nat → ClassId) (X : State → Prop) (z0 n : Nat) (bo oa : Nat) (p0 : Int32) {M M' : me_M} {mc ms : Nat} {rm : Room} {n' : Nat} {r : Int32} {f : Nat → Int64} {fs : List Value} (hrc : rm.cells = mc) (hrs : rm.slots = ms) (hR : rm.frames ≤ 12 ∧ rm.locals ≤ 440) (he : M bo = some (.inr (7, fs))) (ho : M' oa = some (.inl (tb 3, 1, .inr (.inl f)))) (ct : Met l yX7_outputByte (.code yX7_outputByte cX7_outputByte 2 (some .int) :: ws_all) rm (me_Pc [.ref bo, .int p0] D tb X z0 M n) (me_Qi D z0 r M' n') mc ms (me_A z0)) : Met l yL_outputByte (.codeWith yL_outputByte cL_outputByte 4 (some .int) [(0, 9, 12, 19)] :: ws_all) ({ frames := 13, cells := mc, slots := ms, locals := 480 } : Room) (me_Pc [.ref bo, .int p0, .ref oa] D tb X z0 M n) (me_Qn D z0 0 (me_up M' oa (.inl (tb 3, 1, .inr (.inl (vp_updL f 0 r.toInt64)))))) mc ms (me_A z0) := by
  refine me_openH (by decide) (Nat.le_of_ble_eq_true rfl) ?_
  intro p e s m args below meth c ls hC ht hr hlk hM hl
  have hl : lv_has ls 4 [(0, .ref bo), (1, .int p0), (2, .ref oa)] := hl
  have hx := hC.1
  have hb := hC.2.1
  have hw := hC.2.2.2.2.1
  refine lv_aload_n hx hb dL_outputByte_0 rfl (lv_at hl 2 rfl) ?_
  refine lv_iconst (v := 0) hx hb dL_outputByte_1 (by decide) ?_
  refine lv_aload_n hx hb dL_outputByte_2 rfl (lv_at hl 0 rfl) ?_
  refine lv_iload_n hx hb dL_outputByte_3 rfl (lv_at hl 1 rfl) ?_
  refine me_callVi (As := [.int p0]) (rest := [.int 0, .ref oa]) hC hl.1 hM ct (kv_L_132 hw hrc hrs ⟨by show rm.frames + 1 ≤ 13; omega, by show 8 + (2 + 11) + rm.locals ≤ 480; omega⟩) rfl rfl he rfl (Nat.le_of_ble_eq_true rfl) dL_outputByte_4 ⟨by show 0 + mc ≤ mc; omega, by show 0 + ms ≤ ms; omega⟩ (fun H locs hM => ?_)
  refine lv_i2l hx hb dL_outputByte_7 rfl ?_
  refine me_last (k := 0) (M2 := me_up M' oa (.inl (tb 3, 1, .inr (.inl (vp_updL f 0 r.toInt64))))) hC hM ho rfl (by decide) (by decide) rfl dL_outputByte_8 (fun H locs hM => ?_)
  refine lv_goto (tgt := 15) hx hb dL_outputByte_9 (by decide) ?_
  refine lv_iconst (v := 0) hx hb dL_outputByte_15 (by decide) ?_
  refine W.widen (k := mc) (n := ms) (by omega) (by omega) ?_
  exact me_nret hC hr hlk hM rfl rfl dL_outputByte_16
set_option maxHeartbeats 4000000 in
theorem c_L_outputByte_x1 (l : Launch) (D : va_G) (tb : Nat → ClassId) (X : State → Prop) (z0 n : Nat) (bo oa : Nat) (p0 : Int32) {M M' : me_M} {mc ms : Nat} {rm : Room} {fs : List Value} (hCE : ∀ U, X U → me_ce U) (hrc : rm.cells = mc) (hrs : rm.slots = ms) (hR : rm.frames ≤ 12 ∧ rm.locals ≤ 440) (he : M bo = some (.inr (7, fs))) (ct : vx_Met l yX7_outputByte (.code yX7_outputByte cX7_outputByte 2 (some .int) :: ws_all) rm (me_Pc [.ref bo, .int p0] D tb X z0 M n) me_no (me_XC D z0 M' "java/lang/IndexOutOfBoundsException") mc ms (me_A z0)) : Met l yL_outputByte (.codeWith yL_outputByte cL_outputByte 4 (some .int) [(0, 9, 12, 19)] :: ws_all) ({ frames := 13, cells := mc, slots := ms, locals := 480 } : Room) (me_Pc [.ref bo, .int p0, .ref oa] D tb X z0 M n) (me_Qn D z0 1 M') mc ms (me_A z0) := by
  refine me_openH (by decide) (Nat.le_of_ble_eq_true rfl) ?_
  intro p e s m args below meth c ls hC ht hr hlk hM hl
  have hl : lv_has ls 4 [(0, .ref bo), (1, .int p0), (2, .ref oa)] := hl
  have hx := hC.1
  have hb := hC.2.1
  have hw := hC.2.2.2.2.1
  refine lv_aload_n hx hb dL_outputByte_0 rfl (lv_at hl 2 rfl) ?_
  refine lv_iconst (v := 0) hx hb dL_outputByte_1 (by decide) ?_
  refine lv_aload_n hx hb dL_outputByte_2 rfl (lv_at hl 0 rfl) ?_
  refine lv_iload_n hx hb dL_outputByte_3 rfl (lv_at hl 1 rfl) ?_
  refine me_xcat (E0 := "java/lang/IndexOutOfBoundsException") (pre := []) (x := ⟨0, 9, 12, 19⟩) (suf := []) (As := [.int p0]) (rest := [.int 0, .ref oa]) hC hl.1 hM ct (kv_L_132 hw hrc hrs ⟨by show rm.frames + 1 ≤ 13; omega, by show 8 + (2 + 11) + rm.locals ≤ 480; omega⟩) rfl rfl he rfl (Nat.le_of_ble_eq_true rfl) dL_outputByte_4 ⟨by show 0 + mc ≤ mc; omega, by show 0 + ms ≤ ms; omega⟩ ht (fun z h => absurd h List.not_mem_nil) (by decide) (by decide) w_739 (va_Nw.use (by decide +kernel) (hCE s hC.2.2.2.2.2.1.2).2.1) (fun H locs n1 q hM => ?_)
  refine lv_astore_n (lv' := [(3, .ref q), (0, .ref bo), (1, .int p0), (2, .ref oa)]) hx hb dL_outputByte_12 rfl hl (by decide) rfl (fun ls hl => ?_)
  refine lv_iconst (v := 1) hx hb dL_outputByte_13 (by decide) ?_
  refine W.widen (k := mc) (n := ms) (by omega) (by omega) ?_
  exact me_nret hC hr hlk hM rfl rfl dL_outputByte_14
