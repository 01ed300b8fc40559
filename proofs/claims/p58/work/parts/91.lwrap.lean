set_option maxHeartbeats 4000000 in
theorem c_L_undone (l : Launch) (D : va_G) (tb : Nat → ClassId) (X : State → Prop) (z0 n : Nat) (bo : Nat) {M M' : me_M} {mc ms : Nat} {rm : Room} {n' : Nat} {r : Int32} {fs : List Value} (hrc : rm.cells = mc) (hrs : rm.slots = ms) (hR : rm.frames ≤ 12 ∧ rm.locals ≤ 440) (he : M bo = some (.inr (7, fs))) (ct : Met l yX7_undo (.code yX7_undo cX7_undo 1 (some .int) :: ws_all) rm (me_Pc [.ref bo] D tb X z0 M n) (me_Qi D z0 r M' n') mc ms (me_A z0)) : Met l yL_undone (.codeWith yL_undone cL_undone 2 (some .int) [(0, 4, 5, 41)] :: ws_all) ({ frames := 13, cells := mc, slots := ms, locals := 480 } : Room) (me_Pc [.ref bo] D tb X z0 M n) (me_Qp D z0 (fun r1 M1 => r1 = r ∧ M1 = M')) mc ms (me_A z0) := by
  refine me_openH (by decide) (Nat.le_of_ble_eq_true rfl) ?_
  intro p e s m args below meth c ls hC ht hr hlk hM hl
  have hl : lv_has ls 2 [(0, .ref bo)] := hl
  have hx := hC.1
  have hb := hC.2.1
  have hw := hC.2.2.2.2.1
  refine lv_aload_n hx hb dL_undone_0 rfl (lv_at hl 0 rfl) ?_
  refine me_callVi (As := []) (rest := []) hC hl.1 hM ct (kv_L_38 hw hrc hrs ⟨by show rm.frames + 1 ≤ 13; omega, by show 8 + (1 + 11) + rm.locals ≤ 480; omega⟩) rfl rfl he rfl (Nat.le_of_ble_eq_true rfl) dL_undone_1 ⟨by show 0 + mc ≤ mc; omega, by show 0 + ms ≤ ms; omega⟩ (fun H locs hM => ?_)
  refine W.widen (k := mc) (n := ms) (by omega) (by omega) ?_
  exact me_pret hC hr hlk hM ⟨rfl, rfl⟩ rfl dL_undone_4
set_option maxHeartbeats 4000000 in
theorem c_L_undone_x1 (l : Launch) (D : va_G) (tb : Nat → ClassId) (X : State → Prop) (z0 n : Nat) (bo : Nat) {M M' : me_M} {mc ms : Nat} {rm : Room} {fs : List Value} (hCE : ∀ U, X U → me_ce U) (hrc : rm.cells = mc) (hrs : rm.slots = ms) (hR : rm.frames ≤ 12 ∧ rm.locals ≤ 440) (he : M bo = some (.inr (7, fs))) (ct : vx_Met l yX7_undo (.code yX7_undo cX7_undo 1 (some .int) :: ws_all) rm (me_Pc [.ref bo] D tb X z0 M n) me_no (me_XC D z0 M' "java/lang/IllegalStateException") mc ms (me_A z0)) : Met l yL_undone (.codeWith yL_undone cL_undone 2 (some .int) [(0, 4, 5, 41)] :: ws_all) ({ frames := 13, cells := mc, slots := ms, locals := 480 } : Room) (me_Pc [.ref bo] D tb X z0 M n) (me_Qp D z0 (fun r1 M1 => r1 = (-1) ∧ M1 = M')) mc ms (me_A z0) := by
  refine me_openH (by decide) (Nat.le_of_ble_eq_true rfl) ?_
  intro p e s m args below meth c ls hC ht hr hlk hM hl
  have hl : lv_has ls 2 [(0, .ref bo)] := hl
  have hx := hC.1
  have hb := hC.2.1
  have hw := hC.2.2.2.2.1
  refine lv_aload_n hx hb dL_undone_0 rfl (lv_at hl 0 rfl) ?_
  refine me_xcat (E0 := "java/lang/IllegalStateException") (pre := []) (x := ⟨0, 4, 5, 41⟩) (suf := []) (As := []) (rest := []) hC hl.1 hM ct (kv_L_38 hw hrc hrs ⟨by show rm.frames + 1 ≤ 13; omega, by show 8 + (1 + 11) + rm.locals ≤ 480; omega⟩) rfl rfl he rfl (Nat.le_of_ble_eq_true rfl) dL_undone_1 ⟨by show 0 + mc ≤ mc; omega, by show 0 + ms ≤ ms; omega⟩ ht (fun z h => absurd h List.not_mem_nil) (by decide) (by decide) w_746 (va_Nw.use (by decide +kernel) (hCE s hC.2.2.2.2.2.1.2).1) (fun H locs n1 q hM => ?_)
  refine lv_astore_n (lv' := [(1, .ref q), (0, .ref bo)]) hx hb dL_undone_5 rfl hl (by decide) rfl (fun ls hl => ?_)
  refine lv_iconst (v := (-1)) hx hb dL_undone_6 (by decide) ?_
  refine W.widen (k := mc) (n := ms) (by omega) (by omega) ?_
  exact me_pret hC hr hlk hM ⟨rfl, rfl⟩ rfl dL_undone_7
set_option maxHeartbeats 4000000 in
theorem c_L_lent (l : Launch) (D : va_G) (tb : Nat → ClassId) (X : State → Prop) (z0 n : Nat) (bo : Nat) (p0 p1 p2 : Int32) {M M' : me_M} {mc ms : Nat} {rm : Room} {n' : Nat} {r : Int32} {fs : List Value} (hrc : rm.cells = mc) (hrs : rm.slots = ms) (hR : rm.frames ≤ 12 ∧ rm.locals ≤ 440) (he : M bo = some (.inr (7, fs))) (ct : Met l yX7_lend (.code yX7_lend cX7_lend 4 (some .int) :: ws_all) rm (me_Pc [.ref bo, .int p0, .int p1, .int p2] D tb X z0 M n) (me_Qi D z0 r M' n') mc ms (me_A z0)) : Met l yL_lent (.codeWith yL_lent cL_lent 5 (some .int) [(0, 7, 8, 34), (0, 7, 13, 36), (0, 7, 18, 41)] :: ws_all) ({ frames := 13, cells := mc, slots := ms, locals := 480 } : Room) (me_Pc [.ref bo, .int p0, .int p1, .int p2] D tb X z0 M n) (me_Qp D z0 (fun r1 M1 => r1 = r ∧ M1 = M')) mc ms (me_A z0) := by
  refine me_openH (by decide) (Nat.le_of_ble_eq_true rfl) ?_
  intro p e s m args below meth c ls hC ht hr hlk hM hl
  have hl : lv_has ls 5 [(0, .ref bo), (1, .int p0), (2, .int p1), (3, .int p2)] := hl
  have hx := hC.1
  have hb := hC.2.1
  have hw := hC.2.2.2.2.1
  refine lv_aload_n hx hb dL_lent_0 rfl (lv_at hl 0 rfl) ?_
  refine lv_iload_n hx hb dL_lent_1 rfl (lv_at hl 1 rfl) ?_
  refine lv_iload_n hx hb dL_lent_2 rfl (lv_at hl 2 rfl) ?_
  refine lv_iload_n hx hb dL_lent_3 rfl (lv_at hl 3 rfl) ?_
  refine me_callVi (As := [.int p0, .int p1, .int p2]) (rest := []) hC hl.1 hM ct (kv_L_43 hw hrc hrs ⟨by show rm.frames + 1 ≤ 13; omega, by show 8 + (4 + 11) + rm.locals ≤ 480; omega⟩) rfl rfl he rfl (Nat.le_of_ble_eq_true rfl) dL_lent_4 ⟨by show 0 + mc ≤ mc; omega, by show 0 + ms ≤ ms; omega⟩ (fun H locs hM => ?_)
  refine W.widen (k := mc) (n := ms) (by omega) (by omega) ?_
  exact me_pret hC hr hlk hM ⟨rfl, rfl⟩ rfl dL_lent_7
set_option maxHeartbeats 4000000 in
theorem c_L_lent_x1 (l : Launch) (D : va_G) (tb : Nat → ClassId) (X : State → Prop) (z0 n : Nat) (bo : Nat) (p0 p1 p2 : Int32) {M M' : me_M} {mc ms : Nat} {rm : Room} {fs : List Value} (hCE : ∀ U, X U → me_ce U) (hrc : rm.cells = mc) (hrs : rm.slots = ms) (hR : rm.frames ≤ 12 ∧ rm.locals ≤ 440) (he : M bo = some (.inr (7, fs))) (ct : vx_Met l yX7_lend (.code yX7_lend cX7_lend 4 (some .int) :: ws_all) rm (me_Pc [.ref bo, .int p0, .int p1, .int p2] D tb X z0 M n) me_no (me_XC D z0 M' "java/lang/IndexOutOfBoundsException") mc ms (me_A z0)) : Met l yL_lent (.codeWith yL_lent cL_lent 5 (some .int) [(0, 7, 8, 34), (0, 7, 13, 36), (0, 7, 18, 41)] :: ws_all) ({ frames := 13, cells := mc, slots := ms, locals := 480 } : Room) (me_Pc [.ref bo, .int p0, .int p1, .int p2] D tb X z0 M n) (me_Qp D z0 (fun r1 M1 => r1 = (-5) ∧ M1 = M')) mc ms (me_A z0) := by
  refine me_openH (by decide) (Nat.le_of_ble_eq_true rfl) ?_
  intro p e s m args below meth c ls hC ht hr hlk hM hl
  have hl : lv_has ls 5 [(0, .ref bo), (1, .int p0), (2, .int p1), (3, .int p2)] := hl
  have hx := hC.1
  have hb := hC.2.1
  have hw := hC.2.2.2.2.1
  refine lv_aload_n hx hb dL_lent_0 rfl (lv_at hl 0 rfl) ?_
  refine lv_iload_n hx hb dL_lent_1 rfl (lv_at hl 1 rfl) ?_
  refine lv_iload_n hx hb dL_lent_2 rfl (lv_at hl 2 rfl) ?_
  refine lv_iload_n hx hb dL_lent_3 rfl (lv_at hl 3 rfl) ?_
  refine me_xcat (E0 := "java/lang/IndexOutOfBoundsException") (pre := []) (x := ⟨0, 7, 8, 34⟩) (suf := [⟨0, 7, 13, 36⟩, ⟨0, 7, 18, 41⟩]) (As := [.int p0, .int p1, .int p2]) (rest := []) hC hl.1 hM ct (kv_L_43 hw hrc hrs ⟨by show rm.frames + 1 ≤ 13; omega, by show 8 + (4 + 11) + rm.locals ≤ 480; omega⟩) rfl rfl he rfl (Nat.le_of_ble_eq_true rfl) dL_lent_4 ⟨by show 0 + mc ≤ mc; omega, by show 0 + ms ≤ ms; omega⟩ ht (fun z h => absurd h List.not_mem_nil) (by decide) (by decide) w_697 (va_Nw.use (by decide +kernel) (hCE s hC.2.2.2.2.2.1.2).2.1) (fun H locs n1 q hM => ?_)
  refine lv_astore (lv' := [(4, .ref q), (0, .ref bo), (1, .int p0), (2, .int p1), (3, .int p2)]) hx hb dL_lent_8 hl (by decide) rfl (fun ls hl => ?_)
  refine lv_bipush (v := (-5)) hx hb dL_lent_10 (by decide) ?_
  refine W.widen (k := mc) (n := ms) (by omega) (by omega) ?_
  exact me_pret hC hr hlk hM ⟨rfl, rfl⟩ rfl dL_lent_12
set_option maxHeartbeats 4000000 in
theorem c_L_lent_x2 (l : Launch) (D : va_G) (tb : Nat → ClassId) (X : State → Prop) (z0 n : Nat) (bo : Nat) (p0 p1 p2 : Int32) {M M' : me_M} {mc ms : Nat} {rm : Room} {fs : List Value} (hCE : ∀ U, X U → me_ce U) (hrc : rm.cells = mc) (hrs : rm.slots = ms) (hR : rm.frames ≤ 12 ∧ rm.locals ≤ 440) (he : M bo = some (.inr (7, fs))) (ct : vx_Met l yX7_lend (.code yX7_lend cX7_lend 4 (some .int) :: ws_all) rm (me_Pc [.ref bo, .int p0, .int p1, .int p2] D tb X z0 M n) me_no (me_XC D z0 M' "java/lang/IllegalArgumentException") mc ms (me_A z0)) : Met l yL_lent (.codeWith yL_lent cL_lent 5 (some .int) [(0, 7, 8, 34), (0, 7, 13, 36), (0, 7, 18, 41)] :: ws_all) ({ frames := 13, cells := mc, slots := ms, locals := 480 } : Room) (me_Pc [.ref bo, .int p0, .int p1, .int p2] D tb X z0 M n) (me_Qp D z0 (fun r1 M1 => r1 = (-2) ∧ M1 = M')) mc ms (me_A z0) := by
  refine me_openH (by decide) (Nat.le_of_ble_eq_true rfl) ?_
  intro p e s m args below meth c ls hC ht hr hlk hM hl
  have hl : lv_has ls 5 [(0, .ref bo), (1, .int p0), (2, .int p1), (3, .int p2)] := hl
  have hx := hC.1
  have hb := hC.2.1
  have hw := hC.2.2.2.2.1
  refine lv_aload_n hx hb dL_lent_0 rfl (lv_at hl 0 rfl) ?_
  refine lv_iload_n hx hb dL_lent_1 rfl (lv_at hl 1 rfl) ?_
  refine lv_iload_n hx hb dL_lent_2 rfl (lv_at hl 2 rfl) ?_
  refine lv_iload_n hx hb dL_lent_3 rfl (lv_at hl 3 rfl) ?_
  refine me_xcat (E0 := "java/lang/IllegalArgumentException") (pre := [⟨0, 7, 8, 34⟩]) (x := ⟨0, 7, 13, 36⟩) (suf := [⟨0, 7, 18, 41⟩]) (As := [.int p0, .int p1, .int p2]) (rest := []) hC hl.1 hM ct (kv_L_43 hw hrc hrs ⟨by show rm.frames + 1 ≤ 13; omega, by show 8 + (4 + 11) + rm.locals ≤ 480; omega⟩) rfl rfl he rfl (Nat.le_of_ble_eq_true rfl) dL_lent_4 ⟨by show 0 + mc ≤ mc; omega, by show 0 + ms ≤ ms; omega⟩ ht (fun z h => by
    simp only [List.mem_cons, List.not_mem_nil, or_false] at h
    subst h
    exact Or.inr ⟨by decide, "java/lang/IndexOutOfBoundsException", hw _ w_697, (hCE s hC.2.2.2.2.2.1.2).2.2.2.1⟩) (by decide) (by decide) w_698 (va_Nw.use (by decide +kernel) (hCE s hC.2.2.2.2.2.1.2).2.2.1) (fun H locs n1 q hM => ?_)
  refine lv_astore (lv' := [(4, .ref q), (0, .ref bo), (1, .int p0), (2, .int p1), (3, .int p2)]) hx hb dL_lent_13 hl (by decide) rfl (fun ls hl => ?_)
  refine lv_bipush (v := (-2)) hx hb dL_lent_15 (by decide) ?_
  refine W.widen (k := mc) (n := ms) (by omega) (by omega) ?_
  exact me_pret hC hr hlk hM ⟨rfl, rfl⟩ rfl dL_lent_17
set_option maxHeartbeats 4000000 in
theorem c_L_lent_x3 (l : Launch) (D : va_G) (tb : Nat → ClassId) (X : State → Prop) (z0 n : Nat) (bo : Nat) (p0 p1 p2 : Int32) {M M' : me_M} {mc ms : Nat} {rm : Room} {fs : List Value} (hCE : ∀ U, X U → me_ce U) (hrc : rm.cells = mc) (hrs : rm.slots = ms) (hR : rm.frames ≤ 12 ∧ rm.locals ≤ 440) (he : M bo = some (.inr (7, fs))) (ct : vx_Met l yX7_lend (.code yX7_lend cX7_lend 4 (some .int) :: ws_all) rm (me_Pc [.ref bo, .int p0, .int p1, .int p2] D tb X z0 M n) me_no (me_XC D z0 M' "java/lang/IllegalStateException") mc ms (me_A z0)) : Met l yL_lent (.codeWith yL_lent cL_lent 5 (some .int) [(0, 7, 8, 34), (0, 7, 13, 36), (0, 7, 18, 41)] :: ws_all) ({ frames := 13, cells := mc, slots := ms, locals := 480 } : Room) (me_Pc [.ref bo, .int p0, .int p1, .int p2] D tb X z0 M n) (me_Qp D z0 (fun r1 M1 => r1 = (-3) ∧ M1 = M')) mc ms (me_A z0) := by
  refine me_openH (by decide) (Nat.le_of_ble_eq_true rfl) ?_
  intro p e s m args below meth c ls hC ht hr hlk hM hl
  have hl : lv_has ls 5 [(0, .ref bo), (1, .int p0), (2, .int p1), (3, .int p2)] := hl
  have hx := hC.1
  have hb := hC.2.1
  have hw := hC.2.2.2.2.1
  refine lv_aload_n hx hb dL_lent_0 rfl (lv_at hl 0 rfl) ?_
  refine lv_iload_n hx hb dL_lent_1 rfl (lv_at hl 1 rfl) ?_
  refine lv_iload_n hx hb dL_lent_2 rfl (lv_at hl 2 rfl) ?_
  refine lv_iload_n hx hb dL_lent_3 rfl (lv_at hl 3 rfl) ?_
  refine me_xcat (E0 := "java/lang/IllegalStateException") (pre := [⟨0, 7, 8, 34⟩, ⟨0, 7, 13, 36⟩]) (x := ⟨0, 7, 18, 41⟩) (suf := []) (As := [.int p0, .int p1, .int p2]) (rest := []) hC hl.1 hM ct (kv_L_43 hw hrc hrs ⟨by show rm.frames + 1 ≤ 13; omega, by show 8 + (4 + 11) + rm.locals ≤ 480; omega⟩) rfl rfl he rfl (Nat.le_of_ble_eq_true rfl) dL_lent_4 ⟨by show 0 + mc ≤ mc; omega, by show 0 + ms ≤ ms; omega⟩ ht (fun z h => by
    simp only [List.mem_cons, List.not_mem_nil, or_false] at h
    rcases h with rfl | rfl
    · exact Or.inr ⟨by decide, "java/lang/IndexOutOfBoundsException", hw _ w_697, (hCE s hC.2.2.2.2.2.1.2).2.2.2.2.1⟩
    · exact Or.inr ⟨by decide, "java/lang/IllegalArgumentException", hw _ w_698, (hCE s hC.2.2.2.2.2.1.2).2.2.2.2.2⟩) (by decide) (by decide) w_746 (va_Nw.use (by decide +kernel) (hCE s hC.2.2.2.2.2.1.2).1) (fun H locs n1 q hM => ?_)
  refine lv_astore (lv' := [(4, .ref q), (0, .ref bo), (1, .int p0), (2, .int p1), (3, .int p2)]) hx hb dL_lent_18 hl (by decide) rfl (fun ls hl => ?_)
  refine lv_bipush (v := (-3)) hx hb dL_lent_20 (by decide) ?_
  refine W.widen (k := mc) (n := ms) (by omega) (by omega) ?_
  exact me_pret hC hr hlk hM ⟨rfl, rfl⟩ rfl dL_lent_22
set_option maxHeartbeats 4000000 in
theorem c_L_cancelled (l : Launch) (D : va_G) (tb : Nat → ClassId) (X : State → Prop) (z0 n : Nat) (bo : Nat) (p0 : Int32) {M M' : me_M} {mc ms : Nat} {rm : Room} {n' : Nat} {r : Int32} {fs : List Value} (hrc : rm.cells = mc) (hrs : rm.slots = ms) (hR : rm.frames ≤ 12 ∧ rm.locals ≤ 440) (he : M bo = some (.inr (7, fs))) (ct : Met l yX7_cancel (.code yX7_cancel cX7_cancel 2 (some .int) :: ws_all) rm (me_Pc [.ref bo, .int p0] D tb X z0 M n) (me_Qi D z0 r M' n') mc ms (me_A z0)) : Met l yL_cancelled (.codeWith yL_cancelled cL_cancelled 3 (some .int) [(0, 5, 6, 34), (0, 5, 10, 41)] :: ws_all) ({ frames := 13, cells := mc, slots := ms, locals := 480 } : Room) (me_Pc [.ref bo, .int p0] D tb X z0 M n) (me_Qp D z0 (fun r1 M1 => r1 = r ∧ M1 = M')) mc ms (me_A z0) := by
  refine me_openH (by decide) (Nat.le_of_ble_eq_true rfl) ?_
  intro p e s m args below meth c ls hC ht hr hlk hM hl
  have hl : lv_has ls 3 [(0, .ref bo), (1, .int p0)] := hl
  have hx := hC.1
  have hb := hC.2.1
  have hw := hC.2.2.2.2.1
  refine lv_aload_n hx hb dL_cancelled_0 rfl (lv_at hl 0 rfl) ?_
  refine lv_iload_n hx hb dL_cancelled_1 rfl (lv_at hl 1 rfl) ?_
  refine me_callVi (As := [.int p0]) (rest := []) hC hl.1 hM ct (kv_L_47 hw hrc hrs ⟨by show rm.frames + 1 ≤ 13; omega, by show 8 + (2 + 11) + rm.locals ≤ 480; omega⟩) rfl rfl he rfl (Nat.le_of_ble_eq_true rfl) dL_cancelled_2 ⟨by show 0 + mc ≤ mc; omega, by show 0 + ms ≤ ms; omega⟩ (fun H locs hM => ?_)
  refine W.widen (k := mc) (n := ms) (by omega) (by omega) ?_
  exact me_pret hC hr hlk hM ⟨rfl, rfl⟩ rfl dL_cancelled_5
set_option maxHeartbeats 4000000 in
theorem c_L_cancelled_x1 (l : Launch) (D : va_G) (tb : Nat → ClassId) (X : State → Prop) (z0 n : Nat) (bo : Nat) (p0 : Int32) {M M' : me_M} {mc ms : Nat} {rm : Room} {fs : List Value} (hCE : ∀ U, X U → me_ce U) (hrc : rm.cells = mc) (hrs : rm.slots = ms) (hR : rm.frames ≤ 12 ∧ rm.locals ≤ 440) (he : M bo = some (.inr (7, fs))) (ct : vx_Met l yX7_cancel (.code yX7_cancel cX7_cancel 2 (some .int) :: ws_all) rm (me_Pc [.ref bo, .int p0] D tb X z0 M n) me_no (me_XC D z0 M' "java/lang/IndexOutOfBoundsException") mc ms (me_A z0)) : Met l yL_cancelled (.codeWith yL_cancelled cL_cancelled 3 (some .int) [(0, 5, 6, 34), (0, 5, 10, 41)] :: ws_all) ({ frames := 13, cells := mc, slots := ms, locals := 480 } : Room) (me_Pc [.ref bo, .int p0] D tb X z0 M n) (me_Qp D z0 (fun r1 M1 => r1 = (-99995) ∧ M1 = M')) mc ms (me_A z0) := by
  refine me_openH (by decide) (Nat.le_of_ble_eq_true rfl) ?_
  intro p e s m args below meth c ls hC ht hr hlk hM hl
  have hl : lv_has ls 3 [(0, .ref bo), (1, .int p0)] := hl
  have hx := hC.1
  have hb := hC.2.1
  have hw := hC.2.2.2.2.1
  refine lv_aload_n hx hb dL_cancelled_0 rfl (lv_at hl 0 rfl) ?_
  refine lv_iload_n hx hb dL_cancelled_1 rfl (lv_at hl 1 rfl) ?_
  refine me_xcat (E0 := "java/lang/IndexOutOfBoundsException") (pre := []) (x := ⟨0, 5, 6, 34⟩) (suf := [⟨0, 5, 10, 41⟩]) (As := [.int p0]) (rest := []) hC hl.1 hM ct (kv_L_47 hw hrc hrs ⟨by show rm.frames + 1 ≤ 13; omega, by show 8 + (2 + 11) + rm.locals ≤ 480; omega⟩) rfl rfl he rfl (Nat.le_of_ble_eq_true rfl) dL_cancelled_2 ⟨by show 0 + mc ≤ mc; omega, by show 0 + ms ≤ ms; omega⟩ ht (fun z h => absurd h List.not_mem_nil) (by decide) (by decide) w_697 (va_Nw.use (by decide +kernel) (hCE s hC.2.2.2.2.2.1.2).2.1) (fun H locs n1 q hM => ?_)
  refine lv_astore_n (lv' := [(2, .ref q), (0, .ref bo), (1, .int p0)]) hx hb dL_cancelled_6 rfl hl (by decide) rfl (fun ls hl => ?_)
  refine lv_ldc (v := (-99995)) hx hb hC.2.2.2.1 (hw _ w_793) dL_cancelled_7 ?_
  refine W.widen (k := mc) (n := ms) (by omega) (by omega) ?_
  exact me_pret hC hr hlk hM ⟨rfl, rfl⟩ rfl dL_cancelled_9
set_option maxHeartbeats 4000000 in
theorem c_L_cancelled_x2 (l : Launch) (D : va_G) (tb : Nat → ClassId) (X : State → Prop) (z0 n : Nat) (bo : Nat) (p0 : Int32) {M M' : me_M} {mc ms : Nat} {rm : Room} {fs : List Value} (hCE : ∀ U, X U → me_ce U) (hrc : rm.cells = mc) (hrs : rm.slots = ms) (hR : rm.frames ≤ 12 ∧ rm.locals ≤ 440) (he : M bo = some (.inr (7, fs))) (ct : vx_Met l yX7_cancel (.code yX7_cancel cX7_cancel 2 (some .int) :: ws_all) rm (me_Pc [.ref bo, .int p0] D tb X z0 M n) me_no (me_XC D z0 M' "java/lang/IllegalStateException") mc ms (me_A z0)) : Met l yL_cancelled (.codeWith yL_cancelled cL_cancelled 3 (some .int) [(0, 5, 6, 34), (0, 5, 10, 41)] :: ws_all) ({ frames := 13, cells := mc, slots := ms, locals := 480 } : Room) (me_Pc [.ref bo, .int p0] D tb X z0 M n) (me_Qp D z0 (fun r1 M1 => r1 = (-99993) ∧ M1 = M')) mc ms (me_A z0) := by
  refine me_openH (by decide) (Nat.le_of_ble_eq_true rfl) ?_
  intro p e s m args below meth c ls hC ht hr hlk hM hl
  have hl : lv_has ls 3 [(0, .ref bo), (1, .int p0)] := hl
  have hx := hC.1
  have hb := hC.2.1
  have hw := hC.2.2.2.2.1
  refine lv_aload_n hx hb dL_cancelled_0 rfl (lv_at hl 0 rfl) ?_
  refine lv_iload_n hx hb dL_cancelled_1 rfl (lv_at hl 1 rfl) ?_
  refine me_xcat (E0 := "java/lang/IllegalStateException") (pre := [⟨0, 5, 6, 34⟩]) (x := ⟨0, 5, 10, 41⟩) (suf := []) (As := [.int p0]) (rest := []) hC hl.1 hM ct (kv_L_47 hw hrc hrs ⟨by show rm.frames + 1 ≤ 13; omega, by show 8 + (2 + 11) + rm.locals ≤ 480; omega⟩) rfl rfl he rfl (Nat.le_of_ble_eq_true rfl) dL_cancelled_2 ⟨by show 0 + mc ≤ mc; omega, by show 0 + ms ≤ ms; omega⟩ ht (fun z h => by
    simp only [List.mem_cons, List.not_mem_nil, or_false] at h
    subst h
    exact Or.inr ⟨by decide, "java/lang/IndexOutOfBoundsException", hw _ w_697, (hCE s hC.2.2.2.2.2.1.2).2.2.2.2.1⟩) (by decide) (by decide) w_746 (va_Nw.use (by decide +kernel) (hCE s hC.2.2.2.2.2.1.2).1) (fun H locs n1 q hM => ?_)
  refine lv_astore_n (lv' := [(2, .ref q), (0, .ref bo), (1, .int p0)]) hx hb dL_cancelled_10 rfl hl (by decide) rfl (fun ls hl => ?_)
  refine lv_ldc (v := (-99993)) hx hb hC.2.2.2.1 (hw _ w_794) dL_cancelled_11 ?_
  refine W.widen (k := mc) (n := ms) (by omega) (by omega) ?_
  exact me_pret hC hr hlk hM ⟨rfl, rfl⟩ rfl dL_cancelled_13
set_option maxHeartbeats 4000000 in
theorem c_L_whistled (l : Launch) (D : va_G) (tb : Nat → ClassId) (X : State → Prop) (z0 n : Nat) (bo : Nat) (p0 : Int32) {M M' : me_M} {mc ms : Nat} {rm : Room} {n' : Nat} {r : Int32} {fs : List Value} (hrc : rm.cells = mc) (hrs : rm.slots = ms) (hR : rm.frames ≤ 12 ∧ rm.locals ≤ 440) (he : M bo = some (.inr (7, fs))) (ct : Met l yX7_whistle (.code yX7_whistle cX7_whistle 2 (some .int) :: ws_all) rm (me_Pc [.ref bo, .int p0] D tb X z0 M n) (me_Qi D z0 r M' n') mc ms (me_A z0)) : Met l yL_whistled (.codeWith yL_whistled cL_whistled 3 (some .int) [(0, 5, 6, 34), (0, 5, 10, 41)] :: ws_all) ({ frames := 13, cells := mc, slots := ms, locals := 480 } : Room) (me_Pc [.ref bo, .int p0] D tb X z0 M n) (me_Qp D z0 (fun r1 M1 => r1 = r ∧ M1 = M')) mc ms (me_A z0) := by
  refine me_openH (by decide) (Nat.le_of_ble_eq_true rfl) ?_
  intro p e s m args below meth c ls hC ht hr hlk hM hl
  have hl : lv_has ls 3 [(0, .ref bo), (1, .int p0)] := hl
  have hx := hC.1
  have hb := hC.2.1
  have hw := hC.2.2.2.2.1
  refine lv_aload_n hx hb dL_whistled_0 rfl (lv_at hl 0 rfl) ?_
  refine lv_iload_n hx hb dL_whistled_1 rfl (lv_at hl 1 rfl) ?_
  refine me_callVi (As := [.int p0]) (rest := []) hC hl.1 hM ct (kv_L_52 hw hrc hrs ⟨by show rm.frames + 1 ≤ 13; omega, by show 8 + (2 + 11) + rm.locals ≤ 480; omega⟩) rfl rfl he rfl (Nat.le_of_ble_eq_true rfl) dL_whistled_2 ⟨by show 0 + mc ≤ mc; omega, by show 0 + ms ≤ ms; omega⟩ (fun H locs hM => ?_)
  refine W.widen (k := mc) (n := ms) (by omega) (by omega) ?_
  exact me_pret hC hr hlk hM ⟨rfl, rfl⟩ rfl dL_whistled_5
set_option maxHeartbeats 4000000 in
theorem c_L_whistled_x1 (l : Launch) (D : va_G) (tb : Nat → ClassId) (X : State → Prop) (z0 n : Nat) (bo : Nat) (p0 : Int32) {M M' : me_M} {mc ms : Nat} {rm : Room} {fs : List Value} (hCE : ∀ U, X U → me_ce U) (hrc : rm.cells = mc) (hrs : rm.slots = ms) (hR : rm.frames ≤ 12 ∧ rm.locals ≤ 440) (he : M bo = some (.inr (7, fs))) (ct : vx_Met l yX7_whistle (.code yX7_whistle cX7_whistle 2 (some .int) :: ws_all) rm (me_Pc [.ref bo, .int p0] D tb X z0 M n) me_no (me_XC D z0 M' "java/lang/IndexOutOfBoundsException") mc ms (me_A z0)) : Met l yL_whistled (.codeWith yL_whistled cL_whistled 3 (some .int) [(0, 5, 6, 34), (0, 5, 10, 41)] :: ws_all) ({ frames := 13, cells := mc, slots := ms, locals := 480 } : Room) (me_Pc [.ref bo, .int p0] D tb X z0 M n) (me_Qp D z0 (fun r1 M1 => r1 = (-5) ∧ M1 = M')) mc ms (me_A z0) := by
  refine me_openH (by decide) (Nat.le_of_ble_eq_true rfl) ?_
  intro p e s m args below meth c ls hC ht hr hlk hM hl
  have hl : lv_has ls 3 [(0, .ref bo), (1, .int p0)] := hl
  have hx := hC.1
  have hb := hC.2.1
  have hw := hC.2.2.2.2.1
  refine lv_aload_n hx hb dL_whistled_0 rfl (lv_at hl 0 rfl) ?_
  refine lv_iload_n hx hb dL_whistled_1 rfl (lv_at hl 1 rfl) ?_
  refine me_xcat (E0 := "java/lang/IndexOutOfBoundsException") (pre := []) (x := ⟨0, 5, 6, 34⟩) (suf := [⟨0, 5, 10, 41⟩]) (As := [.int p0]) (rest := []) hC hl.1 hM ct (kv_L_52 hw hrc hrs ⟨by show rm.frames + 1 ≤ 13; omega, by show 8 + (2 + 11) + rm.locals ≤ 480; omega⟩) rfl rfl he rfl (Nat.le_of_ble_eq_true rfl) dL_whistled_2 ⟨by show 0 + mc ≤ mc; omega, by show 0 + ms ≤ ms; omega⟩ ht (fun z h => absurd h List.not_mem_nil) (by decide) (by decide) w_697 (va_Nw.use (by decide +kernel) (hCE s hC.2.2.2.2.2.1.2).2.1) (fun H locs n1 q hM => ?_)
  refine lv_astore_n (lv' := [(2, .ref q), (0, .ref bo), (1, .int p0)]) hx hb dL_whistled_6 rfl hl (by decide) rfl (fun ls hl => ?_)
  refine lv_bipush (v := (-5)) hx hb dL_whistled_7 (by decide) ?_
  refine W.widen (k := mc) (n := ms) (by omega) (by omega) ?_
  exact me_pret hC hr hlk hM ⟨rfl, rfl⟩ rfl dL_whistled_9
set_option maxHeartbeats 4000000 in
theorem c_L_whistled_x2 (l : Launch) (D : va_G) (tb : Nat → ClassId) (X : State → Prop) (z0 n : Nat) (bo : Nat) (p0 : Int32) {M M' : me_M} {mc ms : Nat} {rm : Room} {fs : List Value} (hCE : ∀ U, X U → me_ce U) (hrc : rm.cells = mc) (hrs : rm.slots = ms) (hR : rm.frames ≤ 12 ∧ rm.locals ≤ 440) (he : M bo = some (.inr (7, fs))) (ct : vx_Met l yX7_whistle (.code yX7_whistle cX7_whistle 2 (some .int) :: ws_all) rm (me_Pc [.ref bo, .int p0] D tb X z0 M n) me_no (me_XC D z0 M' "java/lang/IllegalStateException") mc ms (me_A z0)) : Met l yL_whistled (.codeWith yL_whistled cL_whistled 3 (some .int) [(0, 5, 6, 34), (0, 5, 10, 41)] :: ws_all) ({ frames := 13, cells := mc, slots := ms, locals := 480 } : Room) (me_Pc [.ref bo, .int p0] D tb X z0 M n) (me_Qp D z0 (fun r1 M1 => r1 = (-3) ∧ M1 = M')) mc ms (me_A z0) := by
  refine me_openH (by decide) (Nat.le_of_ble_eq_true rfl) ?_
  intro p e s m args below meth c ls hC ht hr hlk hM hl
  have hl : lv_has ls 3 [(0, .ref bo), (1, .int p0)] := hl
  have hx := hC.1
  have hb := hC.2.1
  have hw := hC.2.2.2.2.1
  refine lv_aload_n hx hb dL_whistled_0 rfl (lv_at hl 0 rfl) ?_
  refine lv_iload_n hx hb dL_whistled_1 rfl (lv_at hl 1 rfl) ?_
  refine me_xcat (E0 := "java/lang/IllegalStateException") (pre := [⟨0, 5, 6, 34⟩]) (x := ⟨0, 5, 10, 41⟩) (suf := []) (As := [.int p0]) (rest := []) hC hl.1 hM ct (kv_L_52 hw hrc hrs ⟨by show rm.frames + 1 ≤ 13; omega, by show 8 + (2 + 11) + rm.locals ≤ 480; omega⟩) rfl rfl he rfl (Nat.le_of_ble_eq_true rfl) dL_whistled_2 ⟨by show 0 + mc ≤ mc; omega, by show 0 + ms ≤ ms; omega⟩ ht (fun z h => by
    simp only [List.mem_cons, List.not_mem_nil, or_false] at h
    subst h
    exact Or.inr ⟨by decide, "java/lang/IndexOutOfBoundsException", hw _ w_697, (hCE s hC.2.2.2.2.2.1.2).2.2.2.2.1⟩) (by decide) (by decide) w_746 (va_Nw.use (by decide +kernel) (hCE s hC.2.2.2.2.2.1.2).1) (fun H locs n1 q hM => ?_)
  refine lv_astore_n (lv' := [(2, .ref q), (0, .ref bo), (1, .int p0)]) hx hb dL_whistled_10 rfl hl (by decide) rfl (fun ls hl => ?_)
  refine lv_bipush (v := (-3)) hx hb dL_whistled_11 (by decide) ?_
  refine W.widen (k := mc) (n := ms) (by omega) (by omega) ?_
  exact me_pret hC hr hlk hM ⟨rfl, rfl⟩ rfl dL_whistled_13
set_option maxHeartbeats 4000000 in
theorem c_L_permitted (l : Launch) (D : va_G) (tb : Nat → ClassId) (X : State → Prop) (z0 n : Nat) (bo : Nat) (p0 p1 p2 : Int32) {M M' : me_M} {mc ms : Nat} {rm : Room} {n' : Nat} {r : Int32} {fs : List Value} (hrc : rm.cells = mc) (hrs : rm.slots = ms) (hR : rm.frames ≤ 12 ∧ rm.locals ≤ 440) (he : M bo = some (.inr (7, fs))) (ct : Met l yX7_grantPermit (.code yX7_grantPermit cX7_grantPermit 4 (some .int) :: ws_all) rm (me_Pc [.ref bo, .int p0, .int p1, .int p2] D tb X z0 M n) (me_Qi D z0 r M' n') mc ms (me_A z0)) : Met l yL_permitted (.codeWith yL_permitted cL_permitted 5 (some .int) [(0, 7, 8, 34), (0, 7, 13, 36), (0, 7, 18, 41)] :: ws_all) ({ frames := 13, cells := mc, slots := ms, locals := 480 } : Room) (me_Pc [.ref bo, .int p0, .int p1, .int p2] D tb X z0 M n) (me_Qp D z0 (fun r1 M1 => r1 = r ∧ M1 = M')) mc ms (me_A z0) := by
  refine me_openH (by decide) (Nat.le_of_ble_eq_true rfl) ?_
  intro p e s m args below meth c ls hC ht hr hlk hM hl
  have hl : lv_has ls 5 [(0, .ref bo), (1, .int p0), (2, .int p1), (3, .int p2)] := hl
  have hx := hC.1
  have hb := hC.2.1
  have hw := hC.2.2.2.2.1
  refine lv_aload_n hx hb dL_permitted_0 rfl (lv_at hl 0 rfl) ?_
  refine lv_iload_n hx hb dL_permitted_1 rfl (lv_at hl 1 rfl) ?_
  refine lv_iload_n hx hb dL_permitted_2 rfl (lv_at hl 2 rfl) ?_
  refine lv_iload_n hx hb dL_permitted_3 rfl (lv_at hl 3 rfl) ?_
  refine me_callVi (As := [.int p0, .int p1, .int p2]) (rest := []) hC hl.1 hM ct (kv_L_55 hw hrc hrs ⟨by show rm.frames + 1 ≤ 13; omega, by show 8 + (4 + 11) + rm.locals ≤ 480; omega⟩) rfl rfl he rfl (Nat.le_of_ble_eq_true rfl) dL_permitted_4 ⟨by show 0 + mc ≤ mc; omega, by show 0 + ms ≤ ms; omega⟩ (fun H locs hM => ?_)
  refine W.widen (k := mc) (n := ms) (by omega) (by omega) ?_
  exact me_pret hC hr hlk hM ⟨rfl, rfl⟩ rfl dL_permitted_7
set_option maxHeartbeats 4000000 in
theorem c_L_permitted_x1 (l : Launch) (D : va_G) (tb : Nat → ClassId) (X : State → Prop) (z0 n : Nat) (bo : Nat) (p0 p1 p2 : Int32) {M M' : me_M} {mc ms : Nat} {rm : Room} {fs : List Value} (hCE : ∀ U, X U → me_ce U) (hrc : rm.cells = mc) (hrs : rm.slots = ms) (hR : rm.frames ≤ 12 ∧ rm.locals ≤ 440) (he : M bo = some (.inr (7, fs))) (ct : vx_Met l yX7_grantPermit (.code yX7_grantPermit cX7_grantPermit 4 (some .int) :: ws_all) rm (me_Pc [.ref bo, .int p0, .int p1, .int p2] D tb X z0 M n) me_no (me_XC D z0 M' "java/lang/IndexOutOfBoundsException") mc ms (me_A z0)) : Met l yL_permitted (.codeWith yL_permitted cL_permitted 5 (some .int) [(0, 7, 8, 34), (0, 7, 13, 36), (0, 7, 18, 41)] :: ws_all) ({ frames := 13, cells := mc, slots := ms, locals := 480 } : Room) (me_Pc [.ref bo, .int p0, .int p1, .int p2] D tb X z0 M n) (me_Qp D z0 (fun r1 M1 => r1 = (-5) ∧ M1 = M')) mc ms (me_A z0) := by
  refine me_openH (by decide) (Nat.le_of_ble_eq_true rfl) ?_
  intro p e s m args below meth c ls hC ht hr hlk hM hl
  have hl : lv_has ls 5 [(0, .ref bo), (1, .int p0), (2, .int p1), (3, .int p2)] := hl
  have hx := hC.1
  have hb := hC.2.1
  have hw := hC.2.2.2.2.1
  refine lv_aload_n hx hb dL_permitted_0 rfl (lv_at hl 0 rfl) ?_
  refine lv_iload_n hx hb dL_permitted_1 rfl (lv_at hl 1 rfl) ?_
  refine lv_iload_n hx hb dL_permitted_2 rfl (lv_at hl 2 rfl) ?_
  refine lv_iload_n hx hb dL_permitted_3 rfl (lv_at hl 3 rfl) ?_
  refine me_xcat (E0 := "java/lang/IndexOutOfBoundsException") (pre := []) (x := ⟨0, 7, 8, 34⟩) (suf := [⟨0, 7, 13, 36⟩, ⟨0, 7, 18, 41⟩]) (As := [.int p0, .int p1, .int p2]) (rest := []) hC hl.1 hM ct (kv_L_55 hw hrc hrs ⟨by show rm.frames + 1 ≤ 13; omega, by show 8 + (4 + 11) + rm.locals ≤ 480; omega⟩) rfl rfl he rfl (Nat.le_of_ble_eq_true rfl) dL_permitted_4 ⟨by show 0 + mc ≤ mc; omega, by show 0 + ms ≤ ms; omega⟩ ht (fun z h => absurd h List.not_mem_nil) (by decide) (by decide) w_697 (va_Nw.use (by decide +kernel) (hCE s hC.2.2.2.2.2.1.2).2.1) (fun H locs n1 q hM => ?_)
  refine lv_astore (lv' := [(4, .ref q), (0, .ref bo), (1, .int p0), (2, .int p1), (3, .int p2)]) hx hb dL_permitted_8 hl (by decide) rfl (fun ls hl => ?_)
  refine lv_bipush (v := (-5)) hx hb dL_permitted_10 (by decide) ?_
  refine W.widen (k := mc) (n := ms) (by omega) (by omega) ?_
  exact me_pret hC hr hlk hM ⟨rfl, rfl⟩ rfl dL_permitted_12
set_option maxHeartbeats 4000000 in
theorem c_L_permitted_x2 (l : Launch) (D : va_G) (tb : Nat → ClassId) (X : State → Prop) (z0 n : Nat) (bo : Nat) (p0 p1 p2 : Int32) {M M' : me_M} {mc ms : Nat} {rm : Room} {fs : List Value} (hCE : ∀ U, X U → me_ce U) (hrc : rm.cells = mc) (hrs : rm.slots = ms) (hR : rm.frames ≤ 12 ∧ rm.locals ≤ 440) (he : M bo = some (.inr (7, fs))) (ct : vx_Met l yX7_grantPermit (.code yX7_grantPermit cX7_grantPermit 4 (some .int) :: ws_all) rm (me_Pc [.ref bo, .int p0, .int p1, .int p2] D tb X z0 M n) me_no (me_XC D z0 M' "java/lang/IllegalArgumentException") mc ms (me_A z0)) : Met l yL_permitted (.codeWith yL_permitted cL_permitted 5 (some .int) [(0, 7, 8, 34), (0, 7, 13, 36), (0, 7, 18, 41)] :: ws_all) ({ frames := 13, cells := mc, slots := ms, locals := 480 } : Room) (me_Pc [.ref bo, .int p0, .int p1, .int p2] D tb X z0 M n) (me_Qp D z0 (fun r1 M1 => r1 = (-2) ∧ M1 = M')) mc ms (me_A z0) := by
  refine me_openH (by decide) (Nat.le_of_ble_eq_true rfl) ?_
  intro p e s m args below meth c ls hC ht hr hlk hM hl
  have hl : lv_has ls 5 [(0, .ref bo), (1, .int p0), (2, .int p1), (3, .int p2)] := hl
  have hx := hC.1
  have hb := hC.2.1
  have hw := hC.2.2.2.2.1
  refine lv_aload_n hx hb dL_permitted_0 rfl (lv_at hl 0 rfl) ?_
  refine lv_iload_n hx hb dL_permitted_1 rfl (lv_at hl 1 rfl) ?_
  refine lv_iload_n hx hb dL_permitted_2 rfl (lv_at hl 2 rfl) ?_
  refine lv_iload_n hx hb dL_permitted_3 rfl (lv_at hl 3 rfl) ?_
  refine me_xcat (E0 := "java/lang/IllegalArgumentException") (pre := [⟨0, 7, 8, 34⟩]) (x := ⟨0, 7, 13, 36⟩) (suf := [⟨0, 7, 18, 41⟩]) (As := [.int p0, .int p1, .int p2]) (rest := []) hC hl.1 hM ct (kv_L_55 hw hrc hrs ⟨by show rm.frames + 1 ≤ 13; omega, by show 8 + (4 + 11) + rm.locals ≤ 480; omega⟩) rfl rfl he rfl (Nat.le_of_ble_eq_true rfl) dL_permitted_4 ⟨by show 0 + mc ≤ mc; omega, by show 0 + ms ≤ ms; omega⟩ ht (fun z h => by
    simp only [List.mem_cons, List.not_mem_nil, or_false] at h
    subst h
    exact Or.inr ⟨by decide, "java/lang/IndexOutOfBoundsException", hw _ w_697, (hCE s hC.2.2.2.2.2.1.2).2.2.2.1⟩) (by decide) (by decide) w_698 (va_Nw.use (by decide +kernel) (hCE s hC.2.2.2.2.2.1.2).2.2.1) (fun H locs n1 q hM => ?_)
  refine lv_astore (lv' := [(4, .ref q), (0, .ref bo), (1, .int p0), (2, .int p1), (3, .int p2)]) hx hb dL_permitted_13 hl (by decide) rfl (fun ls hl => ?_)
  refine lv_bipush (v := (-2)) hx hb dL_permitted_15 (by decide) ?_
  refine W.widen (k := mc) (n := ms) (by omega) (by omega) ?_
  exact me_pret hC hr hlk hM ⟨rfl, rfl⟩ rfl dL_permitted_17
set_option maxHeartbeats 4000000 in
theorem c_L_permitted_x3 (l : Launch) (D : va_G) (tb : Nat → ClassId) (X : State → Prop) (z0 n : Nat) (bo : Nat) (p0 p1 p2 : Int32) {M M' : me_M} {mc ms : Nat} {rm : Room} {fs : List Value} (hCE : ∀ U, X U → me_ce U) (hrc : rm.cells = mc) (hrs : rm.slots = ms) (hR : rm.frames ≤ 12 ∧ rm.locals ≤ 440) (he : M bo = some (.inr (7, fs))) (ct : vx_Met l yX7_grantPermit (.code yX7_grantPermit cX7_grantPermit 4 (some .int) :: ws_all) rm (me_Pc [.ref bo, .int p0, .int p1, .int p2] D tb X z0 M n) me_no (me_XC D z0 M' "java/lang/IllegalStateException") mc ms (me_A z0)) : Met l yL_permitted (.codeWith yL_permitted cL_permitted 5 (some .int) [(0, 7, 8, 34), (0, 7, 13, 36), (0, 7, 18, 41)] :: ws_all) ({ frames := 13, cells := mc, slots := ms, locals := 480 } : Room) (me_Pc [.ref bo, .int p0, .int p1, .int p2] D tb X z0 M n) (me_Qp D z0 (fun r1 M1 => r1 = (-3) ∧ M1 = M')) mc ms (me_A z0) := by
  refine me_openH (by decide) (Nat.le_of_ble_eq_true rfl) ?_
  intro p e s m args below meth c ls hC ht hr hlk hM hl
  have hl : lv_has ls 5 [(0, .ref bo), (1, .int p0), (2, .int p1), (3, .int p2)] := hl
  have hx := hC.1
  have hb := hC.2.1
  have hw := hC.2.2.2.2.1
  refine lv_aload_n hx hb dL_permitted_0 rfl (lv_at hl 0 rfl) ?_
  refine lv_iload_n hx hb dL_permitted_1 rfl (lv_at hl 1 rfl) ?_
  refine lv_iload_n hx hb dL_permitted_2 rfl (lv_at hl 2 rfl) ?_
  refine lv_iload_n hx hb dL_permitted_3 rfl (lv_at hl 3 rfl) ?_
  refine me_xcat (E0 := "java/lang/IllegalStateException") (pre := [⟨0, 7, 8, 34⟩, ⟨0, 7, 13, 36⟩]) (x := ⟨0, 7, 18, 41⟩) (suf := []) (As := [.int p0, .int p1, .int p2]) (rest := []) hC hl.1 hM ct (kv_L_55 hw hrc hrs ⟨by show rm.frames + 1 ≤ 13; omega, by show 8 + (4 + 11) + rm.locals ≤ 480; omega⟩) rfl rfl he rfl (Nat.le_of_ble_eq_true rfl) dL_permitted_4 ⟨by show 0 + mc ≤ mc; omega, by show 0 + ms ≤ ms; omega⟩ ht (fun z h => by
    simp only [List.mem_cons, List.not_mem_nil, or_false] at h
    rcases h with rfl | rfl
    · exact Or.inr ⟨by decide, "java/lang/IndexOutOfBoundsException", hw _ w_697, (hCE s hC.2.2.2.2.2.1.2).2.2.2.2.1⟩
    · exact Or.inr ⟨by decide, "java/lang/IllegalArgumentException", hw _ w_698, (hCE s hC.2.2.2.2.2.1.2).2.2.2.2.2⟩) (by decide) (by decide) w_746 (va_Nw.use (by decide +kernel) (hCE s hC.2.2.2.2.2.1.2).1) (fun H locs n1 q hM => ?_)
  refine lv_astore (lv' := [(4, .ref q), (0, .ref bo), (1, .int p0), (2, .int p1), (3, .int p2)]) hx hb dL_permitted_18 hl (by decide) rfl (fun ls hl => ?_)
  refine lv_bipush (v := (-3)) hx hb dL_permitted_20 (by decide) ?_
  refine W.widen (k := mc) (n := ms) (by omega) (by omega) ?_
  exact me_pret hC hr hlk hM ⟨rfl, rfl⟩ rfl dL_permitted_22
set_option maxHeartbeats 4000000 in
theorem c_L_revoked (l : Launch) (D : va_G) (tb : Nat → ClassId) (X : State → Prop) (z0 n : Nat) (bo : Nat) (p0 : Int32) {M M' : me_M} {mc ms : Nat} {rm : Room} {n' : Nat} {r : Int32} {fs : List Value} (hrc : rm.cells = mc) (hrs : rm.slots = ms) (hR : rm.frames ≤ 12 ∧ rm.locals ≤ 440) (he : M bo = some (.inr (7, fs))) (ct : Met l yX7_revokePermit (.code yX7_revokePermit cX7_revokePermit 2 (some .int) :: ws_all) rm (me_Pc [.ref bo, .int p0] D tb X z0 M n) (me_Qi D z0 r M' n') mc ms (me_A z0)) : Met l yL_revoked (.codeWith yL_revoked cL_revoked 3 (some .int) [(0, 5, 6, 34), (0, 5, 10, 41)] :: ws_all) ({ frames := 13, cells := mc, slots := ms, locals := 480 } : Room) (me_Pc [.ref bo, .int p0] D tb X z0 M n) (me_Qp D z0 (fun r1 M1 => r1 = r ∧ M1 = M')) mc ms (me_A z0) := by
  refine me_openH (by decide) (Nat.le_of_ble_eq_true rfl) ?_
  intro p e s m args below meth c ls hC ht hr hlk hM hl
  have hl : lv_has ls 3 [(0, .ref bo), (1, .int p0)] := hl
  have hx := hC.1
  have hb := hC.2.1
  have hw := hC.2.2.2.2.1
  refine lv_aload_n hx hb dL_revoked_0 rfl (lv_at hl 0 rfl) ?_
  refine lv_iload_n hx hb dL_revoked_1 rfl (lv_at hl 1 rfl) ?_
  refine me_callVi (As := [.int p0]) (rest := []) hC hl.1 hM ct (kv_L_58 hw hrc hrs ⟨by show rm.frames + 1 ≤ 13; omega, by show 8 + (2 + 11) + rm.locals ≤ 480; omega⟩) rfl rfl he rfl (Nat.le_of_ble_eq_true rfl) dL_revoked_2 ⟨by show 0 + mc ≤ mc; omega, by show 0 + ms ≤ ms; omega⟩ (fun H locs hM => ?_)
  refine W.widen (k := mc) (n := ms) (by omega) (by omega) ?_
  exact me_pret hC hr hlk hM ⟨rfl, rfl⟩ rfl dL_revoked_5
set_option maxHeartbeats 4000000 in
theorem c_L_revoked_x1 (l : Launch) (D : va_G) (tb : Nat → ClassId) (X : State → Prop) (z0 n : Nat) (bo : Nat) (p0 : Int32) {M M' : me_M} {mc ms : Nat} {rm : Room} {fs : List Value} (hCE : ∀ U, X U → me_ce U) (hrc : rm.cells = mc) (hrs : rm.slots = ms) (hR : rm.frames ≤ 12 ∧ rm.locals ≤ 440) (he : M bo = some (.inr (7, fs))) (ct : vx_Met l yX7_revokePermit (.code yX7_revokePermit cX7_revokePermit 2 (some .int) :: ws_all) rm (me_Pc [.ref bo, .int p0] D tb X z0 M n) me_no (me_XC D z0 M' "java/lang/IndexOutOfBoundsException") mc ms (me_A z0)) : Met l yL_revoked (.codeWith yL_revoked cL_revoked 3 (some .int) [(0, 5, 6, 34), (0, 5, 10, 41)] :: ws_all) ({ frames := 13, cells := mc, slots := ms, locals := 480 } : Room) (me_Pc [.ref bo, .int p0] D tb X z0 M n) (me_Qp D z0 (fun r1 M1 => r1 = (-5) ∧ M1 = M')) mc ms (me_A z0) := by
  refine me_openH (by decide) (Nat.le_of_ble_eq_true rfl) ?_
  intro p e s m args below meth c ls hC ht hr hlk hM hl
  have hl : lv_has ls 3 [(0, .ref bo), (1, .int p0)] := hl
  have hx := hC.1
  have hb := hC.2.1
  have hw := hC.2.2.2.2.1
  refine lv_aload_n hx hb dL_revoked_0 rfl (lv_at hl 0 rfl) ?_
  refine lv_iload_n hx hb dL_revoked_1 rfl (lv_at hl 1 rfl) ?_
  refine me_xcat (E0 := "java/lang/IndexOutOfBoundsException") (pre := []) (x := ⟨0, 5, 6, 34⟩) (suf := [⟨0, 5, 10, 41⟩]) (As := [.int p0]) (rest := []) hC hl.1 hM ct (kv_L_58 hw hrc hrs ⟨by show rm.frames + 1 ≤ 13; omega, by show 8 + (2 + 11) + rm.locals ≤ 480; omega⟩) rfl rfl he rfl (Nat.le_of_ble_eq_true rfl) dL_revoked_2 ⟨by show 0 + mc ≤ mc; omega, by show 0 + ms ≤ ms; omega⟩ ht (fun z h => absurd h List.not_mem_nil) (by decide) (by decide) w_697 (va_Nw.use (by decide +kernel) (hCE s hC.2.2.2.2.2.1.2).2.1) (fun H locs n1 q hM => ?_)
  refine lv_astore_n (lv' := [(2, .ref q), (0, .ref bo), (1, .int p0)]) hx hb dL_revoked_6 rfl hl (by decide) rfl (fun ls hl => ?_)
  refine lv_bipush (v := (-5)) hx hb dL_revoked_7 (by decide) ?_
  refine W.widen (k := mc) (n := ms) (by omega) (by omega) ?_
  exact me_pret hC hr hlk hM ⟨rfl, rfl⟩ rfl dL_revoked_9
set_option maxHeartbeats 4000000 in
theorem c_L_revoked_x2 (l : Launch) (D : va_G) (tb : Nat → ClassId) (X : State → Prop) (z0 n : Nat) (bo : Nat) (p0 : Int32) {M M' : me_M} {mc ms : Nat} {rm : Room} {fs : List Value} (hCE : ∀ U, X U → me_ce U) (hrc : rm.cells = mc) (hrs : rm.slots = ms) (hR : rm.frames ≤ 12 ∧ rm.locals ≤ 440) (he : M bo = some (.inr (7, fs))) (ct : vx_Met l yX7_revokePermit (.code yX7_revokePermit cX7_revokePermit 2 (some .int) :: ws_all) rm (me_Pc [.ref bo, .int p0] D tb X z0 M n) me_no (me_XC D z0 M' "java/lang/IllegalStateException") mc ms (me_A z0)) : Met l yL_revoked (.codeWith yL_revoked cL_revoked 3 (some .int) [(0, 5, 6, 34), (0, 5, 10, 41)] :: ws_all) ({ frames := 13, cells := mc, slots := ms, locals := 480 } : Room) (me_Pc [.ref bo, .int p0] D tb X z0 M n) (me_Qp D z0 (fun r1 M1 => r1 = (-3) ∧ M1 = M')) mc ms (me_A z0) := by
  refine me_openH (by decide) (Nat.le_of_ble_eq_true rfl) ?_
  intro p e s m args below meth c ls hC ht hr hlk hM hl
  have hl : lv_has ls 3 [(0, .ref bo), (1, .int p0)] := hl
  have hx := hC.1
  have hb := hC.2.1
  have hw := hC.2.2.2.2.1
  refine lv_aload_n hx hb dL_revoked_0 rfl (lv_at hl 0 rfl) ?_
  refine lv_iload_n hx hb dL_revoked_1 rfl (lv_at hl 1 rfl) ?_
  refine me_xcat (E0 := "java/lang/IllegalStateException") (pre := [⟨0, 5, 6, 34⟩]) (x := ⟨0, 5, 10, 41⟩) (suf := []) (As := [.int p0]) (rest := []) hC hl.1 hM ct (kv_L_58 hw hrc hrs ⟨by show rm.frames + 1 ≤ 13; omega, by show 8 + (2 + 11) + rm.locals ≤ 480; omega⟩) rfl rfl he rfl (Nat.le_of_ble_eq_true rfl) dL_revoked_2 ⟨by show 0 + mc ≤ mc; omega, by show 0 + ms ≤ ms; omega⟩ ht (fun z h => by
    simp only [List.mem_cons, List.not_mem_nil, or_false] at h
    subst h
    exact Or.inr ⟨by decide, "java/lang/IndexOutOfBoundsException", hw _ w_697, (hCE s hC.2.2.2.2.2.1.2).2.2.2.2.1⟩) (by decide) (by decide) w_746 (va_Nw.use (by decide +kernel) (hCE s hC.2.2.2.2.2.1.2).1) (fun H locs n1 q hM => ?_)
  refine lv_astore_n (lv' := [(2, .ref q), (0, .ref bo), (1, .int p0)]) hx hb dL_revoked_10 rfl hl (by decide) rfl (fun ls hl => ?_)
  refine lv_bipush (v := (-3)) hx hb dL_revoked_11 (by decide) ?_
  refine W.widen (k := mc) (n := ms) (by omega) (by omega) ?_
  exact me_pret hC hr hlk hM ⟨rfl, rfl⟩ rfl dL_revoked_13
set_option maxHeartbeats 4000000 in
theorem c_L_paid (l : Launch) (D : va_G) (tb : Nat → ClassId) (X : State → Prop) (z0 n : Nat) (bo : Nat) (p0 p1 : Int32) {M M' : me_M} {mc ms : Nat} {rm : Room} {n' : Nat} {r : Int32} {fs : List Value} (hrc : rm.cells = mc) (hrs : rm.slots = ms) (hR : rm.frames ≤ 12 ∧ rm.locals ≤ 440) (he : M bo = some (.inr (7, fs))) (ct : Met l yX7_pay (.code yX7_pay cX7_pay 3 (some .int) :: ws_all) rm (me_Pc [.ref bo, .int p0, .int p1] D tb X z0 M n) (me_Qi D z0 r M' n') mc ms (me_A z0)) : Met l yL_paid (.codeWith yL_paid cL_paid 4 (some .int) [(0, 6, 7, 34), (0, 6, 11, 36)] :: ws_all) ({ frames := 13, cells := mc, slots := ms, locals := 480 } : Room) (me_Pc [.ref bo, .int p0, .int p1] D tb X z0 M n) (me_Qp D z0 (fun r1 M1 => r1 = r ∧ M1 = M')) mc ms (me_A z0) := by
  refine me_openH (by decide) (Nat.le_of_ble_eq_true rfl) ?_
  intro p e s m args below meth c ls hC ht hr hlk hM hl
  have hl : lv_has ls 4 [(0, .ref bo), (1, .int p0), (2, .int p1)] := hl
  have hx := hC.1
  have hb := hC.2.1
  have hw := hC.2.2.2.2.1
  refine lv_aload_n hx hb dL_paid_0 rfl (lv_at hl 0 rfl) ?_
  refine lv_iload_n hx hb dL_paid_1 rfl (lv_at hl 1 rfl) ?_
  refine lv_iload_n hx hb dL_paid_2 rfl (lv_at hl 2 rfl) ?_
  refine me_callVi (As := [.int p0, .int p1]) (rest := []) hC hl.1 hM ct (kv_L_61 hw hrc hrs ⟨by show rm.frames + 1 ≤ 13; omega, by show 8 + (3 + 11) + rm.locals ≤ 480; omega⟩) rfl rfl he rfl (Nat.le_of_ble_eq_true rfl) dL_paid_3 ⟨by show 0 + mc ≤ mc; omega, by show 0 + ms ≤ ms; omega⟩ (fun H locs hM => ?_)
  refine W.widen (k := mc) (n := ms) (by omega) (by omega) ?_
  exact me_pret hC hr hlk hM ⟨rfl, rfl⟩ rfl dL_paid_6
set_option maxHeartbeats 4000000 in
theorem c_L_paid_x1 (l : Launch) (D : va_G) (tb : Nat → ClassId) (X : State → Prop) (z0 n : Nat) (bo : Nat) (p0 p1 : Int32) {M M' : me_M} {mc ms : Nat} {rm : Room} {fs : List Value} (hCE : ∀ U, X U → me_ce U) (hrc : rm.cells = mc) (hrs : rm.slots = ms) (hR : rm.frames ≤ 12 ∧ rm.locals ≤ 440) (he : M bo = some (.inr (7, fs))) (ct : vx_Met l yX7_pay (.code yX7_pay cX7_pay 3 (some .int) :: ws_all) rm (me_Pc [.ref bo, .int p0, .int p1] D tb X z0 M n) me_no (me_XC D z0 M' "java/lang/IndexOutOfBoundsException") mc ms (me_A z0)) : Met l yL_paid (.codeWith yL_paid cL_paid 4 (some .int) [(0, 6, 7, 34), (0, 6, 11, 36)] :: ws_all) ({ frames := 13, cells := mc, slots := ms, locals := 480 } : Room) (me_Pc [.ref bo, .int p0, .int p1] D tb X z0 M n) (me_Qp D z0 (fun r1 M1 => r1 = (-99995) ∧ M1 = M')) mc ms (me_A z0) := by
  refine me_openH (by decide) (Nat.le_of_ble_eq_true rfl) ?_
  intro p e s m args below meth c ls hC ht hr hlk hM hl
  have hl : lv_has ls 4 [(0, .ref bo), (1, .int p0), (2, .int p1)] := hl
  have hx := hC.1
  have hb := hC.2.1
  have hw := hC.2.2.2.2.1
  refine lv_aload_n hx hb dL_paid_0 rfl (lv_at hl 0 rfl) ?_
  refine lv_iload_n hx hb dL_paid_1 rfl (lv_at hl 1 rfl) ?_
  refine lv_iload_n hx hb dL_paid_2 rfl (lv_at hl 2 rfl) ?_
  refine me_xcat (E0 := "java/lang/IndexOutOfBoundsException") (pre := []) (x := ⟨0, 6, 7, 34⟩) (suf := [⟨0, 6, 11, 36⟩]) (As := [.int p0, .int p1]) (rest := []) hC hl.1 hM ct (kv_L_61 hw hrc hrs ⟨by show rm.frames + 1 ≤ 13; omega, by show 8 + (3 + 11) + rm.locals ≤ 480; omega⟩) rfl rfl he rfl (Nat.le_of_ble_eq_true rfl) dL_paid_3 ⟨by show 0 + mc ≤ mc; omega, by show 0 + ms ≤ ms; omega⟩ ht (fun z h => absurd h List.not_mem_nil) (by decide) (by decide) w_697 (va_Nw.use (by decide +kernel) (hCE s hC.2.2.2.2.2.1.2).2.1) (fun H locs n1 q hM => ?_)
  refine lv_astore_n (lv' := [(3, .ref q), (0, .ref bo), (1, .int p0), (2, .int p1)]) hx hb dL_paid_7 rfl hl (by decide) rfl (fun ls hl => ?_)
  refine lv_ldc (v := (-99995)) hx hb hC.2.2.2.1 (hw _ w_793) dL_paid_8 ?_
  refine W.widen (k := mc) (n := ms) (by omega) (by omega) ?_
  exact me_pret hC hr hlk hM ⟨rfl, rfl⟩ rfl dL_paid_10
set_option maxHeartbeats 4000000 in
theorem c_L_paid_x2 (l : Launch) (D : va_G) (tb : Nat → ClassId) (X : State → Prop) (z0 n : Nat) (bo : Nat) (p0 p1 : Int32) {M M' : me_M} {mc ms : Nat} {rm : Room} {fs : List Value} (hCE : ∀ U, X U → me_ce U) (hrc : rm.cells = mc) (hrs : rm.slots = ms) (hR : rm.frames ≤ 12 ∧ rm.locals ≤ 440) (he : M bo = some (.inr (7, fs))) (ct : vx_Met l yX7_pay (.code yX7_pay cX7_pay 3 (some .int) :: ws_all) rm (me_Pc [.ref bo, .int p0, .int p1] D tb X z0 M n) me_no (me_XC D z0 M' "java/lang/IllegalArgumentException") mc ms (me_A z0)) : Met l yL_paid (.codeWith yL_paid cL_paid 4 (some .int) [(0, 6, 7, 34), (0, 6, 11, 36)] :: ws_all) ({ frames := 13, cells := mc, slots := ms, locals := 480 } : Room) (me_Pc [.ref bo, .int p0, .int p1] D tb X z0 M n) (me_Qp D z0 (fun r1 M1 => r1 = (-99992) ∧ M1 = M')) mc ms (me_A z0) := by
  refine me_openH (by decide) (Nat.le_of_ble_eq_true rfl) ?_
  intro p e s m args below meth c ls hC ht hr hlk hM hl
  have hl : lv_has ls 4 [(0, .ref bo), (1, .int p0), (2, .int p1)] := hl
  have hx := hC.1
  have hb := hC.2.1
  have hw := hC.2.2.2.2.1
  refine lv_aload_n hx hb dL_paid_0 rfl (lv_at hl 0 rfl) ?_
  refine lv_iload_n hx hb dL_paid_1 rfl (lv_at hl 1 rfl) ?_
  refine lv_iload_n hx hb dL_paid_2 rfl (lv_at hl 2 rfl) ?_
  refine me_xcat (E0 := "java/lang/IllegalArgumentException") (pre := [⟨0, 6, 7, 34⟩]) (x := ⟨0, 6, 11, 36⟩) (suf := []) (As := [.int p0, .int p1]) (rest := []) hC hl.1 hM ct (kv_L_61 hw hrc hrs ⟨by show rm.frames + 1 ≤ 13; omega, by show 8 + (3 + 11) + rm.locals ≤ 480; omega⟩) rfl rfl he rfl (Nat.le_of_ble_eq_true rfl) dL_paid_3 ⟨by show 0 + mc ≤ mc; omega, by show 0 + ms ≤ ms; omega⟩ ht (fun z h => by
    simp only [List.mem_cons, List.not_mem_nil, or_false] at h
    subst h
    exact Or.inr ⟨by decide, "java/lang/IndexOutOfBoundsException", hw _ w_697, (hCE s hC.2.2.2.2.2.1.2).2.2.2.1⟩) (by decide) (by decide) w_698 (va_Nw.use (by decide +kernel) (hCE s hC.2.2.2.2.2.1.2).2.2.1) (fun H locs n1 q hM => ?_)
  refine lv_astore_n (lv' := [(3, .ref q), (0, .ref bo), (1, .int p0), (2, .int p1)]) hx hb dL_paid_11 rfl hl (by decide) rfl (fun ls hl => ?_)
  refine lv_ldc (v := (-99992)) hx hb hC.2.2.2.1 (hw _ w_841) dL_paid_12 ?_
  refine W.widen (k := mc) (n := ms) (by omega) (by omega) ?_
  exact me_pret hC hr hlk hM ⟨rfl, rfl⟩ rfl dL_paid_14
set_option maxHeartbeats 4000000 in
theorem c_L_advanced (l : Launch) (D : va_G) (tb : Nat → ClassId) (X : State → Prop) (z0 n : Nat) (bo : Nat) (p0 : Int32) {M M' : me_M} {mc ms : Nat} {rm : Room} {n' : Nat} {r : Int32} {fs : List Value} (hrc : rm.cells = mc) (hrs : rm.slots = ms) (hR : rm.frames ≤ 12 ∧ rm.locals ≤ 440) (he : M bo = some (.inr (7, fs))) (ct : Met l yX7_advance (.code yX7_advance cX7_advance 2 (some .int) :: ws_all) rm (me_Pc [.ref bo, .int p0] D tb X z0 M n) (me_Qi D z0 r M' n') mc ms (me_A z0)) : Met l yL_advanced (.codeWith yL_advanced cL_advanced 3 (some .int) [(0, 5, 6, 36), (0, 5, 10, 41)] :: ws_all) ({ frames := 13, cells := mc, slots := ms, locals := 480 } : Room) (me_Pc [.ref bo, .int p0] D tb X z0 M n) (me_Qp D z0 (fun r1 M1 => r1 = r ∧ M1 = M')) mc ms (me_A z0) := by
  refine me_openH (by decide) (Nat.le_of_ble_eq_true rfl) ?_
  intro p e s m args below meth c ls hC ht hr hlk hM hl
  have hl : lv_has ls 3 [(0, .ref bo), (1, .int p0)] := hl
  have hx := hC.1
  have hb := hC.2.1
  have hw := hC.2.2.2.2.1
  refine lv_aload_n hx hb dL_advanced_0 rfl (lv_at hl 0 rfl) ?_
  refine lv_iload_n hx hb dL_advanced_1 rfl (lv_at hl 1 rfl) ?_
  refine me_callVi (As := [.int p0]) (rest := []) hC hl.1 hM ct (kv_L_66 hw hrc hrs ⟨by show rm.frames + 1 ≤ 13; omega, by show 8 + (2 + 11) + rm.locals ≤ 480; omega⟩) rfl rfl he rfl (Nat.le_of_ble_eq_true rfl) dL_advanced_2 ⟨by show 0 + mc ≤ mc; omega, by show 0 + ms ≤ ms; omega⟩ (fun H locs hM => ?_)
  refine W.widen (k := mc) (n := ms) (by omega) (by omega) ?_
  exact me_pret hC hr hlk hM ⟨rfl, rfl⟩ rfl dL_advanced_5
set_option maxHeartbeats 4000000 in
theorem c_L_advanced_x1 (l : Launch) (D : va_G) (tb : Nat → ClassId) (X : State → Prop) (z0 n : Nat) (bo : Nat) (p0 : Int32) {M M' : me_M} {mc ms : Nat} {rm : Room} {fs : List Value} (hCE : ∀ U, X U → me_ce U) (hrc : rm.cells = mc) (hrs : rm.slots = ms) (hR : rm.frames ≤ 12 ∧ rm.locals ≤ 440) (he : M bo = some (.inr (7, fs))) (ct : vx_Met l yX7_advance (.code yX7_advance cX7_advance 2 (some .int) :: ws_all) rm (me_Pc [.ref bo, .int p0] D tb X z0 M n) me_no (me_XC D z0 M' "java/lang/IllegalArgumentException") mc ms (me_A z0)) : Met l yL_advanced (.codeWith yL_advanced cL_advanced 3 (some .int) [(0, 5, 6, 36), (0, 5, 10, 41)] :: ws_all) ({ frames := 13, cells := mc, slots := ms, locals := 480 } : Room) (me_Pc [.ref bo, .int p0] D tb X z0 M n) (me_Qp D z0 (fun r1 M1 => r1 = (-2) ∧ M1 = M')) mc ms (me_A z0) := by
  refine me_openH (by decide) (Nat.le_of_ble_eq_true rfl) ?_
  intro p e s m args below meth c ls hC ht hr hlk hM hl
  have hl : lv_has ls 3 [(0, .ref bo), (1, .int p0)] := hl
  have hx := hC.1
  have hb := hC.2.1
  have hw := hC.2.2.2.2.1
  refine lv_aload_n hx hb dL_advanced_0 rfl (lv_at hl 0 rfl) ?_
  refine lv_iload_n hx hb dL_advanced_1 rfl (lv_at hl 1 rfl) ?_
  refine me_xcat (E0 := "java/lang/IllegalArgumentException") (pre := []) (x := ⟨0, 5, 6, 36⟩) (suf := [⟨0, 5, 10, 41⟩]) (As := [.int p0]) (rest := []) hC hl.1 hM ct (kv_L_66 hw hrc hrs ⟨by show rm.frames + 1 ≤ 13; omega, by show 8 + (2 + 11) + rm.locals ≤ 480; omega⟩) rfl rfl he rfl (Nat.le_of_ble_eq_true rfl) dL_advanced_2 ⟨by show 0 + mc ≤ mc; omega, by show 0 + ms ≤ ms; omega⟩ ht (fun z h => absurd h List.not_mem_nil) (by decide) (by decide) w_698 (va_Nw.use (by decide +kernel) (hCE s hC.2.2.2.2.2.1.2).2.2.1) (fun H locs n1 q hM => ?_)
  refine lv_astore_n (lv' := [(2, .ref q), (0, .ref bo), (1, .int p0)]) hx hb dL_advanced_6 rfl hl (by decide) rfl (fun ls hl => ?_)
  refine lv_bipush (v := (-2)) hx hb dL_advanced_7 (by decide) ?_
  refine W.widen (k := mc) (n := ms) (by omega) (by omega) ?_
  exact me_pret hC hr hlk hM ⟨rfl, rfl⟩ rfl dL_advanced_9
set_option maxHeartbeats 4000000 in
theorem c_L_advanced_x2 (l : Launch) (D : va_G) (tb : Nat → ClassId) (X : State → Prop) (z0 n : Nat) (bo : Nat) (p0 : Int32) {M M' : me_M} {mc ms : Nat} {rm : Room} {fs : List Value} (hCE : ∀ U, X U → me_ce U) (hrc : rm.cells = mc) (hrs : rm.slots = ms) (hR : rm.frames ≤ 12 ∧ rm.locals ≤ 440) (he : M bo = some (.inr (7, fs))) (ct : vx_Met l yX7_advance (.code yX7_advance cX7_advance 2 (some .int) :: ws_all) rm (me_Pc [.ref bo, .int p0] D tb X z0 M n) me_no (me_XC D z0 M' "java/lang/IllegalStateException") mc ms (me_A z0)) : Met l yL_advanced (.codeWith yL_advanced cL_advanced 3 (some .int) [(0, 5, 6, 36), (0, 5, 10, 41)] :: ws_all) ({ frames := 13, cells := mc, slots := ms, locals := 480 } : Room) (me_Pc [.ref bo, .int p0] D tb X z0 M n) (me_Qp D z0 (fun r1 M1 => r1 = (-3) ∧ M1 = M')) mc ms (me_A z0) := by
  refine me_openH (by decide) (Nat.le_of_ble_eq_true rfl) ?_
  intro p e s m args below meth c ls hC ht hr hlk hM hl
  have hl : lv_has ls 3 [(0, .ref bo), (1, .int p0)] := hl
  have hx := hC.1
  have hb := hC.2.1
  have hw := hC.2.2.2.2.1
  refine lv_aload_n hx hb dL_advanced_0 rfl (lv_at hl 0 rfl) ?_
  refine lv_iload_n hx hb dL_advanced_1 rfl (lv_at hl 1 rfl) ?_
  refine me_xcat (E0 := "java/lang/IllegalStateException") (pre := [⟨0, 5, 6, 36⟩]) (x := ⟨0, 5, 10, 41⟩) (suf := []) (As := [.int p0]) (rest := []) hC hl.1 hM ct (kv_L_66 hw hrc hrs ⟨by show rm.frames + 1 ≤ 13; omega, by show 8 + (2 + 11) + rm.locals ≤ 480; omega⟩) rfl rfl he rfl (Nat.le_of_ble_eq_true rfl) dL_advanced_2 ⟨by show 0 + mc ≤ mc; omega, by show 0 + ms ≤ ms; omega⟩ ht (fun z h => by
    simp only [List.mem_cons, List.not_mem_nil, or_false] at h
    subst h
    exact Or.inr ⟨by decide, "java/lang/IllegalArgumentException", hw _ w_698, (hCE s hC.2.2.2.2.2.1.2).2.2.2.2.2⟩) (by decide) (by decide) w_746 (va_Nw.use (by decide +kernel) (hCE s hC.2.2.2.2.2.1.2).1) (fun H locs n1 q hM => ?_)
  refine lv_astore_n (lv' := [(2, .ref q), (0, .ref bo), (1, .int p0)]) hx hb dL_advanced_10 rfl hl (by decide) rfl (fun ls hl => ?_)
  refine lv_bipush (v := (-3)) hx hb dL_advanced_11 (by decide) ?_
  refine W.widen (k := mc) (n := ms) (by omega) (by omega) ?_
  exact me_pret hC hr hlk hM ⟨rfl, rfl⟩ rfl dL_advanced_13
set_option maxHeartbeats 4000000 in
theorem c_L_refused (l : Launch) (D : va_G) (tb : Nat → ClassId) (X : State → Prop) (z0 n : Nat) (bo : Nat) (p0 p1 p2 : Int32) {M M' : me_M} {mc ms : Nat} {rm : Room} {n' : Nat} {r : Int32} {fs : List Value} (hrc : rm.cells = mc) (hrs : rm.slots = ms) (hR : rm.frames ≤ 12 ∧ rm.locals ≤ 440) (he : M bo = some (.inr (7, fs))) (ct : Met l yX7_refusal (.code yX7_refusal cX7_refusal 4 (some .int) :: ws_all) rm (me_Pc [.ref bo, .int p0, .int p1, .int p2] D tb X z0 M n) (me_Qi D z0 r M' n') mc ms (me_A z0)) : Met l yL_refused (.codeWith yL_refused cL_refused 5 (some .int) [(0, 7, 8, 34), (0, 7, 13, 36)] :: ws_all) ({ frames := 13, cells := mc, slots := ms, locals := 480 } : Room) (me_Pc [.ref bo, .int p0, .int p1, .int p2] D tb X z0 M n) (me_Qp D z0 (fun r1 M1 => r1 = r ∧ M1 = M')) mc ms (me_A z0) := by
  refine me_openH (by decide) (Nat.le_of_ble_eq_true rfl) ?_
  intro p e s m args below meth c ls hC ht hr hlk hM hl
  have hl : lv_has ls 5 [(0, .ref bo), (1, .int p0), (2, .int p1), (3, .int p2)] := hl
  have hx := hC.1
  have hb := hC.2.1
  have hw := hC.2.2.2.2.1
  refine lv_aload_n hx hb dL_refused_0 rfl (lv_at hl 0 rfl) ?_
  refine lv_iload_n hx hb dL_refused_1 rfl (lv_at hl 1 rfl) ?_
  refine lv_iload_n hx hb dL_refused_2 rfl (lv_at hl 2 rfl) ?_
  refine lv_iload_n hx hb dL_refused_3 rfl (lv_at hl 3 rfl) ?_
  refine me_callVi (As := [.int p0, .int p1, .int p2]) (rest := []) hC hl.1 hM ct (kv_L_69 hw hrc hrs ⟨by show rm.frames + 1 ≤ 13; omega, by show 8 + (4 + 11) + rm.locals ≤ 480; omega⟩) rfl rfl he rfl (Nat.le_of_ble_eq_true rfl) dL_refused_4 ⟨by show 0 + mc ≤ mc; omega, by show 0 + ms ≤ ms; omega⟩ (fun H locs hM => ?_)
  refine W.widen (k := mc) (n := ms) (by omega) (by omega) ?_
  exact me_pret hC hr hlk hM ⟨rfl, rfl⟩ rfl dL_refused_7
set_option maxHeartbeats 4000000 in
theorem c_L_refused_x1 (l : Launch) (D : va_G) (tb : Nat → ClassId) (X : State → Prop) (z0 n : Nat) (bo : Nat) (p0 p1 p2 : Int32) {M M' : me_M} {mc ms : Nat} {rm : Room} {fs : List Value} (hCE : ∀ U, X U → me_ce U) (hrc : rm.cells = mc) (hrs : rm.slots = ms) (hR : rm.frames ≤ 12 ∧ rm.locals ≤ 440) (he : M bo = some (.inr (7, fs))) (ct : vx_Met l yX7_refusal (.code yX7_refusal cX7_refusal 4 (some .int) :: ws_all) rm (me_Pc [.ref bo, .int p0, .int p1, .int p2] D tb X z0 M n) me_no (me_XC D z0 M' "java/lang/IndexOutOfBoundsException") mc ms (me_A z0)) : Met l yL_refused (.codeWith yL_refused cL_refused 5 (some .int) [(0, 7, 8, 34), (0, 7, 13, 36)] :: ws_all) ({ frames := 13, cells := mc, slots := ms, locals := 480 } : Room) (me_Pc [.ref bo, .int p0, .int p1, .int p2] D tb X z0 M n) (me_Qp D z0 (fun r1 M1 => r1 = (-5) ∧ M1 = M')) mc ms (me_A z0) := by
  refine me_openH (by decide) (Nat.le_of_ble_eq_true rfl) ?_
  intro p e s m args below meth c ls hC ht hr hlk hM hl
  have hl : lv_has ls 5 [(0, .ref bo), (1, .int p0), (2, .int p1), (3, .int p2)] := hl
  have hx := hC.1
  have hb := hC.2.1
  have hw := hC.2.2.2.2.1
  refine lv_aload_n hx hb dL_refused_0 rfl (lv_at hl 0 rfl) ?_
  refine lv_iload_n hx hb dL_refused_1 rfl (lv_at hl 1 rfl) ?_
  refine lv_iload_n hx hb dL_refused_2 rfl (lv_at hl 2 rfl) ?_
  refine lv_iload_n hx hb dL_refused_3 rfl (lv_at hl 3 rfl) ?_
  refine me_xcat (E0 := "java/lang/IndexOutOfBoundsException") (pre := []) (x := ⟨0, 7, 8, 34⟩) (suf := [⟨0, 7, 13, 36⟩]) (As := [.int p0, .int p1, .int p2]) (rest := []) hC hl.1 hM ct (kv_L_69 hw hrc hrs ⟨by show rm.frames + 1 ≤ 13; omega, by show 8 + (4 + 11) + rm.locals ≤ 480; omega⟩) rfl rfl he rfl (Nat.le_of_ble_eq_true rfl) dL_refused_4 ⟨by show 0 + mc ≤ mc; omega, by show 0 + ms ≤ ms; omega⟩ ht (fun z h => absurd h List.not_mem_nil) (by decide) (by decide) w_697 (va_Nw.use (by decide +kernel) (hCE s hC.2.2.2.2.2.1.2).2.1) (fun H locs n1 q hM => ?_)
  refine lv_astore (lv' := [(4, .ref q), (0, .ref bo), (1, .int p0), (2, .int p1), (3, .int p2)]) hx hb dL_refused_8 hl (by decide) rfl (fun ls hl => ?_)
  refine lv_bipush (v := (-5)) hx hb dL_refused_10 (by decide) ?_
  refine W.widen (k := mc) (n := ms) (by omega) (by omega) ?_
  exact me_pret hC hr hlk hM ⟨rfl, rfl⟩ rfl dL_refused_12
set_option maxHeartbeats 4000000 in
theorem c_L_refused_x2 (l : Launch) (D : va_G) (tb : Nat → ClassId) (X : State → Prop) (z0 n : Nat) (bo : Nat) (p0 p1 p2 : Int32) {M M' : me_M} {mc ms : Nat} {rm : Room} {fs : List Value} (hCE : ∀ U, X U → me_ce U) (hrc : rm.cells = mc) (hrs : rm.slots = ms) (hR : rm.frames ≤ 12 ∧ rm.locals ≤ 440) (he : M bo = some (.inr (7, fs))) (ct : vx_Met l yX7_refusal (.code yX7_refusal cX7_refusal 4 (some .int) :: ws_all) rm (me_Pc [.ref bo, .int p0, .int p1, .int p2] D tb X z0 M n) me_no (me_XC D z0 M' "java/lang/IllegalArgumentException") mc ms (me_A z0)) : Met l yL_refused (.codeWith yL_refused cL_refused 5 (some .int) [(0, 7, 8, 34), (0, 7, 13, 36)] :: ws_all) ({ frames := 13, cells := mc, slots := ms, locals := 480 } : Room) (me_Pc [.ref bo, .int p0, .int p1, .int p2] D tb X z0 M n) (me_Qp D z0 (fun r1 M1 => r1 = (-2) ∧ M1 = M')) mc ms (me_A z0) := by
  refine me_openH (by decide) (Nat.le_of_ble_eq_true rfl) ?_
  intro p e s m args below meth c ls hC ht hr hlk hM hl
  have hl : lv_has ls 5 [(0, .ref bo), (1, .int p0), (2, .int p1), (3, .int p2)] := hl
  have hx := hC.1
  have hb := hC.2.1
  have hw := hC.2.2.2.2.1
  refine lv_aload_n hx hb dL_refused_0 rfl (lv_at hl 0 rfl) ?_
  refine lv_iload_n hx hb dL_refused_1 rfl (lv_at hl 1 rfl) ?_
  refine lv_iload_n hx hb dL_refused_2 rfl (lv_at hl 2 rfl) ?_
  refine lv_iload_n hx hb dL_refused_3 rfl (lv_at hl 3 rfl) ?_
  refine me_xcat (E0 := "java/lang/IllegalArgumentException") (pre := [⟨0, 7, 8, 34⟩]) (x := ⟨0, 7, 13, 36⟩) (suf := []) (As := [.int p0, .int p1, .int p2]) (rest := []) hC hl.1 hM ct (kv_L_69 hw hrc hrs ⟨by show rm.frames + 1 ≤ 13; omega, by show 8 + (4 + 11) + rm.locals ≤ 480; omega⟩) rfl rfl he rfl (Nat.le_of_ble_eq_true rfl) dL_refused_4 ⟨by show 0 + mc ≤ mc; omega, by show 0 + ms ≤ ms; omega⟩ ht (fun z h => by
    simp only [List.mem_cons, List.not_mem_nil, or_false] at h
    subst h
    exact Or.inr ⟨by decide, "java/lang/IndexOutOfBoundsException", hw _ w_697, (hCE s hC.2.2.2.2.2.1.2).2.2.2.1⟩) (by decide) (by decide) w_698 (va_Nw.use (by decide +kernel) (hCE s hC.2.2.2.2.2.1.2).2.2.1) (fun H locs n1 q hM => ?_)
  refine lv_astore (lv' := [(4, .ref q), (0, .ref bo), (1, .int p0), (2, .int p1), (3, .int p2)]) hx hb dL_refused_13 hl (by decide) rfl (fun ls hl => ?_)
  refine lv_bipush (v := (-2)) hx hb dL_refused_15 (by decide) ?_
  refine W.widen (k := mc) (n := ms) (by omega) (by omega) ?_
  exact me_pret hC hr hlk hM ⟨rfl, rfl⟩ rfl dL_refused_17
