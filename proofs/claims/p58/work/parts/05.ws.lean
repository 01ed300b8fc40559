/-! ===== the words that every method here is stated with: one list ===== -/
def ws_all : List Cond := lw_tbl.filter goodWord
theorem ws_m {w : Cond} (h : w ∈ lw_tbl) (g : goodWord w = true) : w ∈ ws_all := List.mem_filter.mpr ⟨h, g⟩
theorem ws_1 {w : Cond} (i : Nat) (h : (tables_1_1[i]? == some w && goodWord w) = true) : w ∈ ws_all := by
  simp only [Bool.and_eq_true, beq_iff_eq] at h
  have h := And.intro (List.mem_of_getElem? h.1) h.2
  have g := h.2
  have h := h.1
  refine ws_m ?_ g
  show w ∈ k2_sels lw_privs ++ tables_1
  unfold tables_1
  exact List.mem_append_right _ (List.mem_append_left _ h)
theorem ws_2 {w : Cond} (i : Nat) (h : (tables_1_2[i]? == some w && goodWord w) = true) : w ∈ ws_all := by
  simp only [Bool.and_eq_true, beq_iff_eq] at h
  have h := And.intro (List.mem_of_getElem? h.1) h.2
  have g := h.2
  have h := h.1
  refine ws_m ?_ g
  show w ∈ k2_sels lw_privs ++ tables_1
  unfold tables_1
  exact List.mem_append_right _ (List.mem_append_right _ (List.mem_append_left _ h))
theorem ws_3 {w : Cond} (i : Nat) (h : (tables_1_3[i]? == some w && goodWord w) = true) : w ∈ ws_all := by
  simp only [Bool.and_eq_true, beq_iff_eq] at h
  have h := And.intro (List.mem_of_getElem? h.1) h.2
  have g := h.2
  have h := h.1
  refine ws_m ?_ g
  show w ∈ k2_sels lw_privs ++ tables_1
  unfold tables_1
  exact List.mem_append_right _ (List.mem_append_right _ (List.mem_append_right _ (List.mem_append_left _ h)))
theorem ws_4 {w : Cond} (i : Nat) (h : (tables_1_4[i]? == some w && goodWord w) = true) : w ∈ ws_all := by
  simp only [Bool.and_eq_true, beq_iff_eq] at h
  have h := And.intro (List.mem_of_getElem? h.1) h.2
  have g := h.2
  have h := h.1
  refine ws_m ?_ g
  show w ∈ k2_sels lw_privs ++ tables_1
  unfold tables_1
  exact List.mem_append_right _ (List.mem_append_right _ (List.mem_append_right _ (List.mem_append_right _ (List.mem_append_left _ h))))
theorem ws_5 {w : Cond} (i : Nat) (h : (tables_1_5[i]? == some w && goodWord w) = true) : w ∈ ws_all := by
  simp only [Bool.and_eq_true, beq_iff_eq] at h
  have h := And.intro (List.mem_of_getElem? h.1) h.2
  have g := h.2
  have h := h.1
  refine ws_m ?_ g
  show w ∈ k2_sels lw_privs ++ tables_1
  unfold tables_1
  exact List.mem_append_right _ (List.mem_append_right _ (List.mem_append_right _ (List.mem_append_right _ (List.mem_append_right _ (List.mem_append_left _ h)))))
theorem ws_6 {w : Cond} (i : Nat) (h : (tables_1_6[i]? == some w && goodWord w) = true) : w ∈ ws_all := by
  simp only [Bool.and_eq_true, beq_iff_eq] at h
  have h := And.intro (List.mem_of_getElem? h.1) h.2
  have g := h.2
  have h := h.1
  refine ws_m ?_ g
  show w ∈ k2_sels lw_privs ++ tables_1
  unfold tables_1
  exact List.mem_append_right _ (List.mem_append_right _ (List.mem_append_right _ (List.mem_append_right _ (List.mem_append_right _ (List.mem_append_right _ h)))))
theorem ws_p {w : Cond} (i : Nat) (h : ((k2_sels lw_privs)[i]? == some w && goodWord w) = true) : w ∈ ws_all := by
  simp only [Bool.and_eq_true, beq_iff_eq] at h
  exact ws_m (List.mem_append_left _ (List.mem_of_getElem? h.1)) h.2
theorem ws_tbl : ∀ w ∈ ws_all, w ∈ lw_tbl := fun _ h => (List.mem_filter.mp h).1
theorem ws_good : ∀ w ∈ ws_all, goodWord w = true := fun _ h => (List.mem_filter.mp h).2
theorem ws_Good : GoodIn ws_all ws_all := fun w h => ⟨h, good_of_word (ws_good w h)⟩
theorem ws_Goodc {w : Cond} (hw : w ∈ ws_all) : GoodIn ws_all (w :: ws_all) := fun v h => (List.mem_cons.mp h).elim (fun e => e ▸ ws_Good w hw) (ws_Good v)
theorem ws_u {C : String} {T : u_T} {N : Nat} (h : ∀ k, k < N → u_lay C T k ∈ ws_all) : ∀ w ∈ u_ws C T N, w ∈ ws_all := by
  intro w hw
  simp only [u_ws, List.mem_map, List.mem_range] at hw
  obtain ⟨k, hk, rfl⟩ := hw
  exact h k hk
