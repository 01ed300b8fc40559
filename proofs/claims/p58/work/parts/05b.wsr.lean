theorem ws_r1 {w : Cond} (i : Nat) (h : tables_1_1[i]? = some w) (g : goodWord w = true) : w ∈ ws_all := by
  have h := List.mem_of_getElem? h
  refine ws_m ?_ g
  show w ∈ k2_sels lw_privs ++ tables_1
  unfold tables_1
  exact List.mem_append_right _ (List.mem_append_left _ h)
theorem ws_r2 {w : Cond} (i : Nat) (h : tables_1_2[i]? = some w) (g : goodWord w = true) : w ∈ ws_all := by
  have h := List.mem_of_getElem? h
  refine ws_m ?_ g
  show w ∈ k2_sels lw_privs ++ tables_1
  unfold tables_1
  exact List.mem_append_right _ (List.mem_append_right _ (List.mem_append_left _ h))
theorem ws_r3 {w : Cond} (i : Nat) (h : tables_1_3[i]? = some w) (g : goodWord w = true) : w ∈ ws_all := by
  have h := List.mem_of_getElem? h
  refine ws_m ?_ g
  show w ∈ k2_sels lw_privs ++ tables_1
  unfold tables_1
  exact List.mem_append_right _ (List.mem_append_right _ (List.mem_append_right _ (List.mem_append_left _ h)))
theorem ws_r4 {w : Cond} (i : Nat) (h : tables_1_4[i]? = some w) (g : goodWord w = true) : w ∈ ws_all := by
  have h := List.mem_of_getElem? h
  refine ws_m ?_ g
  show w ∈ k2_sels lw_privs ++ tables_1
  unfold tables_1
  exact List.mem_append_right _ (List.mem_append_right _ (List.mem_append_right _ (List.mem_append_right _ (List.mem_append_left _ h))))
theorem ws_r5 {w : Cond} (i : Nat) (h : tables_1_5[i]? = some w) (g : goodWord w = true) : w ∈ ws_all := by
  have h := List.mem_of_getElem? h
  refine ws_m ?_ g
  show w ∈ k2_sels lw_privs ++ tables_1
  unfold tables_1
  exact List.mem_append_right _ (List.mem_append_right _ (List.mem_append_right _ (List.mem_append_right _ (List.mem_append_right _ (List.mem_append_left _ h)))))
theorem ws_r6 {w : Cond} (i : Nat) (h : tables_1_6[i]? = some w) (g : goodWord w = true) : w ∈ ws_all := by
  have h := List.mem_of_getElem? h
  refine ws_m ?_ g
  show w ∈ k2_sels lw_privs ++ tables_1
  unfold tables_1
  exact List.mem_append_right _ (List.mem_append_right _ (List.mem_append_right _ (List.mem_append_right _ (List.mem_append_right _ (List.mem_append_right _ h)))))
