/-! ===== changes keep the agreement of two rows ===== -/
section AGU
variable {S B L P : Nat} {g w : Nat → Int32}
theorem upd_c {i q : Nat} {v v' : Int32} (hv : v = v') (h : g q = w q) : upd g i v q = upd w i v' q := by
  subst hv
  by_cases c : q = i
  · subst c; rw [upd_s, upd_s]
  · rw [upd_n c, upd_n c, h]
theorem ag_upd (h : ag S B L P g w) {i : Nat} {v v' : Int32} (hv : v = v') : ag S B L P (upd g i v) (upd w i v') :=
  ⟨fun i hi => upd_c hv (h.1 i hi), fun k j hk hj => upd_c hv (h.2.1 k j hk hj), fun k j hk hj => upd_c hv (h.2.2.1 k j hk hj), fun k j hk hj => upd_c hv (h.2.2.2.1 k j hk hj), fun k j hk hj => upd_c hv (h.2.2.2.2 k j hk hj)⟩
theorem ag_L (h : ag S B L P g w) (e : ∀ j, j < 5 → g (261 + 5 * L + j) = w (261 + 5 * L + j)) : ag S B (L + 1) P g w :=
  ⟨h.1, h.2.1, h.2.2.1, h.2.2.2.1, fun k j hk hj => by
    by_cases c : k = L
    · subst c; exact e j hj
    · exact h.2.2.2.2 k j (by omega) hj⟩
theorem ag_P (h : ag S B L P g w) (e : ∀ j, j < 4 → g (221 + 4 * P + j) = w (221 + 4 * P + j)) : ag S B L (P + 1) g w :=
  ⟨h.1, h.2.1, h.2.2.1, fun k j hk hj => by
    by_cases c : k = P
    · subst c; exact e j hj
    · exact h.2.2.2.1 k j (by omega) hj, h.2.2.2.2⟩
theorem ag_it {f f' : Nat → (Nat → Int32) → (Nat → Int32)} (hf : ∀ k g w, k < L → ag S B L P g w → wf w S B L P → ag S B L P (f k g) (f' k w) ∧ wf (f' k w) S B L P) : ∀ (r k : Nat) (g w : Nat → Int32), k + r ≤ L → ag S B L P g w → wf w S B L P → ag S B L P (it f r k g) (it f' r k w) ∧ wf (it f' r k w) S B L P
  | 0, _, _, _, _, h, hW => ⟨h, hW⟩
  | r + 1, k, g, w, hk, h, hW => ag_it hf r (k + 1) _ _ (by omega) (hf k g w (by omega) h hW).1 (hf k g w (by omega) h hW).2
theorem ag_ca (h : ag S B L P g w) (hW : wf w S B L P) {k : Nat} (hk : k < L) : ag S B L P (caS k g) (caS k w) := by
  have ho := (hW.2.2.2.2.2.2.2.2.2 k hk).2
  unfold caS
  rw [ag_ow h hk, h.2.2.1 _ 2 ho (by decide), h.2.2.2.2 k 3 hk (by decide)]
  exact ag_upd (ag_upd h rfl) rfl
theorem ag_py (h : ag S B L P g w) {b : Nat} (hb : b < B) (x : Int32) : ag S B L P (pyG b x g) (pyG b x w) := by
  unfold pyG
  exact ag_upd (ag_upd h (by rw [h.2.2.1 b 2 hb (by decide)])) (by rw [ag_n h (by decide : 7 < 9)])
theorem ag_rv (h : ag S B L P g w) (k : Nat) : ag S B L P (rvG k g) (rvG k w) := by
  unfold rvG
  exact ag_upd h rfl
theorem ag_al (h : ag S B L P g w) (hW : wf w S B L P) (f x : Int32) {k : Nat} (hk : k < L) : ag S B L P (alS f x k g) (alS f x k w) := by
  unfold alS
  have e := ag_hd h hk f x
  by_cases c : hdK w k f x
  · rw [if_pos c, if_pos (e.mpr c)]; exact ag_ca h hW hk
  · rw [if_neg c, if_neg (fun q => c (e.mp q))]; exact h
theorem ag_adA (h : ag S B L P g w) (hW : wf w S B L P) (s n : Nat) : ag S B L P (adA g L s n) (adA w L s n) ∧ wf (adA w L s n) S B L P := by
  unfold adA
  exact ag_it (f := alS (nI s) (nI n)) (f' := alS (nI s) (nI n)) (fun k g w hk h hW => ⟨ag_al h hW _ _ hk, wf_al hW hk⟩) L 0 g w (by omega) h hW
theorem ag_ad (h : ag S B L P g w) (hW : wf w S B L P) {b : Nat} (hb : b < B) (s n : Nat) : ag S B (L + 1) P (adF g L b s n) (adF w L b s n) := by
  obtain ⟨hA, hWA⟩ := ag_adA h hW s n
  unfold adF
  generalize adA g L s n = A at *
  generalize adA w L s n = A' at *
  have e1 := ag_pr hA hWA hb (nI n)
  have e2 := hA.2.2.1 b 2 hb (by decide)
  have e3 := ag_n hA (by decide : 6 < 9)
  rw [e1, e2, e3]
  generalize prF A' b (nI n) = pr
  refine ag_upd (ag_upd (ag_L (ag_upd (ag_upd (ag_upd (ag_upd (ag_upd hA rfl) rfl) rfl) rfl) rfl) (fun j hj => ?_)) rfl) rfl
  rcases (show j = 0 ∨ j = 1 ∨ j = 2 ∨ j = 3 ∨ j = 4 by omega) with rfl | rfl | rfl | rfl | rfl <;> simp [upd]
theorem ag_ws (h : ag S B L P g w) (k : Nat) : ag S B L P (wsG k g) (wsG k w) := ag_upd h rfl
theorem ag_ap (h : ag S B L P g w) {st s n : Int32} : ag S B L (P + 1) (apF g P st s n) (apF w P st s n) := by
  have e3 := ag_n h (by decide : 5 < 9)
  unfold apF
  rw [e3]
  refine ag_upd (ag_P (ag_upd (ag_upd (ag_upd (ag_upd h rfl) rfl) rfl) rfl) (fun j hj => ?_)) rfl
  rcases (show j = 0 ∨ j = 1 ∨ j = 2 ∨ j = 3 by omega) with rfl | rfl | rfl | rfl <;> simp [upd]
end AGU
