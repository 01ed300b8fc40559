section HU
variable {S B L P : Nat}
theorem cl_b {x : Nat → Int32} {k b j : Nat} (hb : b < 12) (hj : j = 1 ∨ j = 3 ∨ j = 4) : clS k x (89 + 11 * b + j) = x (89 + 11 * b + j) := by
  show chS k (enS k x) (89 + 11 * b + j) = _
  rw [ch_cell (by omega) (by omega) (by omega), en_cell (by omega)]
theorem bnd_cl (hB : B ≤ 12) : ∀ (r k : Nat) (x : Nat → Int32), bnd B x → bnd B (it clS r k x)
  | 0, _, _, h => h
  | r + 1, k, x, h => bnd_cl hB r (k + 1) (clS k x) (fun b hb => by
    obtain ⟨a, r2, t, z⟩ := h b hb
    refine ⟨a, r2, t, ?_⟩
    rw [cl_b (by omega) (Or.inl rfl), cl_b (by omega) (Or.inr (Or.inl rfl)), cl_b (by omega) (Or.inr (Or.inr rfl))]
    exact z)
theorem hours_ag : ∀ (n : Nat) (g : Nat → Int32) (x : WN), ag S B L P g x.1 → wf x.1 S B L P → bnd B x.1 → ag S B L P (paG S B L P n g) (mpS S B L P n x).1 ∧ paN S B L P n g = mpN S B L P n x ∧ bnd B (mpS S B L P n x).1
  | 0, _, _, h, _, hb => ⟨h, rfl, hb⟩
  | n + 1, g, x, h, hW, hb => by
    obtain ⟨a1, a2, a3, a4⟩ := hour_ag x.2 h hW hb
    have hB := hW.2.2.2.1
    obtain ⟨z1, z2, z3⟩ := hours_ag n (hoS S B L P g) (hmS S B L P x) a1 (ag_clI (g := hmA S B L P x.1 x.2) ⟨fun _ _ => rfl, fun _ _ _ _ => rfl, fun _ _ _ _ => rfl, fun _ _ _ _ => rfl, fun _ _ _ _ => rfl⟩ a3).2 (bnd_cl hB L 0 _ a4)
    refine ⟨z1, ?_, z3⟩
    show chN L 0 (hoA S B L P g) + paN S B L P n (hoS S B L P g) = clN L 0 (hmA S B L P x.1 x.2) + mpN S B L P n (hmS S B L P x)
    rw [a2, z2]
end HU
