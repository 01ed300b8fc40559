/-! ===== both begin alike ===== -/
section H0
theorem hz_1 : ∀ i, i < 9 → rG ftY i = iwZ.1 i := by decide +kernel
theorem hz_2 : ∀ k, k < 2 → ∀ j, j < 4 → rG ftY (9 + 10 * k + j) = iwZ.1 (9 + 10 * k + j) := by decide +kernel
theorem hz_3 : ∀ k, k < 3 → ∀ j, j < 5 → rG ftY (89 + 11 * k + j) = iwZ.1 (89 + 11 * k + j) := by decide +kernel
theorem hz_4 : ∀ k, k < 1 → ∀ j, j < 4 → rG ftY (221 + 4 * k + j) = iwZ.1 (221 + 4 * k + j) := by decide +kernel
theorem hz_5 : ∀ k, k < 2 → ∀ j, j < 5 → rG ftY (261 + 5 * k + j) = iwZ.1 (261 + 5 * k + j) := by decide +kernel
theorem hz_6 : ∀ k, k < 2 → (∀ i, i < 3 → ltP (iwZ.1 (9 + 10 * k + 4 + i))) ∧ (∀ i, i < 6 → 3 ≤ i → iwZ.1 (9 + 10 * k + 4 + i) = 0) ∧ rG ftY (9 + 10 * k + 4) = nI (pkN (fun i => iwZ.1 (9 + 10 * k + 4 + i)) 3) := by decide +kernel
theorem hz_7 : ∀ k, k < 3 → (∀ i, i < 3 → ltP (iwZ.1 (89 + 11 * k + 5 + i))) ∧ (∀ i, i < 6 → 3 ≤ i → iwZ.1 (89 + 11 * k + 5 + i) = 0) ∧ rG ftY (89 + 11 * k + 5) = nI (pkN (fun i => iwZ.1 (89 + 11 * k + 5 + i)) 3) := by decide +kernel
theorem hz_8 : ∀ k, k < 3 → iwM (89 + 11 * k + 1) = nI ([3, 7, 2].getD k 0) ∧ iwM (89 + 11 * k + 3) = nI 0 ∧ iwM (89 + 11 * k + 4) = nI 0 := by decide +kernel
theorem hz_9 : iwZ.1 1 = nI 5 ∧ (∀ k, k < 2 → iwZ.1 (9 + 10 * k) = nI ([60, 85].getD k 0)) ∧ (∀ k, k < 2 → iwZ.1 (261 + 5 * k + 3) = nI ([14, 27].getD k 0)) ∧ ∀ b, b < 3 → (iwZ.1 (89 + 11 * b + 2)).toInt = [26, 63, 50].getD b 0 := by decide +kernel
theorem oi_Z : ok1 2 3 2 1 5 iwZ.1 := ok_pS 5 0 (iwM, zz) oi_M
theorem hz_b : bnd 3 iwM := fun b hb => by
  obtain ⟨h1, h2, h3⟩ := hz_8 b hb
  rcases (show b = 0 ∨ b = 1 ∨ b = 2 by omega) with rfl | rfl | rfl
  · exact ⟨3, 0, 0, by decide, by decide, by decide, h1, h2, h3⟩
  · exact ⟨7, 0, 0, by decide, by decide, by decide, h1, h2, h3⟩
  · exact ⟨2, 0, 0, by decide, by decide, by decide, h1, h2, h3⟩
theorem rv_h0 : RV 1000 2 3 2 1 (rG ftY) iwZ.1 := by
  refine ⟨⟨hz_1, fun k j hk hj => hz_2 k hk j hj, fun k j hk hj => hz_3 k hk j hj, fun k j hk hj => hz_4 k hk j hj, fun k j hk hj => hz_5 k hk j hj⟩, ?_, ⟨fun k hk => ?_, fun k hk => ?_⟩, ?_⟩
  · exact (hours_ag 5 iwM (iwM, zz) ⟨fun _ _ => rfl, fun _ _ _ _ => rfl, fun _ _ _ _ => rfl, fun _ _ _ _ => rfl, fun _ _ _ _ => rfl⟩ oi_M.1 hz_b).2.2
  · obtain ⟨h1, h2, h3⟩ := hz_6 k hk
    exact ⟨3, by decide, by decide, h1, fun i a b => h2 i b a, h3⟩
  · obtain ⟨h1, h2, h3⟩ := hz_7 k hk
    exact ⟨3, by decide, by decide, h1, fun i a b => h2 i b a, h3⟩
  · obtain ⟨h1, h2, h3, h4⟩ := hz_9
    refine ⟨⟨5, by decide, h1⟩, fun k hk => ⟨_, ?_, h2 k hk⟩, fun k hk => ⟨_, ?_, h3 k hk⟩, fun b hb => ?_⟩
    · rcases (show k = 0 ∨ k = 1 by omega) with rfl | rfl <;> decide
    · rcases (show k = 0 ∨ k = 1 by omega) with rfl | rfl <;> decide
    · rw [h4 b hb]
      rcases (show b = 0 ∨ b = 1 ∨ b = 2 by omega) with rfl | rfl | rfl <;> decide
end H0
