/-! ===== the forecast: an hour that passes moves no holder of a later hour ===== -/
section FO
variable {w : Nat → Int32}
theorem hd_bg (j k : Nat) (f h : Int32) : hdK (bgS j w) k f h ↔ hdK w k f h := by
  unfold bgS
  by_cases c : bgP w j
  · rw [if_pos c]
    by_cases e : k = j
    · subst e
      show hd (upd w (261 + 5 * k + 4) 1 (261 + 5 * k + 4)) (upd w (261 + 5 * k + 4) 1 (261 + 5 * k + 1)) (upd w (261 + 5 * k + 4) 1 (261 + 5 * k + 2)) f h ↔ _
      rw [upd_s, upd_n (by omega), upd_n (by omega)]
      show ((1 : Int32) = 0 ∨ (1 : Int32) = 1) ∧ _ ↔ (w (261 + 5 * k + 4) = 0 ∨ w (261 + 5 * k + 4) = 1) ∧ _
      exact ⟨fun z => ⟨Or.inl c.1, z.2⟩, fun z => ⟨Or.inr rfl, z.2⟩⟩
    · show hd (upd w (261 + 5 * j + 4) 1 (261 + 5 * k + 4)) (upd w (261 + 5 * j + 4) 1 (261 + 5 * k + 1)) (upd w (261 + 5 * j + 4) 1 (261 + 5 * k + 2)) f h ↔ _
      rw [upd_n (by omega), upd_n (by omega), upd_n (by omega)]
  · rw [if_neg c]
end FO
