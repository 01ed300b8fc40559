/-! ===== the forecast: an hour that passes moves no holder of a later hour ===== -/
section FO
variable {w : Nat → Int32}
theorem hd_bg (j k : Nat) (f h : Int32) : hdK (bgS j w) k f h ↔ hdK w k f h := by
  unfold bgS
  by_cases c : bgP w j
  · rw [if_pos c]
    by_cases e : k = j
    · subst e
      show hd (upd w (261 + 5 * k + 4) 1 (261 + 5 * k + 4)) (upd w (261 + 5 * k + 4) 1 (261 + 5 * k + 1)) (upd w (261 + 5 * k + 4) 1 (261 + 5 * k + 2)) f h ↔ _
      rw [upd_s, upd_n (by omega), upd_n (by omega)]
      show ((1 : Int32) = 0 ∨ (1 : Int32) = 1) ∧ _ ↔ (w (261 + 5 * k + 4) = 0 ∨ w (261 + 5 * k + 4) = 1) ∧ _
      exact ⟨fun z => ⟨Or.inl c.1, z.2⟩, fun z => ⟨Or.inr rfl, z.2⟩⟩
    · show hd (upd w (261 + 5 * j + 4) 1 (261 + 5 * k + 4)) (upd w (261 + 5 * j + 4) 1 (261 + 5 * k + 1)) (upd w (261 + 5 * j + 4) 1 (261 + 5 * k + 2)) f h ↔ _
      rw [upd_n (by omega), upd_n (by omega), upd_n (by omega)]
  · rw [if_neg c]
theorem hd_en (j k : Nat) (f h : Int32) (hf : w 2 ≤ f) : hdK (enS j w) k f h ↔ hdK w k f h := by
  unfold enS
  by_cases c : enP w j
  · rw [if_pos c]
    by_cases e : k = j
    · subst e
      show hd (upd w (261 + 5 * k + 4) 2 (261 + 5 * k + 4)) (upd w (261 + 5 * k + 4) 2 (261 + 5 * k + 1)) (upd w (261 + 5 * k + 4) 2 (261 + 5 * k + 2)) f h ↔ _
      rw [upd_s, upd_n (by omega), upd_n (by omega)]
      refine ⟨fun z => absurd z.1 (by decide), fun z => ?_⟩
      have z3 := z.2.2
      rw [c.2, Int32.lt_iff_toInt_lt] at z3
      rw [Int32.le_iff_toInt_le] at hf
      omega
    · show hd (upd w (261 + 5 * j + 4) 2 (261 + 5 * k + 4)) (upd w (261 + 5 * j + 4) 2 (261 + 5 * k + 1)) (upd w (261 + 5 * j + 4) 2 (261 + 5 * k + 2)) f h ↔ _
      rw [upd_n (by omega), upd_n (by omega), upd_n (by omega)]
  · rw [if_neg c]
theorem hd_ch {S B L P : Nat} (hW : wf w S B L P) {j : Nat} (hj : j < L) (k : Nat) (f h : Int32) : hdK (chS j w) k f h ↔ hdK w k f h := by
  have ho := (hW.2.2.2.2.2.2.2.2.2 j hj).2
  have hB := hW.2.2.2.1
  by_cases c : laP w j
  · have q : chS j w = upd (upd (upd w (261 + 5 * j + 4) 4) (89 + 11 * ow w j + 2) (w (89 + 11 * ow w j + 2) - w 1)) 8 (w 8 + w 1) := if_pos c
    by_cases e : k = j
    · subst e
      show hd (chS k w (261 + 5 * k + 4)) (chS k w (261 + 5 * k + 1)) (chS k w (261 + 5 * k + 2)) f h ↔ hd (w (261 + 5 * k + 4)) (w (261 + 5 * k + 1)) (w (261 + 5 * k + 2)) f h
      have e4 : chS k w (261 + 5 * k + 4) = 4 := by rw [q, upd_n (by omega), upd_n (by omega), upd_s]
      rw [e4, c.1]
      exact ⟨fun z => absurd z.1 (by decide), fun z => absurd z.1 (by decide)⟩
    · show hd (chS j w (261 + 5 * k + 4)) (chS j w (261 + 5 * k + 1)) (chS j w (261 + 5 * k + 2)) f h ↔ _
      rw [ch_cell (by omega) (by omega) (by omega), ch_cell (by omega) (by omega) (by omega), ch_cell (by omega) (by omega) (by omega)]
  · have q : chS j w = w := if_neg c
    rw [q]
end FO
