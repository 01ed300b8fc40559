/-! ===== what the methods of a State answer, in its numbers ===== -/
/-- the first value that is not -1, among r places from k on -/
def fv (F : Nat → Int32) : Nat → Nat → Int32
  | 0, _ => -1
  | r + 1, k => if F k = -1 then fv F r (k + 1) else F k
theorem fv_t {F : Nat → Int32} {r k : Nat} (h : ¬ F k = -1) : fv F (r + 1) k = F k := by simp [fv, h]
theorem fv_f {F : Nat → Int32} {r k : Nat} (h : F k = -1) : fv F (r + 1) k = fv F r (k + 1) := by simp [fv, h]
theorem fi_some {P : Nat → Prop} [DecidablePred P] : ∀ {r k : Nat}, ¬ fi P r k = -1 → k + r < 2 ^ 31 → ∃ j, k ≤ j ∧ j < k + r ∧ fi P r k = nI j ∧ P j
  | 0, k, h, _ => absurd rfl h
  | r + 1, k, h, hb => by
    by_cases hk : P k
    · exact ⟨k, Nat.le_refl _, by omega, fi_t hk, hk⟩
    · rw [fi_f hk] at h
      obtain ⟨j, h1, h2, h3, h4⟩ := fi_some h (by omega)
      exact ⟨j, by omega, by omega, (fi_f hk).trans h3, h4⟩
abbrev hdK (g : Nat → Int32) (k : Nat) (f h : Int32) : Prop := hd (g (261 + 5 * k + 4)) (g (261 + 5 * k + 1)) (g (261 + 5 * k + 2)) f h
abbrev cvK (g : Nat → Int32) (k : Nat) (f h : Int32) : Prop := cv (bz (g (221 + 4 * k + 3))) (g (221 + 4 * k)) (g (221 + 4 * k + 1)) (g (221 + 4 * k + 2)) f h
/-- the loan that holds an hour -/
def hoF (g : Nat → Int32) (L : Nat) (h : Int32) : Int32 := fi (fun k => hdK g k h 1) L 0
def loF (g : Nat → Int32) (L : Nat) (f h : Int32) : Nat := co (fun k => hdK g k f h) L 0
def peF (g : Nat → Int32) (P : Nat) (f h : Int32) : Int32 := fi (fun k => cvK g k f h) P 0
def leF (g : Nat → Int32) (L : Nat) : Nat := co (fun i => ¬ hoF g L (g 2 + nI i) = -1) 48 0
def twF (g : Nat → Int32) (L : Nat) : Nat := co (fun i => (1 : Int32) < nI (loF g L (g 2 + nI i) 1)) 48 0
def ovF (g : Nat → Int32) (L : Nat) (b : Int32) : Int32 := fi (fun k => g (261 + 5 * k) = b ∧ g (261 + 5 * k + 4) = 4) L 0
theorem hoF_le (g : Nat → Int32) (L : Nat) (h : Int32) (hL : L < 2 ^ 31) (hn : ¬ hoF g L h = -1) : ∃ k, k < L ∧ hoF g L h = nI k ∧ hdK g k h 1 := by
  obtain ⟨j, h1, h2, h3, h4⟩ := fi_some (P := fun k => hdK g k h 1) hn (by omega)
  exact ⟨j, by omega, h3, h4⟩
