/-! ===== what the bureau answers ===== -/
/-- the first of the greatest values of r places from k on, best so far b -/
def bsF (F : Nat → Int32) : Nat → Nat → Int32 → Int32
  | 0, _, b => b
  | r + 1, k, b => bsF F r (k + 1) (if b = -1 ∨ F b.toNatClampNeg < F k then nI k else b)
def loudF (g : Nat → Int32) (S : Nat) : Int32 := bsF (fun k => g (9 + 10 * k + 2)) S 0 (-1)
def illF (g : Nat → Int32) (B : Nat) : Int32 := bsF (fun k => g (89 + 11 * k + 1)) B 0 (-1)
def ovN (g : Nat → Int32) (L b : Nat) : Nat := co (fun k => g (261 + 5 * k) = nI b ∧ g (261 + 5 * k + 4) = 4) L 0
theorem reF_01 (g : Nat → Int32) (L P b s n : Nat) : reF g L P b s n = 0 ∨ reF g L P b s n = 1 ∨ reF g L P b s n = 2 ∨ reF g L P b s n = 3 ∨ reF g L P b s n = 4 ∨ reF g L P b s n = 5 := by
  unfold reF
  split
  · simp
  split
  · simp
  split
  · simp
  split
  · simp
  split <;> simp
def cauF (g : Nat → Int32) (L P b s n : Nat) : Int32 :=
  if reF g L P b s n = 1 then ovF g L (nI b) else if reF g L P b s n = 2 then fpF g P b s n else if reF g L P b s n = 3 then foF g L b s n else if reF g L P b s n = 4 then prF g b (nI n) - g (89 + 11 * b + 2) else -1
def dispF (g : Nat → Int32) (L P b s n : Nat) : Int32 := if reF g L P b s n = 0 then nI (loF g L (nI s) (nI n)) else -1
theorem reF_L {g : Nat → Int32} {S B L P b s n : Nat} (hW : wf g S B L P) (h : reF g L P b s n = 0) : L < 30 := by
  obtain ⟨-, -, -, -, h6, h7, -⟩ := hW
  rcases Nat.lt_or_ge L 30 with c | c
  · exact c
  · have e : L = 30 := by omega
    subst e
    exfalso
    unfold reF at h
    rw [if_pos (show g 6 = 30 from h6)] at h
    revert h
    split
    · decide
    split
    · decide
    split
    · decide
    split
    · decide
    · decide
/-- the history after a change: the present numbers at the next place -/
def recG (G : Nat → Nat → Int32) (g : Nat → Int32) (S B L P nx : Nat) : Nat → Nat → Int32 := updG G (1 + nx) (cpF g S B L P (G (1 + nx)))
def recF (F : Nat → Int32) (nx ct : Nat) : Nat → Int32 := upd (upd F 4 (nI ((nx + 1) % 10))) 5 (nI (min (ct + 1) 10))
