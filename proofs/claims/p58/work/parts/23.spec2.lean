/-! ===== what a State answers: prices, reasons, noise ===== -/
def hm (g : Nat → Int32) (b : Nat) : Nat := (g (89 + 11 * b)).toNatClampNeg
def ow (g : Nat → Int32) (k : Nat) : Nat := (g (261 + 5 * k)).toNatClampNeg
/-- a State's numbers are in order: its counts, the homes of its borrowers, the borrowers of its loans -/
def wf (g : Nat → Int32) (S B L P : Nat) : Prop := g 3 = nI S ∧ S ≤ 8 ∧ g 4 = nI B ∧ B ≤ 12 ∧ g 6 = nI L ∧ L ≤ 30 ∧ g 5 = nI P ∧ P ≤ 10 ∧ (∀ b, b < B → g (89 + 11 * b) = nI (hm g b) ∧ hm g b < S) ∧ (∀ k, k < L → g (261 + 5 * k) = nI (ow g k) ∧ ow g k < B)
abbrev nh (h : Int32) : Prop := h - h / 24 * 24 ≤ 5 ∨ 22 ≤ h - h / 24 * 24
def prF (g : Nat → Int32) (b : Nat) (n : Int32) : Int32 := n * (g (9 + 10 * hm g b) / 10 + 1)
abbrev cdF (g : Nat → Int32) (b k : Nat) : Prop := g (261 + 5 * k + 4) = 0 ∧ g (89 + 11 * ow g k + 1) < g (89 + 11 * b + 1)
def fpF (g : Nat → Int32) (P b s n : Nat) : Int32 := fv (fun j => peF g P (g (89 + 11 * b)) (nI (s + j))) n 0
/-- the loan that holds an hour, if it can't be displaced by b -/
def obF (g : Nat → Int32) (L b : Nat) (h : Int32) : Int32 := if ¬ hoF g L h = -1 ∧ ¬ cdF g b (hoF g L h).toNatClampNeg then hoF g L h else -1
def foF (g : Nat → Int32) (L b s n : Nat) : Int32 := fv (fun j => obF g L b (nI (s + j))) n 0
def reF (g : Nat → Int32) (L P b s n : Nat) : Int32 :=
  if ¬ ovF g L (nI b) = -1 then 1 else if ¬ fpF g P b s n = -1 then 2 else if ¬ foF g L b s n = -1 then 3 else if g (89 + 11 * b + 2) < prF g b (nI n) then 4 else if g 6 = 30 then 5 else 0
def noF (g : Nat → Int32) (L P s : Nat) (h : Int32) : Int32 :=
  if ¬ hoF g L h = -1 ∧ g (89 + 11 * ow g (hoF g L h).toNatClampNeg) = nI s then 0
  else if peF g P (nI s) h = -1 then (if nh h then g (9 + 10 * s + 1) else g (9 + 10 * s)) else (if nh h then g (9 + 10 * s + 1) else g (9 + 10 * s)) + 40
/-- the earliest start from hour T on for n hours that displaces at most most loans -/
def eaF (g : Nat → Int32) (L P b n T : Nat) (most : Int32) : Int32 := fv (fun j => if nI (loF g L (nI (T + j)) (nI n)) ≤ most ∧ reF g L P b (T + j) n = 0 then nI (T + j) else -1) (49 - n) 0
theorem nI_nm1 {k : Nat} (h : k < 2 ^ 31) : ¬ nI k = -1 := by
  intro z
  have h1 := nI_toInt h
  rw [z] at h1
  have h2 : (-1 : Int32).toInt = -1 := by decide
  omega
/-- the street that a loan silences in an hour -/
def siF (g : Nat → Int32) (L : Nat) (h : Int32) : Int32 := if hoF g L h = -1 then -1 else g (89 + 11 * ow g (hoF g L h).toNatClampNeg)
/-- a street's noise where no loan holds the hour -/
def oNF (g : Nat → Int32) (P s : Nat) (h : Int32) : Int32 := if peF g P (nI s) h = -1 then (if nh h then g (9 + 10 * s + 1) else g (9 + 10 * s)) else (if nh h then g (9 + 10 * s + 1) else g (9 + 10 * s)) + 40
theorem no_si {g : Nat → Int32} {L P s : Nat} {h : Int32} (hs : s < 2 ^ 31) : noF g L P s h = if nI s = siF g L h then 0 else oNF g P s h := by
  unfold noF siF
  by_cases c : hoF g L h = -1
  · rw [if_neg (fun z => z.1 c), if_pos c, if_neg (nI_nm1 hs)]; rfl
  · rw [if_neg c]
    by_cases d : nI s = g (89 + 11 * ow g (hoF g L h).toNatClampNeg)
    · rw [if_pos ⟨c, d.symm⟩, if_pos d]
    · rw [if_neg (fun z => d z.2.symm), if_neg d]; rfl
