section HE
variable {S B L P : Nat} {g w : Nat → Int32}
def rI1 (n r : Int32) : Int32 := r + (if n = 0 then 1 else 0)
def iI1 (n r i : Int32) : Int32 := if rI1 n r = 6 then i - (if 0 < i then 1 else 0) else i
def tI1 (n t : Int32) : Int32 := t + (if n < 80 then 0 else 1)
theorem fe_c (nz w : Nat → Int32) (k : Nat) : feS nz k w (89 + 11 * k + 3) = (if rI1 (nz (hm w k)) (w (89 + 11 * k + 3)) = 6 then 0 else rI1 (nz (hm w k)) (w (89 + 11 * k + 3))) ∧ feS nz k w (89 + 11 * k + 4) = (if tI1 (nz (hm w k)) (w (89 + 11 * k + 4)) = 12 then 0 else tI1 (nz (hm w k)) (w (89 + 11 * k + 4))) ∧ feS nz k w (89 + 11 * k + 1) = (if tI1 (nz (hm w k)) (w (89 + 11 * k + 4)) = 12 then iI1 (nz (hm w k)) (w (89 + 11 * k + 3)) (w (89 + 11 * k + 1)) + (if iI1 (nz (hm w k)) (w (89 + 11 * k + 3)) (w (89 + 11 * k + 1)) < 9 then 1 else 0) else iI1 (nz (hm w k)) (w (89 + 11 * k + 3)) (w (89 + 11 * k + 1))) ∧ ∀ q, q ≠ 89 + 11 * k + 1 → q ≠ 89 + 11 * k + 3 → q ≠ 89 + 11 * k + 4 → feS nz k w q = w q := by
  unfold feS fe4 fe3 fe2 fe1 iI1 tI1 rI1
  generalize nz (hm w k) = n
  simp only [upd_s]
  by_cases c1 : w (89 + 11 * k + 3) + (if n = 0 then 1 else 0) = 6
  · simp only [c1, if_true]
    by_cases c2 : w (89 + 11 * k + 4) + (if n < 80 then 0 else 1) = 12
    · refine ⟨?_, ?_, ?_, fun q h1 h3 h4 => ?_⟩ <;> simp [upd, c2, *]
    · refine ⟨?_, ?_, ?_, fun q h1 h3 h4 => ?_⟩ <;> simp [upd, c2, *]
  · simp only [c1, if_false]
    by_cases c2 : w (89 + 11 * k + 4) + (if n < 80 then 0 else 1) = 12
    · refine ⟨?_, ?_, ?_, fun q h1 h3 h4 => ?_⟩ <;> simp [upd, c2, *]
    · refine ⟨?_, ?_, ?_, fun q h1 h3 h4 => ?_⟩ <;> simp [upd, c2, *]
theorem he_v : ∀ a : Fin 10, ∀ r : Fin 6, ∀ t : Fin 12, ∀ z y : Bool, (z = true → y = true) →
    (let ri : Int32 := nI r + (if z then 1 else 0); let ti : Int32 := nI t + (if y then 0 else 1); let ii : Int32 := if ri = 6 then nI a - (if 0 < nI a then 1 else 0) else nI a
     (if z then (if (nI r : Int32) + 1 = 6 then 0 else nI r + 1) else nI r) = (if ri = 6 then 0 else ri) ∧ (if y then nI t else (if (nI t : Int32) + 1 = 12 then 0 else nI t + 1)) = (if ti = 12 then 0 else ti) ∧
     (let j : Int32 := if z ∧ (nI r : Int32) + 1 = 6 then (if (nI a : Int32) - 1 < 0 then 0 else nI a - 1) else nI a
      (if ¬ y ∧ (nI t : Int32) + 1 = 12 then (if 9 < j + 1 then 9 else j + 1) else j) = (if ti = 12 then ii + (if ii < 9 then 1 else 0) else ii))) := by decide +kernel
end HE
