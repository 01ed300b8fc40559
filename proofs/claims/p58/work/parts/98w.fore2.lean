section FO2
variable {S B L P : Nat} {w w' w2 : Nat → Int32} {c : Int32}
/-- what a forecast from hour c on reads is the same in two rows -/
def fx (S B L P : Nat) (c : Int32) (w w' : Nat → Int32) : Prop := (∀ k, k < L → ∀ f, c ≤ f → (hdK w' k f 1 ↔ hdK w k f 1)) ∧ (∀ k, k < L → w' (261 + 5 * k) = w (261 + 5 * k)) ∧ (∀ b, b < B → w' (89 + 11 * b) = w (89 + 11 * b)) ∧ (∀ q, 221 ≤ q → q < 261 → w' q = w q) ∧ ∀ s, s < S → w' (9 + 10 * s) = w (9 + 10 * s) ∧ w' (9 + 10 * s + 1) = w (9 + 10 * s + 1)
theorem fx.rf : fx S B L P c w w := ⟨fun _ _ _ _ => Iff.rfl, fun _ _ => rfl, fun _ _ => rfl, fun _ _ _ => rfl, fun _ _ => ⟨rfl, rfl⟩⟩
theorem fx.tr (h : fx S B L P c w w') (h2 : fx S B L P c w' w2) : fx S B L P c w w2 :=
  ⟨fun k hk f hf => (h2.1 k hk f hf).trans (h.1 k hk f hf), fun k hk => (h2.2.1 k hk).trans (h.2.1 k hk), fun b hb => (h2.2.2.1 b hb).trans (h.2.2.1 b hb), fun q a b => (h2.2.2.2.1 q a b).trans (h.2.2.2.1 q a b), fun s hs => ⟨((h2.2.2.2.2 s hs).1).trans (h.2.2.2.2 s hs).1, ((h2.2.2.2.2 s hs).2).trans (h.2.2.2.2 s hs).2⟩⟩
theorem fx_no (h : fx S B L P c w w') (hW : wf w S B L P) {s : Nat} (hs : s < S) {x : Int32} (hx : c ≤ x) : noF w' L P s x = noF w L P s x := by
  have hP := hW.2.2.2.2.2.2.2.1
  have eh : hoF w' L x = hoF w L x := fi_eq L 0 (fun j _ hj => h.1 j (by omega) x hx)
  have ep : peF w' P (nI s) x = peF w P (nI s) x := fi_eq P 0 (fun j _ hj => by
    show cvK w' j (nI s) x ↔ cvK w j (nI s) x
    unfold cvK
    rw [h.2.2.2.1 (221 + 4 * j) (by omega) (by omega), h.2.2.2.1 (221 + 4 * j + 1) (by omega) (by omega), h.2.2.2.1 (221 + 4 * j + 2) (by omega) (by omega), h.2.2.2.1 (221 + 4 * j + 3) (by omega) (by omega)])
  unfold noF
  rw [eh, ep, (h.2.2.2.2 s hs).1, (h.2.2.2.2 s hs).2]
  by_cases c1 : hoF w L x = -1
  · simp only [c1, not_true_eq_false, false_and, if_false]
  · obtain ⟨k, hk, e, -⟩ := hoF_le w L x (by have := hW.2.2.2.2.2.1; omega) c1
    have hL := hW.2.2.2.2.2.1
    have e2 : (hoF w L x).toNatClampNeg = k := by rw [e]; exact nI_clamp (by omega)
    have e3 : ow w' k = ow w k := by
      show (w' (261 + 5 * k)).toNatClampNeg = (w (261 + 5 * k)).toNatClampNeg
      rw [h.2.1 k hk]
    rw [e2, e3, h.2.2.1 _ (hW.2.2.2.2.2.2.2.2.2 k hk).2]
end FO2
