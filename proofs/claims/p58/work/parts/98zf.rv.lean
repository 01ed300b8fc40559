theorem ti_bm {x : Int} (h1 : -2147483648 ≤ x) (h2 : x < 2147483648) : x.bmod (2 ^ 32) = x := by
  apply Int.bmod_eq_of_le
  · have : (((2 ^ 32 : Nat) : Int) / 2) = 2147483648 := by decide
    omega
  · have : ((((2 ^ 32 : Nat) : Int) + 1) / 2) = 2147483648 := by decide
    omega
theorem ti_sub {x : Int32} {N f : Nat} (hN : N ≤ 2000000000) (h1 : -(N : Int) ≤ x.toInt) (h2 : x.toInt ≤ N) (hf : f ≤ 1000) : (x - nI f).toInt = x.toInt - f := by
  rw [Int32.toInt_sub, nI_toInt (by omega)]
  exact ti_bm (by omega) (by omega)
theorem ti_add {x : Int32} {N f : Nat} (hN : N ≤ 2000000000) (h1 : -(N : Int) ≤ x.toInt) (h2 : x.toInt ≤ N) (hf : f ≤ 1000) : (x + nI f).toInt = x.toInt + f := by
  rw [Int32.toInt_add, nI_toInt (by omega)]
  exact ti_bm (by omega) (by omega)
/-- what a walk leaves alone, in its range -/
theorem it_kb {f : Nat → (Nat → Int32) → (Nat → Int32)} {i : Nat} : ∀ (r k : Nat) (g : Nat → Int32), (∀ j g, k ≤ j → j < k + r → f j g i = g i) → it f r k g i = g i
  | 0, _, _, _ => rfl
  | r + 1, k, g, h => (it_kb r (k + 1) (f k g) (fun j g a b => h j g (by omega) (by omega))).trans (h k g (Nat.le_refl _) (by omega))
section RV0
variable {N N' S B L P k b : Nat} {g g' w w' sl : Nat → Int32} {v : Int32}
theorem sm_it4 {h0 c : Int32} : ∀ (r k : Nat) (x : WN) (q : Nat), (∀ j, k ≤ j → j < k + r → q ≠ 9 + 10 * j + 2 ∧ q ≠ 9 + 10 * j + 3) → (it (smZ L P h0 c) r k x).1 q = x.1 q
  | 0, _, _, _, _ => rfl
  | r + 1, k, x, q, h => by
    have z := h k (by omega) (by omega)
    have e : smW L P h0 c k x.1 q = x.1 q := sm_o z.1 z.2
    exact (sm_it4 r (k + 1) (smZ L P h0 c k x) q (fun j a b => h j (by omega) (by omega))).trans e
theorem bg_cell {j q : Nat} (h : q ≠ 261 + 5 * j + 4) : bgS j w q = w q := by
  unfold bgS; split
  · exact upd_n h
  · rfl
/-- the model's hour, before its last loop -/
theorem hA_o (nz : Nat → Int32) {q : Nat} (hS : S ≤ 8) (hB : B ≤ 12) (h2 : q ≠ 2) (hb : ∀ j, q ≠ 261 + 5 * j + 4) (hs : ∀ j, j < 8 → q ≠ 9 + 10 * j + 2 ∧ q ≠ 9 + 10 * j + 3) (hf : ∀ j, j < 12 → q ≠ 89 + 11 * j + 1 ∧ q ≠ 89 + 11 * j + 3 ∧ q ≠ 89 + 11 * j + 4) : hmA S B L P w nz q = w q := by
  unfold hmA
  rw [upd_n h2]
  unfold hmF
  rw [fe_o B 0 _ q (fun j _ hj => hf j (by omega))]
  unfold soM
  rw [sm_it4 S 0 _ q (fun j _ hj => hs j (by omega))]
  exact it_kb L 0 w (fun j g _ _ => bg_cell (hb j))
end RV0

