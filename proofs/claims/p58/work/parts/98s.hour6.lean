section HI
variable {S B L P : Nat} {g w : Nat → Int32}
def bnd (B : Nat) (w : Nat → Int32) : Prop := ∀ b, b < B → ∃ a r t : Nat, a < 10 ∧ r < 6 ∧ t < 12 ∧ w (89 + 11 * b + 1) = nI a ∧ w (89 + 11 * b + 3) = nI r ∧ w (89 + 11 * b + 4) = nI t
theorem he_b : ∀ a : Fin 10, ∀ r : Fin 6, ∀ t : Fin 12, ∀ z y : Bool,
    (∃ r' : Fin 6, (if z = true then (if (nI r : Int32) + 1 = 6 then 0 else nI r + 1) else nI r) = nI r') ∧ (∃ t' : Fin 12, (if y = true then nI t else (if (nI t : Int32) + 1 = 12 then 0 else nI t + 1)) = nI t') ∧
     ∃ a' : Fin 10, (if ¬ y = true ∧ (nI t : Int32) + 1 = 12 then (if 9 < (if z = true ∧ (nI r : Int32) + 1 = 6 then (if (nI a : Int32) - 1 < 0 then 0 else nI a - 1) else nI a) + 1 then 9 else (if z = true ∧ (nI r : Int32) + 1 = 6 then (if (nI a : Int32) - 1 < 0 then 0 else nI a - 1) else nI a) + 1) else (if z = true ∧ (nI r : Int32) + 1 = 6 then (if (nI a : Int32) - 1 < 0 then 0 else nI a - 1) else nI a)) = nI a' := by decide +kernel
theorem bnd_fe (nz : Nat → Int32) {k : Nat} (hk : k < B) (h : bnd B w) : bnd B (feS nz k w) := by
  intro b hb
  obtain ⟨a, r, t, ha, hr, ht, h1, h3, h4⟩ := h k hk
  by_cases c : b = k
  · subst c
    obtain ⟨⟨r', e3⟩, ⟨t', e4⟩, a', e1⟩ := he_b ⟨a, ha⟩ ⟨r, hr⟩ ⟨t, ht⟩ (decide (nz (hm w b) = 0)) (decide (nz (hm w b) < 80))
    simp only [decide_eq_true_eq] at e1 e3 e4
    refine ⟨a', r', t', a'.2, r'.2, t'.2, ?_, ?_, ?_⟩
    · rw [fe_eq nz ha hr ht h1 h3 h4, upd_n (by omega), upd_n (by omega), upd_s, h1, h3, h4]
      exact e1
    · rw [fe_eq nz ha hr ht h1 h3 h4, upd_n (by omega), upd_s, h3]
      exact e3
    · rw [fe_eq nz ha hr ht h1 h3 h4, upd_s, h4]
      exact e4
  · obtain ⟨a2, r2, t2, z⟩ := h b hb
    obtain ⟨-, -, -, co⟩ := fe_c nz w k
    refine ⟨a2, r2, t2, ?_⟩
    rw [co _ (by omega) (by omega) (by omega), co _ (by omega) (by omega) (by omega), co _ (by omega) (by omega) (by omega)]
    exact z
theorem he_lp {nz : Nat → Int32} : ∀ (r k : Nat) (g w : Nat → Int32), k + r ≤ B → ag S B L P g w → wf w S B L P → bnd B w → (∀ j, j < S → g (9 + 10 * j + 5) = nz j) → ag S B L P (it heS r k g) (it (feS nz) r k w) ∧ wf (it (feS nz) r k w) S B L P ∧ bnd B (it (feS nz) r k w)
  | 0, _, _, _, _, h, hW, hb, _ => ⟨h, hW, hb⟩
  | r + 1, k, g, w, hk, h, hW, hb, hn => by
    obtain ⟨a, r0, t, ha, hr, ht, h1, h3, h4⟩ := hb k (by omega)
    have hm9 := (hW.2.2.2.2.2.2.2.2.1 k (by omega)).2
    have hS := hW.2.1
    have hB := hW.2.2.2.1
    refine he_lp r (k + 1) (heS k g) (feS nz k w) (by omega) (he_fe h nz (by omega) (hn _ hm9) ha hr ht h1 h3 h4) (wf_fe hW (by omega)) (bnd_fe nz (by omega) hb) (fun j hj => ?_)
    unfold heS
    rw [upd_n (by omega), upd_n (by omega), upd_n (by omega)]
    exact hn j hj
end HI
