section HF
variable {S B L P : Nat} {g w : Nat → Int32}
theorem fe_eq (nz : Nat → Int32) {k a r t : Nat} (ha : a < 10) (hr : r < 6) (ht : t < 12) (h1 : w (89 + 11 * k + 1) = nI a) (h3 : w (89 + 11 * k + 3) = nI r) (h4 : w (89 + 11 * k + 4) = nI t) : feS nz k w = upd (upd (upd w (89 + 11 * k + 1) (hrI (nz (hm w k)) (w (89 + 11 * k + 1)) (w (89 + 11 * k + 3)) (w (89 + 11 * k + 4)))) (89 + 11 * k + 3) (hrR (nz (hm w k)) (w (89 + 11 * k + 3)))) (89 + 11 * k + 4) (hrT (nz (hm w k)) (w (89 + 11 * k + 4))) := by
  obtain ⟨c3, c4, c1, co⟩ := fe_c nz w k
  generalize nz (hm w k) = n at *
  have v := he_v ⟨a, ha⟩ ⟨r, hr⟩ ⟨t, ht⟩ (decide (n = 0)) (decide (n < 80)) (by
    intro z
    have z := of_decide_eq_true z
    subst z
    decide)
  simp only [decide_eq_true_eq] at v
  obtain ⟨v3, v4, v1⟩ := v
  rw [h1, h3, h4] at *
  funext q
  by_cases q4 : q = 89 + 11 * k + 4
  · subst q4
    rw [upd_s, c4]
    exact v4.symm
  rw [upd_n q4]
  by_cases q3 : q = 89 + 11 * k + 3
  · subst q3
    rw [upd_s, c3]
    exact v3.symm
  rw [upd_n q3]
  by_cases q1 : q = 89 + 11 * k + 1
  · subst q1
    rw [upd_s, c1]
    exact v1.symm
  rw [upd_n q1]
  exact co q q1 q3 q4
theorem he_fe (h : ag S B L P g w) (nz : Nat → Int32) {k a r t : Nat} (hk : k < B) (hn : g (9 + 10 * hm w k + 5) = nz (hm w k)) (ha : a < 10) (hr : r < 6) (ht : t < 12) (h1 : w (89 + 11 * k + 1) = nI a) (h3 : w (89 + 11 * k + 3) = nI r) (h4 : w (89 + 11 * k + 4) = nI t) : ag S B L P (heS k g) (feS nz k w) := by
  rw [fe_eq nz ha hr ht h1 h3 h4]
  unfold heS
  rw [ag_hm h hk, hn, h.2.2.1 k 1 hk (by decide), h.2.2.1 k 3 hk (by decide), h.2.2.1 k 4 hk (by decide)]
  exact ag_upd (ag_upd (ag_upd h rfl) rfl) rfl
end HF
