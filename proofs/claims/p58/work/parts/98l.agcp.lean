/-! ===== a copied row agrees with the row it is copied from ===== -/
theorem it_cpSt (g2 : Nat → Int32) : ∀ (r k : Nat) (g : Nat → Int32), (∀ j i, k ≤ j → j < k + r → i < 5 → it (cpSt g2) r k g (9 + 10 * j + i) = g2 (9 + 10 * j + i)) ∧ ∀ q, (q < 9 + 10 * k ∨ 9 + 10 * (k + r) ≤ q) → it (cpSt g2) r k g q = g q
  | 0, k, g => ⟨fun j i a b _ => by omega, fun q _ => rfl⟩
  | r + 1, k, g => by
    obtain ⟨h1, h2⟩ := it_cpSt g2 r (k + 1) (cpSt g2 k g)
    refine ⟨fun j i a b hi => ?_, fun q hq => ?_⟩
    · show it (cpSt g2) r (k + 1) (cpSt g2 k g) _ = _
      by_cases c : j = k
      · subst c
        rw [h2 _ (Or.inl (by omega))]
        unfold cpSt
        rcases (show i = 0 ∨ i = 1 ∨ i = 2 ∨ i = 3 ∨ i = 4 by omega) with rfl | rfl | rfl | rfl | rfl <;> simp [upd]
      · exact h1 j i (by omega) (by omega) hi
    · show it (cpSt g2) r (k + 1) (cpSt g2 k g) q = g q
      rw [h2 q (by omega)]
      unfold cpSt
      rw [upd_n (by omega), upd_n (by omega), upd_n (by omega), upd_n (by omega), upd_n (by omega)]
theorem it_cpBo (g2 : Nat → Int32) : ∀ (r k : Nat) (g : Nat → Int32), (∀ j i, k ≤ j → j < k + r → i < 6 → it (cpBo g2) r k g (89 + 11 * j + i) = g2 (89 + 11 * j + i)) ∧ ∀ q, (q < 89 + 11 * k ∨ 89 + 11 * (k + r) ≤ q) → it (cpBo g2) r k g q = g q
  | 0, k, g => ⟨fun j i a b _ => by omega, fun q _ => rfl⟩
  | r + 1, k, g => by
    obtain ⟨h1, h2⟩ := it_cpBo g2 r (k + 1) (cpBo g2 k g)
    refine ⟨fun j i a b hi => ?_, fun q hq => ?_⟩
    · show it (cpBo g2) r (k + 1) (cpBo g2 k g) _ = _
      by_cases c : j = k
      · subst c
        rw [h2 _ (Or.inl (by omega))]
        unfold cpBo
        rcases (show i = 0 ∨ i = 1 ∨ i = 2 ∨ i = 3 ∨ i = 4 ∨ i = 5 by omega) with rfl | rfl | rfl | rfl | rfl | rfl <;> simp [upd]
      · exact h1 j i (by omega) (by omega) hi
    · show it (cpBo g2) r (k + 1) (cpBo g2 k g) q = g q
      rw [h2 q (by omega)]
      unfold cpBo
      rw [upd_n (by omega), upd_n (by omega), upd_n (by omega), upd_n (by omega), upd_n (by omega), upd_n (by omega)]
theorem it_cpLn (g2 : Nat → Int32) : ∀ (r k : Nat) (g : Nat → Int32), (∀ j i, k ≤ j → j < k + r → i < 5 → it (cpLn g2) r k g (261 + 5 * j + i) = g2 (261 + 5 * j + i)) ∧ ∀ q, (q < 261 + 5 * k ∨ 261 + 5 * (k + r) ≤ q) → it (cpLn g2) r k g q = g q
  | 0, k, g => ⟨fun j i a b _ => by omega, fun q _ => rfl⟩
  | r + 1, k, g => by
    obtain ⟨h1, h2⟩ := it_cpLn g2 r (k + 1) (cpLn g2 k g)
    refine ⟨fun j i a b hi => ?_, fun q hq => ?_⟩
    · show it (cpLn g2) r (k + 1) (cpLn g2 k g) _ = _
      by_cases c : j = k
      · subst c
        rw [h2 _ (Or.inl (by omega))]
        unfold cpLn
        rcases (show i = 0 ∨ i = 1 ∨ i = 2 ∨ i = 3 ∨ i = 4 by omega) with rfl | rfl | rfl | rfl | rfl <;> simp [upd]
      · exact h1 j i (by omega) (by omega) hi
    · show it (cpLn g2) r (k + 1) (cpLn g2 k g) q = g q
      rw [h2 q (by omega)]
      unfold cpLn
      rw [upd_n (by omega), upd_n (by omega), upd_n (by omega), upd_n (by omega), upd_n (by omega)]
theorem it_cpPm (g2 : Nat → Int32) : ∀ (r k : Nat) (g : Nat → Int32), (∀ j i, k ≤ j → j < k + r → i < 4 → it (cpPm g2) r k g (221 + 4 * j + i) = (if i = 3 then bz (g2 (221 + 4 * j + i)) else g2 (221 + 4 * j + i))) ∧ ∀ q, (q < 221 + 4 * k ∨ 221 + 4 * (k + r) ≤ q) → it (cpPm g2) r k g q = g q
  | 0, k, g => ⟨fun j i a b _ => by omega, fun q _ => rfl⟩
  | r + 1, k, g => by
    obtain ⟨h1, h2⟩ := it_cpPm g2 r (k + 1) (cpPm g2 k g)
    refine ⟨fun j i a b hi => ?_, fun q hq => ?_⟩
    · show it (cpPm g2) r (k + 1) (cpPm g2 k g) _ = _
      by_cases c : j = k
      · subst c
        rw [h2 _ (Or.inl (by omega))]
        unfold cpPm
        rcases (show i = 0 ∨ i = 1 ∨ i = 2 ∨ i = 3 by omega) with rfl | rfl | rfl | rfl <;> simp [upd]
      · exact h1 j i (by omega) (by omega) hi
    · show it (cpPm g2) r (k + 1) (cpPm g2 k g) q = g q
      rw [h2 q (by omega)]
      unfold cpPm
      rw [upd_n (by omega), upd_n (by omega), upd_n (by omega), upd_n (by omega)]
theorem cp_sc (g2 g : Nat → Int32) : (∀ i, i < 9 → cpSc g2 g i = g2 i) ∧ ∀ q, 9 ≤ q → cpSc g2 g q = g q := by
  refine ⟨fun i hi => ?_, fun q hq => ?_⟩
  · unfold cpSc
    rcases (show i = 0 ∨ i = 1 ∨ i = 2 ∨ i = 3 ∨ i = 4 ∨ i = 5 ∨ i = 6 ∨ i = 7 ∨ i = 8 by omega) with rfl | rfl | rfl | rfl | rfl | rfl | rfl | rfl | rfl <;> simp [upd]
  · unfold cpSc
    rw [upd_n (by omega), upd_n (by omega), upd_n (by omega), upd_n (by omega), upd_n (by omega), upd_n (by omega), upd_n (by omega), upd_n (by omega), upd_n (by omega)]
section CPF
variable {S B L P : Nat} {g2 g w : Nat → Int32}
theorem cpF_n (hS : S ≤ 8) (hB : B ≤ 12) (hL : L ≤ 30) (hP : P ≤ 10) {i : Nat} (hi : i < 9) : cpF g2 S B L P g i = g2 i := by
  unfold cpF
  rw [(it_cpPm g2 P 0 _).2 _ (Or.inl (by omega)), (it_cpLn g2 L 0 _).2 _ (Or.inl (by omega)), (it_cpBo g2 B 0 _).2 _ (Or.inl (by omega)), (it_cpSt g2 S 0 _).2 _ (Or.inl (by omega))]
  exact (cp_sc g2 g).1 i hi
theorem cpF_S (hS : S ≤ 8) {k i : Nat} (hk : k < S) (hi : i < 5) : cpF g2 S B L P g (9 + 10 * k + i) = g2 (9 + 10 * k + i) := by
  unfold cpF
  rw [(it_cpPm g2 P 0 _).2 _ (Or.inl (by omega)), (it_cpLn g2 L 0 _).2 _ (Or.inl (by omega)), (it_cpBo g2 B 0 _).2 _ (Or.inl (by omega))]
  exact (it_cpSt g2 S 0 _).1 k i (by omega) (by omega) hi
theorem cpF_B (hB : B ≤ 12) {k i : Nat} (hk : k < B) (hi : i < 6) : cpF g2 S B L P g (89 + 11 * k + i) = g2 (89 + 11 * k + i) := by
  unfold cpF
  rw [(it_cpPm g2 P 0 _).2 _ (Or.inl (by omega)), (it_cpLn g2 L 0 _).2 _ (Or.inl (by omega))]
  exact (it_cpBo g2 B 0 _).1 k i (by omega) (by omega) hi
theorem cpF_L (hP : P ≤ 10) {k i : Nat} (hk : k < L) (hi : i < 5) : cpF g2 S B L P g (261 + 5 * k + i) = g2 (261 + 5 * k + i) := by
  unfold cpF
  rw [(it_cpPm g2 P 0 _).2 _ (Or.inr (by omega))]
  exact (it_cpLn g2 L 0 _).1 k i (by omega) (by omega) hi
theorem cpF_P {k i : Nat} (hk : k < P) (hi : i < 4) : cpF g2 S B L P g (221 + 4 * k + i) = (if i = 3 then bz (g2 (221 + 4 * k + i)) else g2 (221 + 4 * k + i)) := by
  unfold cpF
  exact (it_cpPm g2 P 0 _).1 k i (by omega) (by omega) hi
theorem ag_cp (h : ag S B L P g2 w) (hW : wf w S B L P) (hz : ∀ k, k < P → bz (w (221 + 4 * k + 3)) = w (221 + 4 * k + 3)) : ag S B L P (cpF g2 S B L P g) w := by
  have hS := hW.2.1
  have hB := hW.2.2.2.1
  have hL := hW.2.2.2.2.2.1
  have hP := hW.2.2.2.2.2.2.2.1
  refine ⟨fun i hi => (cpF_n hS hB hL hP hi).trans (h.1 i hi), fun k j hk hj => (cpF_S hS hk (by omega)).trans (h.2.1 k j hk hj), fun k j hk hj => (cpF_B hB hk (by omega)).trans (h.2.2.1 k j hk hj), fun k j hk hj => ?_, fun k j hk hj => (cpF_L hP hk hj).trans (h.2.2.2.2 k j hk hj)⟩
  rw [cpF_P hk hj]
  by_cases c : j = 3
  · subst c
    rw [if_pos rfl, h.2.2.2.1 k 3 hk (by decide)]
    exact hz k hk
  · rw [if_neg c]
    exact h.2.2.2.1 k j hk hj
/-- the same row, read from another array -/
theorem ag_w {w' : Nat → Int32} (h : ag S B L P g w) (hS : S ≤ 8) (hB : B ≤ 12) (hL : L ≤ 30) (hP : P ≤ 10) (e : ∀ q, q < 411 → w' q = w q) : ag S B L P g w' :=
  ⟨fun i hi => (h.1 i hi).trans (e _ (by omega)).symm, fun k j hk hj => (h.2.1 k j hk hj).trans (e _ (by omega)).symm, fun k j hk hj => (h.2.2.1 k j hk hj).trans (e _ (by omega)).symm, fun k j hk hj => (h.2.2.2.1 k j hk hj).trans (e _ (by omega)).symm, fun k j hk hj => (h.2.2.2.2 k j hk hj).trans (e _ (by omega)).symm⟩
end CPF
