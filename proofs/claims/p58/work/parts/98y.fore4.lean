section FO4
variable {S B L P : Nat}
theorem sm_nzo {h0 c : Int32} : ∀ (r k : Nat) (z : WN) (s : Nat), s < k → (it (smZ L P h0 c) r k z).2 s = z.2 s
  | 0, _, _, _, _ => rfl
  | r + 1, k, z, s, h => (sm_nzo r (k + 1) (smZ L P h0 c k z) s (by omega)).trans (upd_n (by omega))
theorem sm_nz {h0 c : Int32} : ∀ (r k : Nat) (z : WN) (s : Nat), k ≤ s → s < k + r → k + r ≤ S → wf z.1 S B L P → (it (smZ L P h0 c) r k z).2 s = noF z.1 L P s c
  | 0, _, _, _, _, _, _, _ => by omega
  | r + 1, k, z, s, h1, h2, h3, hW => by
    have hS := hW.2.1
    have hB := hW.2.2.2.1
    by_cases e : s = k
    · subst e
      show (it (smZ L P h0 c) r (s + 1) (smZ L P h0 c s z)).2 s = _
      rw [sm_nzo r (s + 1) _ s (by omega)]
      exact upd_s _ _ _
    · have ih := sm_nz (h0 := h0) (c := c) r (k + 1) (smZ L P h0 c k z) s (by omega) (by omega) (by omega) (wf_sm hW (by omega))
      refine ih.trans ?_
      exact fx_no (c := c) (w' := smW L P h0 c k z.1) (fx_cell hB hS (fun q h => sm_o (by omega) (by omega)) (fun b _ => sm_o (by omega) (by omega)) (fun s hs => ⟨sm_o (by omega) (by omega), sm_o (by omega) (by omega)⟩)) hW (by omega) (Int32.le_refl _)
theorem fe_o {nz : Nat → Int32} : ∀ (r k : Nat) (w : Nat → Int32) (q : Nat), (∀ j, k ≤ j → j < k + r → q ≠ 89 + 11 * j + 1 ∧ q ≠ 89 + 11 * j + 3 ∧ q ≠ 89 + 11 * j + 4) → it (feS nz) r k w q = w q
  | 0, _, _, _, _ => rfl
  | r + 1, k, w, q, h => by
    have z := h k (by omega) (by omega)
    exact (fe_o r (k + 1) (feS nz k w) q (fun j a b => h j (by omega) (by omega))).trans ((fe_c nz w k).2.2.2 q z.1 z.2.1 z.2.2)
/-- one borrower's three numbers behind the loop -/
theorem fe_at {nz : Nat → Int32} {b a r0 t : Nat} (ha : a < 10) (hr : r0 < 6) (ht : t < 12) : ∀ (r k : Nat) (w : Nat → Int32), k ≤ b → b < k + r → w (89 + 11 * b + 1) = nI a → w (89 + 11 * b + 3) = nI r0 → w (89 + 11 * b + 4) = nI t → it (feS nz) r k w (89 + 11 * b + 1) = hrI (nz (hm w b)) (nI a) (nI r0) (nI t) ∧ it (feS nz) r k w (89 + 11 * b + 3) = hrR (nz (hm w b)) (nI r0) ∧ it (feS nz) r k w (89 + 11 * b + 4) = hrT (nz (hm w b)) (nI t)
  | 0, _, _, _, _, _, _, _ => by omega
  | r + 1, k, w, h1, h2, e1, e3, e4 => by
    by_cases e : b = k
    · subst e
      show it (feS nz) r (b + 1) (feS nz b w) _ = _ ∧ it (feS nz) r (b + 1) (feS nz b w) _ = _ ∧ it (feS nz) r (b + 1) (feS nz b w) _ = _
      rw [fe_o r (b + 1) _ _ (fun j _ _ => by omega), fe_o r (b + 1) _ _ (fun j _ _ => by omega), fe_o r (b + 1) _ _ (fun j _ _ => by omega), fe_eq nz ha hr ht e1 e3 e4]
      refine ⟨?_, ?_, ?_⟩
      · rw [upd_n (by omega), upd_n (by omega), upd_s, e1, e3, e4]
      · rw [upd_n (by omega), upd_s, e3]
      · rw [upd_s, e4]
    · have c := (fe_c nz w k).2.2.2
      have z := fe_at (nz := nz) ha hr ht r (k + 1) (feS nz k w) (by omega) (by omega) ((c _ (by omega) (by omega) (by omega)).trans e1) ((c _ (by omega) (by omega) (by omega)).trans e3) ((c _ (by omega) (by omega) (by omega)).trans e4)
      have hh : hm (feS nz k w) b = hm w b := by
        show (feS nz k w (89 + 11 * b)).toNatClampNeg = _
        rw [c _ (by omega) (by omega) (by omega)]
        rfl
      rw [hh] at z
      exact z
end FO4
