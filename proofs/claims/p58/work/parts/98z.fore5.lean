section FO5
variable {S B L P : Nat} {w : Nat → Int32}
theorem clI_b {b j : Nat} (hb : b < 12) (hj : j = 1 ∨ j = 3 ∨ j = 4) : ∀ (r k : Nat) (x : Nat → Int32), it clS r k x (89 + 11 * b + j) = x (89 + 11 * b + j)
  | 0, _, _ => rfl
  | r + 1, k, x => (clI_b hb hj r (k + 1) (clS k x)).trans (cl_b hb hj)
theorem clI_2 : ∀ (r k : Nat) (x : Nat → Int32), it clS r k x 2 = x 2
  | 0, _, _ => rfl
  | r + 1, k, x => (clI_2 r (k + 1) (clS k x)).trans cl_2
theorem sm_it2 {h0 c : Int32} : ∀ (r k : Nat) (x : WN), (it (smZ L P h0 c) r k x).1 2 = x.1 2
  | 0, _, _ => rfl
  | r + 1, k, x => by
    have z : smW L P h0 c k x.1 2 = x.1 2 := sm_o (by omega) (by omega)
    exact (sm_it2 r (k + 1) (smZ L P h0 c k x)).trans z
/-- one hour of the model, for one borrower and for what later hours read -/
theorem hour_b (nz : Nat → Int32) (hW : wf w S B L P) {b a r0 t : Nat} (hb : b < B) (ha : a < 10) (hr : r0 < 6) (ht : t < 12) (e1 : w (89 + 11 * b + 1) = nI a) (e3 : w (89 + 11 * b + 3) = nI r0) (e4 : w (89 + 11 * b + 4) = nI t) :
    (hmS S B L P (w, nz)).1 (89 + 11 * b + 1) = hrI (noF w L P (hm w b) (w 2)) (nI a) (nI r0) (nI t) ∧ (hmS S B L P (w, nz)).1 (89 + 11 * b + 3) = hrR (noF w L P (hm w b) (w 2)) (nI r0) ∧ (hmS S B L P (w, nz)).1 (89 + 11 * b + 4) = hrT (noF w L P (hm w b) (w 2)) (nI t) ∧ (hmS S B L P (w, nz)).1 2 = w 2 + 1 ∧ fx S B L P (w 2 + 1) w (hmS S B L P (w, nz)).1 := by
  have hS := hW.2.1
  have hB := hW.2.2.2.1
  have hL := hW.2.2.2.2.2.1
  have hP := hW.2.2.2.2.2.2.2.1
  have hm9 := (hW.2.2.2.2.2.2.2.2.1 b hb).2
  have w1W : wf (it bgS L 0 w) S B L P := (ag_bgI (g := w) ⟨fun _ _ => rfl, fun _ _ _ _ => rfl, fun _ _ _ _ => rfl, fun _ _ _ _ => rfl, fun _ _ _ _ => rfl⟩ hW).2
  have c1 : it bgS L 0 w 2 = w 2 := bg_o L 0 w 2 (by omega)
  have so : ∀ q, 89 ≤ q → q < 261 → (soM S L P (it bgS L 0 w) nz).1 q = w q := fun q h1 h2 => (sm_it S 0 _ q (by omega) h1).trans (bg_o L 0 w q h2)
  have hn : (soM S L P (it bgS L 0 w) nz).2 (hm w b) = noF w L P (hm w b) (w 2) := by
    refine (sm_nz S 0 (it bgS L 0 w, nz) (hm w b) (by omega) (by omega) (by omega) w1W).trans ?_
    rw [c1]
    exact fx_no (fx_bgI hP hB hS L 0 w) hW hm9 (Int32.le_refl _)
  have hh : hm (soM S L P (it bgS L 0 w) nz).1 b = hm w b := by
    show ((soM S L P (it bgS L 0 w) nz).1 (89 + 11 * b)).toNatClampNeg = _
    rw [so _ (by omega) (by omega)]
    rfl
  obtain ⟨f1, f3, f4⟩ := fe_at (nz := (soM S L P (it bgS L 0 w) nz).2) ha hr ht B 0 (soM S L P (it bgS L 0 w) nz).1 (by omega) (by omega) ((so _ (by omega) (by omega)).trans e1) ((so _ (by omega) (by omega)).trans e3) ((so _ (by omega) (by omega)).trans e4)
  rw [hh, hn] at f1 f3 f4
  have g2 : hmF S B L P w nz 2 = w 2 := (fe_o B 0 _ 2 (fun j _ _ => by omega)).trans ((sm_it2 S 0 _).trans c1)
  have a2 : hmA S B L P w nz 2 = w 2 + 1 := by
    unfold hmA
    rw [upd_s, g2]
  have o : ∀ j, j = 1 ∨ j = 3 ∨ j = 4 → (hmS S B L P (w, nz)).1 (89 + 11 * b + j) = hmF S B L P w nz (89 + 11 * b + j) := fun j hj => (clI_b (by omega) hj L 0 _).trans (upd_n (by omega))
  have sW : wf (soM S L P (it bgS L 0 w) nz).1 S B L P := (so_sm (q := quF (it bgS L 0 w) L) (h0 := hoF (it bgS L 0 w) L (it bgS L 0 w 2)) (c := it bgS L 0 w 2) S 0 (it bgS L 0 w) (it bgS L 0 w) nz (by omega) ⟨fun _ _ => rfl, fun _ _ _ _ => rfl, fun _ _ _ _ => rfl, fun _ _ _ _ => rfl, fun _ _ _ _ => rfl⟩ w1W rfl (fun j hj => by omega) (ho_q ⟨fun _ _ => rfl, fun _ _ _ _ => rfl, fun _ _ _ _ => rfl, fun _ _ _ _ => rfl, fun _ _ _ _ => rfl⟩ w1W)).2.2
  have feW9 : ∀ (r k : Nat) (x : Nat → Int32), k + r ≤ B → wf x S B L P → wf (it (feS (soM S L P (it bgS L 0 w) nz).2) r k x) S B L P := by
    intro r
    induction r with
    | zero => intro k x _ h; exact h
    | succ r ih => intro k x hk h; exact ih (k + 1) _ (by omega) (wf_fe h (by omega))
  have aW : wf (hmA S B L P w nz) S B L P := wf_upd (feW9 B 0 _ (by omega) sW) (by omega) (fun b _ => by omega) (fun k _ => by omega)
  refine ⟨(o 1 (Or.inl rfl)).trans f1, (o 3 (Or.inr (Or.inl rfl))).trans f3, (o 4 (Or.inr (Or.inr rfl))).trans f4, (clI_2 L 0 _).trans a2, ?_⟩
  have x1 : fx S B L P (w 2 + 1) w (it bgS L 0 w) := fx_bgI hP hB hS L 0 w
  have x2 : fx S B L P (w 2 + 1) (it bgS L 0 w) (soM S L P (it bgS L 0 w) nz).1 := fx_smI hB hS S 0 (it bgS L 0 w, nz) (by omega)
  have x3 : fx S B L P (w 2 + 1) (soM S L P (it bgS L 0 w) nz).1 (hmF S B L P w nz) := fx_feI hB hS B 0 _ (by omega)
  have x4 : fx S B L P (w 2 + 1) (hmF S B L P w nz) (hmA S B L P w nz) := fx_cell hB hS (fun q h => upd_n (by omega)) (fun b _ => upd_n (by omega)) (fun s hs => ⟨upd_n (by omega), upd_n (by omega)⟩)
  exact (((x1.tr x2).tr x3).tr x4).tr (fx_clI L 0 _ (by omega) aW (by rw [a2]; exact Int32.le_refl _))
end FO5
