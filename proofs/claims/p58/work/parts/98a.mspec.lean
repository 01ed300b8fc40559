def smW (L P : Nat) (h0 c : Int32) (k : Nat) (w : Nat → Int32) : Nat → Int32 := upd (upd w (9 + 10 * k + 2) (w (9 + 10 * k + 2) + noF w L P k c)) (9 + 10 * k + 3) (w (9 + 10 * k + 3) + (if ¬ h0 = -1 ∧ w (89 + 11 * ow w h0.toNatClampNeg) = nI k then 1 else 0))
def smN (L P : Nat) (c : Int32) (k : Nat) (w nz : Nat → Int32) : Nat → Int32 := upd nz k (noF w L P k c)
abbrev WN := (Nat → Int32) × (Nat → Int32)
def smZ (L P : Nat) (h0 c : Int32) (k : Nat) (x : WN) : WN := (smW L P h0 c k x.1, smN L P c k x.1 x.2)
def fe1 (n : Int32) (k : Nat) (w : Nat → Int32) : Nat → Int32 := upd w (89 + 11 * k + 3) (w (89 + 11 * k + 3) + (if n = 0 then 1 else 0))
def fe2 (k : Nat) (w : Nat → Int32) : Nat → Int32 := if w (89 + 11 * k + 3) = 6 then upd (upd w (89 + 11 * k + 3) 0) (89 + 11 * k + 1) (w (89 + 11 * k + 1) - (if 0 < w (89 + 11 * k + 1) then 1 else 0)) else w
def fe3 (n : Int32) (k : Nat) (w : Nat → Int32) : Nat → Int32 := upd w (89 + 11 * k + 4) (w (89 + 11 * k + 4) + (if n < 80 then 0 else 1))
def fe4 (k : Nat) (w : Nat → Int32) : Nat → Int32 := if w (89 + 11 * k + 4) = 12 then upd (upd w (89 + 11 * k + 4) 0) (89 + 11 * k + 1) (w (89 + 11 * k + 1) + (if w (89 + 11 * k + 1) < 9 then 1 else 0)) else w
def feS (nz : Nat → Int32) (k : Nat) (w : Nat → Int32) : Nat → Int32 := fe4 k (fe3 (nz (hm w k)) k (fe2 k (fe1 (nz (hm w k)) k w)))
def clS (k : Nat) (w : Nat → Int32) : Nat → Int32 := chS k (enS k w)
def clN : Nat → Nat → (Nat → Int32) → Nat
  | 0, _, _ => 0
  | r + 1, k, w => (if laP (enS k w) k then 1 else 0) + clN r (k + 1) (clS k w)
/-- an hour of the model -/
def soM (S L P : Nat) (w nz : Nat → Int32) : WN := it (smZ L P (hoF w L (w 2)) (w 2)) S 0 (w, nz)
def hmF (S B L P : Nat) (w nz : Nat → Int32) : Nat → Int32 := it (feS (soM S L P (it bgS L 0 w) nz).2) B 0 (soM S L P (it bgS L 0 w) nz).1
def hmA (S B L P : Nat) (w nz : Nat → Int32) : Nat → Int32 := upd (hmF S B L P w nz) 2 (hmF S B L P w nz 2 + 1)
def hmS (S B L P : Nat) (x : WN) : WN := (it clS L 0 (hmA S B L P x.1 x.2), (soM S L P (it bgS L 0 x.1) x.2).2)
def mpS (S B L P : Nat) : Nat → WN → WN
  | 0, x => x
  | r + 1, x => mpS S B L P r (hmS S B L P x)
def mpN (S B L P : Nat) : Nat → WN → Nat
  | 0, _ => 0
  | r + 1, x => clN L 0 (hmA S B L P x.1 x.2) + mpN S B L P r (hmS S B L P x)
theorem clN_le : ∀ (r k : Nat) (w : Nat → Int32), clN r k w ≤ r
  | 0, _, _ => Nat.le_refl 0
  | r + 1, k, w => by
    have := clN_le r (k + 1) (clS k w)
    unfold clN
    split <;> omega
-- orders kept
theorem wf_sm {w : Nat → Int32} {S B L P k : Nat} {h0 c : Int32} (h : wf w S B L P) (hk : k < 8) : wf (smW L P h0 c k w) S B L P := by
  have hB := h.2.2.2.1
  unfold smW
  exact wf_upd (wf_upd h (by omega) (fun b hb => by omega) (fun j hj => by omega)) (by omega) (fun b hb => by omega) (fun j hj => by omega)
theorem wf_fe {w nz : Nat → Int32} {S B L P k : Nat} (h : wf w S B L P) (hk : k < 12) : wf (feS nz k w) S B L P := by
  have hB := h.2.2.2.1
  have U : ∀ (f : Nat) (v : Int32) (x : Nat → Int32), f = 1 ∨ f = 3 ∨ f = 4 → wf x S B L P → wf (upd x (89 + 11 * k + f) v) S B L P := fun f v x hf hx => wf_upd hx (by omega) (fun b hb => by omega) (fun j hj => by omega)
  have h1 : ∀ n, wf (fe1 n k w) S B L P := fun n => U 3 _ _ (by omega) h
  have h2 : ∀ x, wf x S B L P → wf (fe2 k x) S B L P := fun x hx => by
    unfold fe2; split
    · exact U 1 _ _ (by omega) (U 3 _ _ (by omega) hx)
    · exact hx
  have h3 : ∀ n x, wf x S B L P → wf (fe3 n k x) S B L P := fun n x hx => U 4 _ _ (by omega) hx
  have h4 : ∀ x, wf x S B L P → wf (fe4 k x) S B L P := fun x hx => by
    unfold fe4; split
    · exact U 1 _ _ (by omega) (U 4 _ _ (by omega) hx)
    · exact hx
  exact h4 _ (h3 _ _ (h2 _ (h1 _)))
theorem wf_cl2 {w : Nat → Int32} {S B L P k : Nat} (h : wf w S B L P) (hk : k < L) : wf (clS k w) S B L P := wf_ch (wf_en h (by have := h.2.2.2.2.2.1; omega)) hk
theorem c2_bg (k : Nat) (w : Nat → Int32) : bgS k w 2 = w 2 := by
  unfold bgS; split
  · exact upd_n (by omega)
  · rfl
theorem c2_en (k : Nat) (w : Nat → Int32) : enS k w 2 = w 2 := by
  unfold enS; split
  · exact upd_n (by omega)
  · rfl
theorem c2_ch (k : Nat) (w : Nat → Int32) : chS k w 2 = w 2 := by
  unfold chS; split
  · rw [upd_n (by omega), upd_n (by omega), upd_n (by omega)]
  · rfl
theorem c2_ca (k : Nat) (w : Nat → Int32) : caS k w 2 = w 2 := by
  unfold caS; rw [upd_n (by omega), upd_n (by omega)]
theorem c2_al (f n : Int32) (k : Nat) (w : Nat → Int32) : alS f n k w 2 = w 2 := by
  unfold alS; split
  · exact c2_ca k w
  · rfl
theorem c2_sm (L P : Nat) (h0 c : Int32) (k : Nat) (w : Nat → Int32) : smW L P h0 c k w 2 = w 2 := by
  unfold smW; rw [upd_n (by omega), upd_n (by omega)]
theorem c2_fe (nz : Nat → Int32) (k : Nat) (w : Nat → Int32) : feS nz k w 2 = w 2 := by
  have h2 : ∀ x : Nat → Int32, fe2 k x 2 = x 2 := fun x => by
    unfold fe2; split
    · rw [upd_n (by omega), upd_n (by omega)]
    · rfl
  have h4 : ∀ x : Nat → Int32, fe4 k x 2 = x 2 := fun x => by
    unfold fe4; split
    · rw [upd_n (by omega), upd_n (by omega)]
    · rfl
  unfold feS
  rw [h4]
  unfold fe3
  rw [upd_n (by omega), h2]
  unfold fe1
  rw [upd_n (by omega)]
