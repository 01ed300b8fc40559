/-! ===== two rows of numbers that agree where they count ===== -/
theorem fi_eq {P Q : Nat → Prop} [DecidablePred P] [DecidablePred Q] : ∀ r k : Nat, (∀ j, k ≤ j → j < k + r → (P j ↔ Q j)) → fi P r k = fi Q r k
  | 0, k, _ => rfl
  | r + 1, k, h => by
    have h0 := h k (Nat.le_refl _) (by omega)
    have ih := fi_eq r (k + 1) (fun j a b => h j (by omega) (by omega))
    by_cases c : P k
    · rw [fi_t c, fi_t (h0.mp c)]
    · unfold fi
      rw [if_neg c, if_neg (fun q => c (h0.mpr q)), ih]
theorem fv_eq {A B : Nat → Int32} : ∀ r k : Nat, (∀ j, k ≤ j → j < k + r → A j = B j) → fv A r k = fv B r k
  | 0, k, _ => rfl
  | r + 1, k, h => by
    have h0 := h k (Nat.le_refl _) (by omega)
    have ih := fv_eq r (k + 1) (fun j a b => h j (by omega) (by omega))
    unfold fv
    rw [h0, ih]
theorem co_eq {P Q : Nat → Prop} [DecidablePred P] [DecidablePred Q] : ∀ r k : Nat, (∀ j, k ≤ j → j < k + r → (P j ↔ Q j)) → co P r k = co Q r k
  | 0, k, _ => rfl
  | r + 1, k, h => by
    have h0 := h k (Nat.le_refl _) (by omega)
    have ih := co_eq r (k + 1) (fun j a b => h j (by omega) (by omega))
    unfold co
    rw [ih]
    by_cases c : P k
    · rw [if_pos c, if_pos (h0.mp c)]
    · rw [if_neg c, if_neg (fun q => c (h0.mpr q))]
def ag (S B L P : Nat) (g w : Nat → Int32) : Prop := (∀ i, i < 9 → g i = w i) ∧ (∀ k j, k < S → j < 4 → g (9 + 10 * k + j) = w (9 + 10 * k + j)) ∧ (∀ k j, k < B → j < 5 → g (89 + 11 * k + j) = w (89 + 11 * k + j)) ∧ (∀ k j, k < P → j < 4 → g (221 + 4 * k + j) = w (221 + 4 * k + j)) ∧ ∀ k j, k < L → j < 5 → g (261 + 5 * k + j) = w (261 + 5 * k + j)
section AG
variable {S B L P : Nat} {g w : Nat → Int32}
theorem ag_n (h : ag S B L P g w) {i : Nat} (hi : i < 9) : g i = w i := h.1 i hi
theorem ag_hm (h : ag S B L P g w) {b : Nat} (hb : b < B) : hm g b = hm w b := by
  show (g (89 + 11 * b)).toNatClampNeg = (w (89 + 11 * b)).toNatClampNeg
  rw [show g (89 + 11 * b) = w (89 + 11 * b) from h.2.2.1 b 0 hb (by decide)]
theorem ag_ow (h : ag S B L P g w) {k : Nat} (hk : k < L) : ow g k = ow w k := by
  show (g (261 + 5 * k)).toNatClampNeg = (w (261 + 5 * k)).toNatClampNeg
  rw [show g (261 + 5 * k) = w (261 + 5 * k) from h.2.2.2.2 k 0 hk (by decide)]
theorem ag_wf (h : ag S B L P g w) (hW : wf w S B L P) : wf g S B L P := by
  obtain ⟨a1, a2, a3, a4, a5, a6, a7, a8, a9, a10⟩ := hW
  refine ⟨(ag_n h (by decide)).trans a1, a2, (ag_n h (by decide)).trans a3, a4, (ag_n h (by decide)).trans a5, a6, (ag_n h (by decide)).trans a7, a8, fun b hb => ?_, fun k hk => ?_⟩
  · rw [ag_hm h hb]
    exact ⟨(h.2.2.1 b 0 hb (by decide)).trans (a9 b hb).1, (a9 b hb).2⟩
  · rw [ag_ow h hk]
    exact ⟨(h.2.2.2.2 k 0 hk (by decide)).trans (a10 k hk).1, (a10 k hk).2⟩
theorem ag_hd (h : ag S B L P g w) {k : Nat} (hk : k < L) (f n : Int32) : hdK g k f n ↔ hdK w k f n := by
  unfold hdK
  rw [h.2.2.2.2 k 1 hk (by decide), h.2.2.2.2 k 2 hk (by decide), h.2.2.2.2 k 4 hk (by decide)]
theorem ag_ho (h : ag S B L P g w) (x : Int32) : hoF g L x = hoF w L x := fi_eq L 0 (fun j _ hj => ag_hd h (by omega) x 1)
theorem ag_lo (h : ag S B L P g w) (f x : Int32) : loF g L f x = loF w L f x := co_eq L 0 (fun j _ hj => ag_hd h (by omega) f x)
theorem ag_pe (h : ag S B L P g w) (f x : Int32) : peF g P f x = peF w P f x := fi_eq P 0 (fun j _ hj => by
  show cvK g j f x ↔ cvK w j f x
  unfold cvK
  rw [show g (221 + 4 * j) = w (221 + 4 * j) from h.2.2.2.1 j 0 (by omega) (by decide), h.2.2.2.1 j 1 (by omega) (by decide), h.2.2.2.1 j 2 (by omega) (by decide), h.2.2.2.1 j 3 (by omega) (by decide)])
theorem ag_ov (h : ag S B L P g w) (b : Int32) : ovF g L b = ovF w L b := fi_eq L 0 (fun j _ hj => by
  show (g (261 + 5 * j) = b ∧ g (261 + 5 * j + 4) = 4) ↔ _
  rw [show g (261 + 5 * j) = w (261 + 5 * j) from h.2.2.2.2 j 0 (by omega) (by decide), h.2.2.2.2 j 4 (by omega) (by decide)])
theorem ag_le (h : ag S B L P g w) : leF g L = leF w L := co_eq 48 0 (fun j _ hj => by
  show ¬ hoF g L (g 2 + nI j) = -1 ↔ ¬ hoF w L (w 2 + nI j) = -1
  rw [ag_ho h, ag_n h (by decide)])
theorem ag_tw (h : ag S B L P g w) : twF g L = twF w L := co_eq 48 0 (fun j _ hj => by
  show (1 : Int32) < nI (loF g L (g 2 + nI j) 1) ↔ (1 : Int32) < nI (loF w L (w 2 + nI j) 1)
  rw [ag_lo h, ag_n h (by decide)])
theorem ag_pr (h : ag S B L P g w) (hW : wf w S B L P) {b : Nat} (hb : b < B) (n : Int32) : prF g b n = prF w b n := by
  unfold prF
  rw [ag_hm h hb, show g (9 + 10 * hm w b) = w (9 + 10 * hm w b) from h.2.1 _ 0 (hW.2.2.2.2.2.2.2.2.1 b hb).2 (by decide)]
theorem ag_no (h : ag S B L P g w) (hW : wf w S B L P) {s : Nat} (hs : s < S) (x : Int32) : noF g L P s x = noF w L P s x := by
  unfold noF
  rw [ag_ho h, ag_pe h, show g (9 + 10 * s) = w (9 + 10 * s) from h.2.1 s 0 hs (by decide), h.2.1 s 1 hs (by decide)]
  by_cases c : hoF w L x = -1
  · simp only [c, not_true_eq_false, false_and, if_false]
  · obtain ⟨k, hk, e, -⟩ := hoF_le w L x (by have := hW.2.2.2.2.2.1; omega) c
    have hL := hW.2.2.2.2.2.1
    have e2 : (hoF w L x).toNatClampNeg = k := by rw [e]; exact nI_clamp (by omega)
    rw [e2, ag_ow h hk, show g (89 + 11 * ow w k) = w (89 + 11 * ow w k) from h.2.2.1 _ 0 (hW.2.2.2.2.2.2.2.2.2 k hk).2 (by decide)]
theorem ag_bs {A C : Nat → Int32} (N : Nat) (hN : N < 2 ^ 31) (h : ∀ j, j < N → A j = C j) : ∀ (r k : Nat) (b : Int32), k + r ≤ N → (b = -1 ∨ ∃ i, i < N ∧ b = nI i) → bsF A r k b = bsF C r k b
  | 0, _, _, _, _ => rfl
  | r + 1, k, b, hk, hb => by
    unfold bsF
    have e : (b = -1 ∨ A b.toNatClampNeg < A k) ↔ (b = -1 ∨ C b.toNatClampNeg < C k) := by
      rcases hb with rfl | ⟨i, hi, rfl⟩
      · simp
      · rw [nI_clamp (by omega), h i hi, h k (by omega)]
    have e2 : (if b = -1 ∨ A b.toNatClampNeg < A k then nI k else b) = (if b = -1 ∨ C b.toNatClampNeg < C k then nI k else b) := by
      by_cases c : b = -1 ∨ A b.toNatClampNeg < A k
      · rw [if_pos c, if_pos (e.mp c)]
      · rw [if_neg c, if_neg (fun q => c (e.mpr q))]
    rw [e2]
    refine ag_bs N hN h r (k + 1) _ (by omega) ?_
    split
    · exact Or.inr ⟨k, by omega, rfl⟩
    · exact hb
theorem ag_loud (h : ag S B L P g w) (hS : S ≤ 8) : loudF g S = loudF w S := ag_bs S (by omega) (fun j hj => h.2.1 j 2 hj (by decide)) S 0 (-1) (by omega) (Or.inl rfl)
theorem ag_ill (h : ag S B L P g w) (hB : B ≤ 12) : illF g B = illF w B := ag_bs B (by omega) (fun j hj => h.2.2.1 j 1 hj (by decide)) B 0 (-1) (by omega) (Or.inl rfl)
theorem suF_eq {A C : Nat → Int32} : ∀ (r k : Nat) (x : Int32), (∀ j, k ≤ j → j < k + r → A j = C j) → suF A r k x = suF C r k x
  | 0, _, _, _ => rfl
  | r + 1, k, x, h => by
    unfold suF
    rw [h k (Nat.le_refl _) (by omega)]
    exact suF_eq r (k + 1) _ (fun j a b => h j (by omega) (by omega))
theorem suP_eq : ∀ (r k : Nat) (x : Int32), (∀ j, k ≤ j → j < k + r → g (261 + 5 * j + 4) = w (261 + 5 * j + 4) ∧ g (261 + 5 * j + 3) = w (261 + 5 * j + 3)) → suP g r k x = suP w r k x
  | 0, _, _, _ => rfl
  | r + 1, k, x, h => by
    unfold suP
    rw [(h k (Nat.le_refl _) (by omega)).1, (h k (Nat.le_refl _) (by omega)).2]
    exact suP_eq r (k + 1) _ (fun j a b => h j (by omega) (by omega))
theorem ag_ac (h : ag S B L P g w) : acF g B L = acF w B L := by
  unfold acF
  rw [ag_n h (by decide : 8 < 9), ag_n h (by decide : 7 < 9), suF_eq B 0 _ (fun j _ hj => h.2.2.1 j 2 (by omega) (by decide))]
  exact suP_eq L 0 _ (fun j _ hj => ⟨h.2.2.2.2 j 4 (by omega) (by decide), h.2.2.2.2 j 3 (by omega) (by decide)⟩)
theorem ag_fp (h : ag S B L P g w) {b : Nat} (hb : b < B) (s n : Nat) : fpF g P b s n = fpF w P b s n := by
  unfold fpF
  rw [show g (89 + 11 * b) = w (89 + 11 * b) from h.2.2.1 b 0 hb (by decide)]
  exact fv_eq n 0 (fun j _ _ => ag_pe h _ _)
theorem ag_cd (h : ag S B L P g w) (hW : wf w S B L P) {b k : Nat} (hb : b < B) (hk : k < L) : cdF g b k ↔ cdF w b k := by
  show (g (261 + 5 * k + 4) = 0 ∧ g (89 + 11 * ow g k + 1) < g (89 + 11 * b + 1)) ↔ _
  rw [ag_ow h hk, h.2.2.2.2 k 4 hk (by decide), h.2.2.1 b 1 hb (by decide), h.2.2.1 _ 1 (hW.2.2.2.2.2.2.2.2.2 k hk).2 (by decide)]
theorem ag_ob (h : ag S B L P g w) (hW : wf w S B L P) {b : Nat} (hb : b < B) (x : Int32) : obF g L b x = obF w L b x := by
  unfold obF
  rw [ag_ho h]
  by_cases c : hoF w L x = -1
  · simp only [c, not_true_eq_false, false_and, if_false]
  · obtain ⟨k, hk, e, -⟩ := hoF_le w L x (by have := hW.2.2.2.2.2.1; omega) c
    have hL := hW.2.2.2.2.2.1
    have e2 : (hoF w L x).toNatClampNeg = k := by rw [e]; exact nI_clamp (by omega)
    have z := ag_cd h hW hb hk
    rw [e2]
    by_cases c2 : cdF w b k
    · rw [if_neg (fun q => q.2 (z.mpr c2)), if_neg (fun q => q.2 c2)]
    · rw [if_pos ⟨c, fun q => c2 (z.mp q)⟩, if_pos ⟨c, c2⟩]
theorem ag_fo (h : ag S B L P g w) (hW : wf w S B L P) {b : Nat} (hb : b < B) (s n : Nat) : foF g L b s n = foF w L b s n := fv_eq n 0 (fun j _ _ => ag_ob h hW hb _)
theorem ag_re (h : ag S B L P g w) (hW : wf w S B L P) {b : Nat} (hb : b < B) (s n : Nat) : reF g L P b s n = reF w L P b s n := by
  unfold reF
  rw [ag_ov h, ag_fp h hb, ag_fo h hW hb, ag_pr h hW hb, h.2.2.1 b 2 hb (by decide), ag_n h (by decide : 6 < 9)]
theorem ag_ea (h : ag S B L P g w) (hW : wf w S B L P) {b : Nat} (hb : b < B) (n T : Nat) (most : Int32) : eaF g L P b n T most = eaF w L P b n T most := fv_eq (49 - n) 0 (fun j _ _ => by
  show (if nI (loF g L (nI (T + j)) (nI n)) ≤ most ∧ reF g L P b (T + j) n = 0 then nI (T + j) else -1) = _
  rw [ag_lo h, ag_re h hW hb])
end AG
