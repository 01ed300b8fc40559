section FO6
variable {S B L P : Nat} {g w w' : Nat → Int32} {c c' : Int32}
theorem hr_b (n : Int32) {a r t : Nat} (ha : a < 10) (hr : r < 6) (ht : t < 12) : ∃ a' r' t' : Nat, a' < 10 ∧ r' < 6 ∧ t' < 12 ∧ hrI n (nI a) (nI r) (nI t) = nI a' ∧ hrR n (nI r) = nI r' ∧ hrT n (nI t) = nI t' := by
  obtain ⟨⟨r', e3⟩, ⟨t', e4⟩, a', e1⟩ := he_b ⟨a, ha⟩ ⟨r, hr⟩ ⟨t, ht⟩ (decide (n = 0)) (decide (n < 80))
  simp only [decide_eq_true_eq] at e1 e3 e4
  exact ⟨a', r', t', a'.2, r'.2, t'.2, e1, e3, e4⟩
theorem fx_mono (h : fx S B L P c w w') (hc : c ≤ c') : fx S B L P c' w w' := ⟨fun k hk f hf => h.1 k hk f (Int32.le_trans hc hf), h.2⟩
theorem hmS_wf (hW : wf w S B L P) (hb : bnd B w) (nz : Nat → Int32) : wf (hmS S B L P (w, nz)).1 S B L P ∧ bnd B (hmS S B L P (w, nz)).1 := by
  obtain ⟨-, -, a3, a4⟩ := hour_ag (g := w) nz ⟨fun _ _ => rfl, fun _ _ _ _ => rfl, fun _ _ _ _ => rfl, fun _ _ _ _ => rfl, fun _ _ _ _ => rfl⟩ hW hb
  exact ⟨(ag_clI (g := hmA S B L P w nz) ⟨fun _ _ => rfl, fun _ _ _ _ => rfl, fun _ _ _ _ => rfl, fun _ _ _ _ => rfl, fun _ _ _ _ => rfl⟩ a3).2, bnd_cl hW.2.2.2.1 L 0 _ a4⟩
theorem fc_mp (hW : wf w S B L P) {T b : Nat} (hT : w 2 = nI T) (hb9 : b < B) : ∀ (r k : Nat) (x : WN) (a r0 t : Nat), T + k + r ≤ 20000 → wf x.1 S B L P → bnd B x.1 → x.1 2 = nI (T + k) → fx S B L P (nI (T + k)) w x.1 → a < 10 → r0 < 6 → t < 12 → x.1 (89 + 11 * b + 1) = nI a → x.1 (89 + 11 * b + 3) = nI r0 → x.1 (89 + 11 * b + 4) = nI t → (it (fcS w L P (hm w b)) r k (nI a, nI r0, nI t)).1 = (mpS S B L P r x).1 (89 + 11 * b + 1)
  | 0, _, _, _, _, _, _, _, _, _, _, _, _, _, e1, _, _ => e1.symm
  | r + 1, k, x, a, r0, t, hk, xW, xb, hc, hf, ha, hr, ht, e1, e3, e4 => by
    have hm9 := (hW.2.2.2.2.2.2.2.2.1 b hb9).2
    have hh : hm x.1 b = hm w b := by
      show (x.1 (89 + 11 * b)).toNatClampNeg = (w (89 + 11 * b)).toNatClampNeg
      rw [hf.2.2.1 b hb9]
    obtain ⟨y1, y3, y4, y2, yf⟩ := hour_b x.2 xW hb9 ha hr ht e1 e3 e4
    have hn : noF x.1 L P (hm x.1 b) (x.1 2) = noF w L P (hm w b) (w 2 + nI k) := by
      rw [hh, hc, hT, nI_add]
      exact fx_no hf hW hm9 (Int32.le_refl _)
    rw [hn] at y1 y3 y4
    rw [hc] at y2 yf
    obtain ⟨a', r', t', ha', hr', ht', z1, z3, z4⟩ := hr_b (noF w L P (hm w b) (w 2 + nI k)) ha hr ht
    have e : (nI (T + k) : Int32) + 1 = nI (T + (k + 1)) := nI_add (T + k) 1
    rw [e] at y2 yf
    obtain ⟨qW, qb⟩ := hmS_wf xW xb x.2
    have le1 : (nI (T + k) : Int32) ≤ nI (T + (k + 1)) := by
      rw [Int32.le_iff_toInt_le, nI_toInt (by omega), nI_toInt (by omega)]
      omega
    have ih := fc_mp hW hT hb9 r (k + 1) (hmS S B L P x) a' r' t' (by omega) qW qb y2 ((fx_mono hf le1).tr yf) ha' hr' ht' (y1.trans z1) (y3.trans z3) (y4.trans z4)
    show (it (fcS w L P (hm w b)) r (k + 1) (hrI (noF w L P (hm w b) (w 2 + nI k)) (nI a) (nI r0) (nI t), hrR (noF w L P (hm w b) (w 2 + nI k)) (nI r0), hrT (noF w L P (hm w b) (w 2 + nI k)) (nI t))).1 = (mpS S B L P r (hmS S B L P x)).1 (89 + 11 * b + 1)
    rw [z1, z3, z4]
    exact ih
/-- the forecast of the bureau is the model's hours, played -/
theorem fc_eq (nz : Nat → Int32) (h : ag S B L P g w) (hW : wf w S B L P) (hbn : bnd B w) {T b hh : Nat} (hT : w 2 = nI T) (hT0 : T ≤ 9999) (hb9 : b < B) (h0 : hh ≤ 200) : fcF g L P b hh = (mpS S B L P hh (w, nz)).1 (89 + 11 * b + 1) := by
  have hm9 := (hW.2.2.2.2.2.2.2.2.1 b hb9).2
  obtain ⟨a, r, t, ha, hr, ht, e1, e3, e4⟩ := hbn b hb9
  have e : fcS g L P (hm w b) = fcS w L P (hm w b) := by
    funext k t
    unfold fcS
    rw [ag_no h hW hm9, ag_n h (by decide : 2 < 9)]
  unfold fcF
  rw [ag_hm h hb9, e, h.2.2.1 b 1 hb9 (by decide), h.2.2.1 b 3 hb9 (by decide), h.2.2.1 b 4 hb9 (by decide), e1, e3, e4]
  exact fc_mp hW hT hb9 hh 0 (w, nz) a r t (by omega) hW hbn hT fx.rf ha hr ht e1 e3 e4
end FO6
