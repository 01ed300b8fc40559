/-! ===== an hour: two loops over the loans, or one ===== -/
theorem upd_cm (g : Nat → Int32) {i j : Nat} (h : i ≠ j) (a c : Int32) : upd (upd g i a) j c = upd (upd g j c) i a := by
  funext q
  by_cases h1 : q = i
  · subst h1; rw [upd_n h, upd_s, upd_s]
  · by_cases h2 : q = j
    · subst h2; rw [upd_s, upd_n h1, upd_s]
    · rw [upd_n h2, upd_n h1, upd_n h1, upd_n h2]
theorem en_cell {x : Nat → Int32} {j q : Nat} (h : q ≠ 261 + 5 * j + 4) : enS j x q = x q := by
  unfold enS; split
  · exact upd_n h
  · rfl
theorem ch_cell {x : Nat → Int32} {k q : Nat} (h1 : q ≠ 261 + 5 * k + 4) (h2 : q ≠ 89 + 11 * ow x k + 2) (h3 : q ≠ 8) : chS k x q = x q := by
  unfold chS; split
  · rw [upd_n h3, upd_n h2, upd_n h1]
  · rfl
section HR
variable {S B L P : Nat}
theorem en_ow {x : Nat → Int32} {j k : Nat} : ow (enS j x) k = ow x k := by
  show (enS j x (261 + 5 * k)).toNatClampNeg = (x (261 + 5 * k)).toNatClampNeg
  rw [en_cell (by omega)]
theorem en_la {x : Nat → Int32} {j k : Nat} (h : j ≠ k) : laP (enS j x) k ↔ laP x k := by
  show (enS j x (261 + 5 * k + 4) = 2 ∧ enS j x (261 + 5 * k + 1) + enS j x (261 + 5 * k + 2) + enS j x 0 = enS j x 2) ↔ _
  rw [en_cell (by omega), en_cell (by omega), en_cell (by omega), en_cell (by omega), en_cell (by omega)]
theorem ch_en {x : Nat → Int32} {j k : Nat} (hW : wf x S B L P) (hk : k < L) (h : j ≠ k) : enP (chS k x) j ↔ enP x j := by
  have ho := (hW.2.2.2.2.2.2.2.2.2 k hk).2
  have hB := hW.2.2.2.1
  show (chS k x (261 + 5 * j + 4) = 1 ∧ chS k x (261 + 5 * j + 1) + chS k x (261 + 5 * j + 2) = chS k x 2) ↔ _
  rw [ch_cell (by omega) (by omega) (by omega), ch_cell (by omega) (by omega) (by omega), ch_cell (by omega) (by omega) (by omega), ch_cell (by omega) (by omega) (by omega)]
theorem en_ch {x : Nat → Int32} {j k : Nat} (hW : wf x S B L P) (hk : k < L) (h : j ≠ k) : enS j (chS k x) = chS k (enS j x) := by
  have ho := (hW.2.2.2.2.2.2.2.2.2 k hk).2
  have hB := hW.2.2.2.1
  have e1 := en_la (x := x) h
  have e2 := ch_en hW hk h
  by_cases a : laP x k
  · have r : chS k (enS j x) = upd (upd (upd (enS j x) (261 + 5 * k + 4) 4) (89 + 11 * ow x k + 2) (x (89 + 11 * ow x k + 2) - x 1)) 8 (x 8 + x 1) := by
      show (if laP (enS j x) k then upd (upd (upd (enS j x) (261 + 5 * k + 4) 4) (89 + 11 * ow (enS j x) k + 2) (enS j x (89 + 11 * ow (enS j x) k + 2) - enS j x 1)) 8 (enS j x 8 + enS j x 1) else enS j x) = _
      rw [if_pos (e1.mpr a), en_ow, en_cell (by omega), en_cell (by omega), en_cell (by omega)]
    have q : chS k x = upd (upd (upd x (261 + 5 * k + 4) 4) (89 + 11 * ow x k + 2) (x (89 + 11 * ow x k + 2) - x 1)) 8 (x 8 + x 1) := if_pos a
    rw [r]
    by_cases c : enP x j
    · have l : enS j (chS k x) = upd (chS k x) (261 + 5 * j + 4) 2 := if_pos (e2.mpr c)
      have l2 : enS j x = upd x (261 + 5 * j + 4) 2 := if_pos c
      rw [l, l2, q, upd_cm _ (by omega), upd_cm _ (by omega : 89 + 11 * ow x k + 2 ≠ 261 + 5 * j + 4), upd_cm _ (by omega : 261 + 5 * k + 4 ≠ 261 + 5 * j + 4)]
    · have l : enS j (chS k x) = chS k x := if_neg (fun z => c (e2.mp z))
      have l2 : enS j x = x := if_neg c
      rw [l, l2, q]
  · have r : chS k (enS j x) = enS j x := if_neg (fun z => a (e1.mp z))
    have q : chS k x = x := if_neg a
    rw [r, q]
theorem it_en_ch {k : Nat} (hk : k < L) : ∀ (r i : Nat) (x : Nat → Int32), wf x S B L P → k < i → i + r ≤ L → it enS r i (chS k x) = chS k (it enS r i x)
  | 0, _, _, _, _, _ => rfl
  | r + 1, i, x, hW, h, hr => by
    show it enS r (i + 1) (enS i (chS k x)) = chS k (it enS r (i + 1) (enS i x))
    have hL := hW.2.2.2.2.2.1
    rw [en_ch hW hk (by omega)]
    exact it_en_ch hk r (i + 1) (enS i x) (wf_en hW (by omega)) (by omega) (by omega)
/-- first all that end, then all that become overdue; or loan by loan -/
theorem it_cl : ∀ (r i : Nat) (x : Nat → Int32), wf x S B L P → i + r ≤ L → it chS r i (it enS r i x) = it clS r i x
  | 0, _, _, _, _ => rfl
  | r + 1, i, x, hW, hr => by
    have hL := hW.2.2.2.2.2.1
    show it chS r (i + 1) (chS i (it enS r (i + 1) (enS i x))) = it clS r (i + 1) (clS i x)
    have hE : wf (enS i x) S B L P := wf_en hW (by omega)
    rw [← it_en_ch (k := i) (by omega) r (i + 1) (enS i x) hE (by omega) (by omega)]
    exact it_cl r (i + 1) (chS i (enS i x)) (wf_ch hE (by omega)) (by omega)
theorem la_it {k : Nat} : ∀ (r i : Nat) (x : Nat → Int32), k < i → (laP (it enS r i x) k ↔ laP x k)
  | 0, _, _, _ => Iff.rfl
  | r + 1, i, x, h => (la_it r (i + 1) (enS i x) (by omega)).trans (en_la (by omega))
theorem ch_cl : ∀ (r i : Nat) (x : Nat → Int32), wf x S B L P → i + r ≤ L → chN r i (it enS r i x) = clN r i x
  | 0, _, _, _, _ => rfl
  | r + 1, i, x, hW, hr => by
    have hL := hW.2.2.2.2.2.1
    have hE : wf (enS i x) S B L P := wf_en hW (by omega)
    show (if laP (it enS r (i + 1) (enS i x)) i then 1 else 0) + chN r (i + 1) (chS i (it enS r (i + 1) (enS i x))) = (if laP (enS i x) i then 1 else 0) + clN r (i + 1) (clS i x)
    rw [← it_en_ch (k := i) (by omega) r (i + 1) (enS i x) hE (by omega) (by omega), ch_cl r (i + 1) (chS i (enS i x)) (wf_ch hE (by omega)) (by omega)]
    have e := la_it (k := i) r (i + 1) (enS i x) (by omega)
    by_cases c : laP (enS i x) i
    · rw [if_pos c, if_pos (e.mpr c)]; rfl
    · rw [if_neg c, if_neg (fun z => c (e.mp z))]; rfl
end HR
