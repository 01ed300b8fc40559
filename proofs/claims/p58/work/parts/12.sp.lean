/-! ===== a State's cells as one function of numbers ===== -/
def bz (x : Int32) : Int32 := x &&& 1
theorem bz_bz (x : Int32) : bz (bz x) = bz x := by unfold bz; rw [Int32.and_assoc]; rfl
theorem upd_s (g : Nat → Int32) (k : Nat) (v : Int32) : upd g k v k = v := by simp [upd]
theorem upd_n {g : Nat → Int32} {k j : Nat} {v : Int32} (h : j ≠ k) : upd g k v j = g j := by simp [upd, h]
abbrev sc_fs (a : Nat) (g : Nat → Int32) : List Value := [.int (g 2), .int (g 0), .int (g 1), .int (g 7), .int (g 8), .int (g 3), .int (g 4), .int (g 6), .int (g 5), .ref (a + 1), .ref (a + 2), .ref (a + 3), .ref (a + 4)]
abbrev st_fs (g : Nat → Int32) (k : Nat) : List Value := [.int (g (9 + 10 * k + 4)), .int (g (9 + 10 * k)), .int (g (9 + 10 * k + 1)), .int (g (9 + 10 * k + 2)), .int (g (9 + 10 * k + 3)), .int (g (9 + 10 * k + 5))]
abbrev bo_fs (g : Nat → Int32) (k : Nat) : List Value := [.int (g (89 + 11 * k + 5)), .int (g (89 + 11 * k)), .int (g (89 + 11 * k + 1)), .int (g (89 + 11 * k + 2)), .int (g (89 + 11 * k + 3)), .int (g (89 + 11 * k + 4))]
abbrev ln_fs (g : Nat → Int32) (k : Nat) : List Value := [.int (g (261 + 5 * k)), .int (g (261 + 5 * k + 1)), .int (g (261 + 5 * k + 2)), .int (g (261 + 5 * k + 3)), .int (g (261 + 5 * k + 4))]
abbrev pm_fs (g : Nat → Int32) (k : Nat) : List Value := [.int (g (221 + 4 * k)), .int (g (221 + 4 * k + 1)), .int (g (221 + 4 * k + 2)), .int (bz (g (221 + 4 * k + 3)))]
abbrev sp_arr (a n : Nat) : vp_A := (n, .inr (.inr (.inr (.inr (fun i => if i < n then some (a + i) else none)))))
def sp_cell (tb : Nat → ClassId) (a : Nat) (g : Nat → Int32) (o : Nat) : va_E :=
  if o = 0 then .inr (5, sc_fs a g) else if o = 1 then .inl (tb 6, sp_arr (a + 5) 8) else if o = 2 then .inl (tb 7, sp_arr (a + 13) 12) else if o = 3 then .inl (tb 8, sp_arr (a + 25) 30) else if o = 4 then .inl (tb 9, sp_arr (a + 55) 10)
  else if o < 13 then .inr (6, st_fs g (o - 5)) else if o < 25 then .inr (0, bo_fs g (o - 13)) else if o < 55 then .inr (2, ln_fs g (o - 25)) else .inr (4, pm_fs g (o - 55))
def sp (tb : Nat → ClassId) (a : Nat) (g : Nat → Int32) (M0 : me_M) : me_M := fun q => if a ≤ q ∧ q < a + 65 then some (sp_cell tb a g (q - a)) else M0 q
theorem sp_in (tb : Nat → ClassId) (a : Nat) (g : Nat → Int32) (M0 : me_M) {o : Nat} (h : o < 65) : sp tb a g M0 (a + o) = some (sp_cell tb a g o) := by
  unfold sp
  rw [if_pos ⟨by omega, by omega⟩, show a + o - a = o by omega]
theorem sp_out {tb : Nat → ClassId} {a : Nat} {g : Nat → Int32} {M0 : me_M} {q : Nat} (h : q < a ∨ a + 65 ≤ q) : sp tb a g M0 q = M0 q := by
  unfold sp
  rw [if_neg (by omega)]
theorem sp_st (tb : Nat → ClassId) (a : Nat) (g : Nat → Int32) (M0 : me_M) : sp tb a g M0 a = some (.inr (5, sc_fs a g)) := sp_in tb a g M0 (o := 0) (by omega)
theorem sp_a1 (tb : Nat → ClassId) (a : Nat) (g : Nat → Int32) (M0 : me_M) : sp tb a g M0 (a + 1) = some (.inl (tb 6, sp_arr (a + 5) 8)) := sp_in tb a g M0 (o := 1) (by omega)
theorem sp_a2 (tb : Nat → ClassId) (a : Nat) (g : Nat → Int32) (M0 : me_M) : sp tb a g M0 (a + 2) = some (.inl (tb 7, sp_arr (a + 13) 12)) := sp_in tb a g M0 (o := 2) (by omega)
theorem sp_a3 (tb : Nat → ClassId) (a : Nat) (g : Nat → Int32) (M0 : me_M) : sp tb a g M0 (a + 3) = some (.inl (tb 8, sp_arr (a + 25) 30)) := sp_in tb a g M0 (o := 3) (by omega)
theorem sp_a4 (tb : Nat → ClassId) (a : Nat) (g : Nat → Int32) (M0 : me_M) : sp tb a g M0 (a + 4) = some (.inl (tb 9, sp_arr (a + 55) 10)) := sp_in tb a g M0 (o := 4) (by omega)
theorem sp_arr_at {a n k : Nat} (h : k < n) : (fun i => if i < n then some (a + i) else none : Nat → Option Nat) k = some (a + k) := by simp [h]
theorem sc_street (tb : Nat → ClassId) (a : Nat) (g : Nat → Int32) {k : Nat} (h : k < 8) : sp_cell tb a g (5 + k) = .inr (6, st_fs g k) := by
  unfold sp_cell
  rw [if_neg (by omega), if_neg (by omega), if_neg (by omega), if_neg (by omega), if_neg (by omega), if_pos (by omega), show 5 + k - 5 = k by omega]
theorem sc_borrower (tb : Nat → ClassId) (a : Nat) (g : Nat → Int32) {k : Nat} (h : k < 12) : sp_cell tb a g (13 + k) = .inr (0, bo_fs g k) := by
  unfold sp_cell
  rw [if_neg (by omega), if_neg (by omega), if_neg (by omega), if_neg (by omega), if_neg (by omega), if_neg (by omega), if_pos (by omega), show 13 + k - 13 = k by omega]
theorem sc_loan (tb : Nat → ClassId) (a : Nat) (g : Nat → Int32) {k : Nat} (h : k < 30) : sp_cell tb a g (25 + k) = .inr (2, ln_fs g k) := by
  unfold sp_cell
  rw [if_neg (by omega), if_neg (by omega), if_neg (by omega), if_neg (by omega), if_neg (by omega), if_neg (by omega), if_neg (by omega), if_pos (by omega), show 25 + k - 25 = k by omega]
theorem sc_permit (tb : Nat → ClassId) (a : Nat) (g : Nat → Int32) (k : Nat) : sp_cell tb a g (55 + k) = .inr (4, pm_fs g k) := by
  unfold sp_cell
  rw [if_neg (by omega), if_neg (by omega), if_neg (by omega), if_neg (by omega), if_neg (by omega), if_neg (by omega), if_neg (by omega), if_neg (by omega), show 55 + k - 55 = k by omega]
theorem sp_street (tb : Nat → ClassId) (a : Nat) (g : Nat → Int32) (M0 : me_M) {k : Nat} (h : k < 8) : sp tb a g M0 (a + 5 + k) = some (.inr (6, st_fs g k)) := by
  rw [Nat.add_assoc, sp_in tb a g M0 (by omega), sc_street tb a g h]
theorem sp_borrower (tb : Nat → ClassId) (a : Nat) (g : Nat → Int32) (M0 : me_M) {k : Nat} (h : k < 12) : sp tb a g M0 (a + 13 + k) = some (.inr (0, bo_fs g k)) := by
  rw [Nat.add_assoc, sp_in tb a g M0 (by omega), sc_borrower tb a g h]
theorem sp_loan (tb : Nat → ClassId) (a : Nat) (g : Nat → Int32) (M0 : me_M) {k : Nat} (h : k < 30) : sp tb a g M0 (a + 25 + k) = some (.inr (2, ln_fs g k)) := by
  rw [Nat.add_assoc, sp_in tb a g M0 (by omega), sc_loan tb a g h]
theorem sp_permit (tb : Nat → ClassId) (a : Nat) (g : Nat → Int32) (M0 : me_M) {k : Nat} (h : k < 10) : sp tb a g M0 (a + 55 + k) = some (.inr (4, pm_fs g k)) := by
  rw [Nat.add_assoc, sp_in tb a g M0 (by omega), sc_permit tb a g k]
/-- which numbers a cell holds -/
theorem sp_cell_upd {tb : Nat → ClassId} {a : Nat} {g : Nat → Int32} {j o : Nat} {v : Int32} (ho : o < 65)
    (h : (o = 0 → 9 ≤ j) ∧ (5 ≤ o → o < 13 → (j < 9 + 10 * (o - 5) ∨ 9 + 10 * (o - 5) + 10 ≤ j)) ∧ (13 ≤ o → o < 25 → (j < 89 + 11 * (o - 13) ∨ 89 + 11 * (o - 13) + 11 ≤ j)) ∧ (25 ≤ o → o < 55 → (j < 261 + 5 * (o - 25) ∨ 261 + 5 * (o - 25) + 5 ≤ j)) ∧ (55 ≤ o → (j < 221 + 4 * (o - 55) ∨ 221 + 4 * (o - 55) + 4 ≤ j))) : sp_cell tb a (upd g j v) o = sp_cell tb a g o := by
  obtain ⟨h0, h1, h2, h3, h4⟩ := h
  have n : ∀ i : Nat, i ≠ j → upd g j v i = g i := fun i hi => upd_n hi
  rcases Nat.lt_or_ge o 5 with c | c
  · rcases (show o = 0 ∨ o = 1 ∨ o = 2 ∨ o = 3 ∨ o = 4 by omega) with rfl | rfl | rfl | rfl | rfl
    · have := h0 rfl
      show Sum.inr (5, sc_fs a (upd g j v)) = Sum.inr (5, sc_fs a g)
      simp only [sc_fs]
      rw [n 0 (by omega), n 1 (by omega), n 2 (by omega), n 3 (by omega), n 4 (by omega), n 5 (by omega), n 6 (by omega), n 7 (by omega), n 8 (by omega)]
    all_goals rfl
  rcases Nat.lt_or_ge o 13 with c1 | c1
  · have := h1 c c1
    obtain ⟨k, rfl⟩ : ∃ k, o = 5 + k := ⟨o - 5, by omega⟩
    rw [sc_street tb a _ (by omega), sc_street tb a _ (by omega)]
    simp only [st_fs]
    rw [n _ (by omega), n (9 + 10 * k) (by omega), n (9 + 10 * k + 1) (by omega), n (9 + 10 * k + 2) (by omega), n (9 + 10 * k + 3) (by omega), n (9 + 10 * k + 5) (by omega)]
  rcases Nat.lt_or_ge o 25 with c2 | c2
  · have := h2 c1 c2
    obtain ⟨k, rfl⟩ : ∃ k, o = 13 + k := ⟨o - 13, by omega⟩
    rw [sc_borrower tb a _ (by omega), sc_borrower tb a _ (by omega)]
    simp only [bo_fs]
    rw [n _ (by omega), n (89 + 11 * k) (by omega), n (89 + 11 * k + 1) (by omega), n (89 + 11 * k + 2) (by omega), n (89 + 11 * k + 3) (by omega), n (89 + 11 * k + 4) (by omega)]
  rcases Nat.lt_or_ge o 55 with c3 | c3
  · have := h3 c2 c3
    obtain ⟨k, rfl⟩ : ∃ k, o = 25 + k := ⟨o - 25, by omega⟩
    rw [sc_loan tb a _ (by omega), sc_loan tb a _ (by omega)]
    simp only [ln_fs]
    rw [n _ (by omega), n (261 + 5 * k + 1) (by omega), n (261 + 5 * k + 2) (by omega), n (261 + 5 * k + 3) (by omega), n (261 + 5 * k + 4) (by omega)]
  · have := h4 c3
    obtain ⟨k, rfl⟩ : ∃ k, o = 55 + k := ⟨o - 55, by omega⟩
    rw [sc_permit tb a _ k, sc_permit tb a _ k]
    simp only [pm_fs]
    rw [n _ (by omega), n (221 + 4 * k + 1) (by omega), n (221 + 4 * k + 2) (by omega), n (221 + 4 * k + 3) (by omega)]
theorem sp_put {tb : Nat → ClassId} {a : Nat} {g g' : Nat → Int32} {M0 : me_M} {o : Nat} {x : va_E} (ho : o < 65) (hx : sp_cell tb a g' o = x) (h : ∀ i, i < 65 → i ≠ o → sp_cell tb a g' i = sp_cell tb a g i) : me_up (sp tb a g M0) (a + o) x = sp tb a g' M0 := by
  funext q
  by_cases hq : q = a + o
  · subst hq
    rw [me_up_s, sp_in tb a g' M0 ho, hx]
  · rw [me_up_n hq]
    unfold sp
    by_cases hr : a ≤ q ∧ q < a + 65
    · rw [if_pos hr, if_pos hr, h (q - a) (by omega) (by omega)]
    · rw [if_neg hr, if_neg hr]
theorem sp_w_st {tb : Nat → ClassId} {a : Nat} {g : Nat → Int32} {M0 : me_M} (j : Nat) {v : Int32} {fs : List Value} (hj : j < 9) (hf : sc_fs a (upd g j v) = fs) : me_up (sp tb a g M0) a (.inr (5, fs)) = sp tb a (upd g j v) M0 :=
  sp_put (o := 0) (by omega) (by rw [← hf]; rfl) (fun i hi h0 => sp_cell_upd hi (by omega))
theorem sp_w_street {tb : Nat → ClassId} {a : Nat} {g : Nat → Int32} {M0 : me_M} {k : Nat} (f : Nat) {v : Int32} {fs : List Value} (hk : k < 8) (hj : f < 6) (hf : st_fs (upd g (9 + 10 * k + f) v) k = fs) : me_up (sp tb a g M0) (a + 5 + k) (.inr (6, fs)) = sp tb a (upd g (9 + 10 * k + f) v) M0 := by
  rw [Nat.add_assoc]
  exact sp_put (by omega) (by rw [← hf, sc_street tb a _ hk]) (fun i hi h0 => sp_cell_upd hi (by omega))
theorem sp_w_borrower {tb : Nat → ClassId} {a : Nat} {g : Nat → Int32} {M0 : me_M} {k : Nat} (f : Nat) {v : Int32} {fs : List Value} (hk : k < 12) (hj : f < 6) (hf : bo_fs (upd g (89 + 11 * k + f) v) k = fs) : me_up (sp tb a g M0) (a + 13 + k) (.inr (0, fs)) = sp tb a (upd g (89 + 11 * k + f) v) M0 := by
  rw [Nat.add_assoc]
  exact sp_put (by omega) (by rw [← hf, sc_borrower tb a _ hk]) (fun i hi h0 => sp_cell_upd hi (by omega))
theorem sp_w_loan {tb : Nat → ClassId} {a : Nat} {g : Nat → Int32} {M0 : me_M} {k : Nat} (f : Nat) {v : Int32} {fs : List Value} (hk : k < 30) (hj : f < 5) (hf : ln_fs (upd g (261 + 5 * k + f) v) k = fs) : me_up (sp tb a g M0) (a + 25 + k) (.inr (2, fs)) = sp tb a (upd g (261 + 5 * k + f) v) M0 := by
  rw [Nat.add_assoc]
  exact sp_put (by omega) (by rw [← hf, sc_loan tb a _ hk]) (fun i hi h0 => sp_cell_upd hi (by omega))
theorem sp_w_permit {tb : Nat → ClassId} {a : Nat} {g : Nat → Int32} {M0 : me_M} {k : Nat} (f : Nat) {v : Int32} {fs : List Value} (hk : k < 10) (hj : f < 4) (hf : pm_fs (upd g (221 + 4 * k + f) v) k = fs) : me_up (sp tb a g M0) (a + 55 + k) (.inr (4, fs)) = sp tb a (upd g (221 + 4 * k + f) v) M0 := by
  rw [Nat.add_assoc]
  exact sp_put (by omega) (by rw [← hf, sc_permit tb a _ k]) (fun i hi h0 => sp_cell_upd hi (by omega))
