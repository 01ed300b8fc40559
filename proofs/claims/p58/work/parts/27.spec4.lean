/-! ===== what a State becomes by a new street, borrower, permit, loan; a copy ===== -/
def asF (g : Nat → Int32) (S : Nat) (nm d n : Int32) : Nat → Int32 := upd (upd (upd (upd (upd (upd g (9 + 10 * S + 4) nm) (9 + 10 * S) d) (9 + 10 * S + 1) n) (9 + 10 * S + 2) 0) (9 + 10 * S + 3) 0) 3 (g 3 + 1)
def abF (g : Nat → Int32) (B : Nat) (nm st il cr : Int32) : Nat → Int32 := upd (upd (upd (upd (upd (upd (upd (upd g (89 + 11 * B + 5) nm) (89 + 11 * B) st) (89 + 11 * B + 1) il) (89 + 11 * B + 2) cr) (89 + 11 * B + 3) 0) (89 + 11 * B + 4) 0) 4 (g 4 + 1)) 7 (g 7 + cr)
def apF (g : Nat → Int32) (P : Nat) (st s n : Int32) : Nat → Int32 := upd (upd (upd (upd (upd g (221 + 4 * P) st) (221 + 4 * P + 1) s) (221 + 4 * P + 2) n) (221 + 4 * P + 3) 0) 5 (g 5 + 1)
def clF (g : Nat → Int32) : Nat → Int32 := upd (upd (upd (upd (upd (upd (upd (upd (upd g 2 0) 0 0) 1 0) 7 0) 8 0) 3 0) 4 0) 6 0) 5 0
def adA (g : Nat → Int32) (L s n : Nat) : Nat → Int32 := it (alS (nI s) (nI n)) L 0 g
def adF (g : Nat → Int32) (L b s n : Nat) : Nat → Int32 :=
  upd (upd (upd (upd (upd (upd (upd (adA g L s n) (261 + 5 * L) (nI b)) (261 + 5 * L + 1) (nI s)) (261 + 5 * L + 2) (nI n)) (261 + 5 * L + 3) (prF (adA g L s n) b (nI n))) (261 + 5 * L + 4) 0) (89 + 11 * b + 2) (adA g L s n (89 + 11 * b + 2) - prF (adA g L s n) b (nI n))) 6 (adA g L s n 6 + 1)
theorem prF_upd {g : Nat → Int32} {j b : Nat} {v n : Int32} (hj : 221 ≤ j) (hb : b < 12) (h8 : hm g b < 8) : prF (upd g j v) b n = prF g b n ∧ hm (upd g j v) b = hm g b := by
  have e : upd g j v (89 + 11 * b) = g (89 + 11 * b) := upd_n (by omega)
  have h : hm (upd g j v) b = hm g b := by unfold hm; rw [e]
  refine ⟨?_, h⟩
  unfold prF
  rw [h, upd_n (by omega)]
theorem prF_upd3 {g : Nat → Int32} {j1 j2 j3 b : Nat} {v1 v2 v3 n : Int32} (h1 : 221 ≤ j1) (h2 : 221 ≤ j2) (h3 : 221 ≤ j3) (hb : b < 12) (h8 : hm g b < 8) : prF (upd (upd (upd g j1 v1) j2 v2) j3 v3) b n = prF g b n := by
  have a1 := prF_upd (v := v1) (n := n) h1 hb h8
  have a2 := prF_upd (g := upd g j1 v1) (v := v2) (n := n) h2 hb (by rw [a1.2]; exact h8)
  have a3 := prF_upd (g := upd (upd g j1 v1) j2 v2) (v := v3) (n := n) h3 hb (by rw [a2.2, a1.2]; exact h8)
  rw [a3.1, a2.1, a1.1]
def suF (F : Nat → Int32) : Nat → Nat → Int32 → Int32
  | 0, _, x => x
  | r + 1, k, x => suF F r (k + 1) (x + F k)
def suP (g : Nat → Int32) : Nat → Nat → Int32 → Int32
  | 0, _, x => x
  | r + 1, k, x => suP g r (k + 1) (if g (261 + 5 * k + 4) = 5 then x else x + g (261 + 5 * k + 3))
def acF (g : Nat → Int32) (B L : Nat) : Int32 := suP g L 0 (suF (fun k => g (89 + 11 * k + 2)) B 0 (g 8 - g 7))
abbrev cpP (g : Nat → Int32) (L : Nat) (st f n : Int32) (k : Nat) : Prop := hdK g k f n ∧ g (89 + 11 * ow g k) = st
/-- a second State's cells -/
abbrev oth (tb : Nat → ClassId) (b : Nat) (g2 : Nat → Int32) (M0 : me_M) : Prop := ∀ o, o < 65 → M0 (b + o) = some (sp_cell tb b g2 o)
section HO
variable {tb : Nat → ClassId} {b : Nat} {g2 : Nat → Int32} {M0 : me_M}
theorem ho_st (hO : oth tb b g2 M0) : M0 b = some (.inr (5, sc_fs b g2)) := hO 0 (by omega)
theorem ho_a1 (hO : oth tb b g2 M0) : M0 (b + 1) = some (.inl (tb 6, sp_arr (b + 5) 8)) := hO 1 (by omega)
theorem ho_a2 (hO : oth tb b g2 M0) : M0 (b + 2) = some (.inl (tb 7, sp_arr (b + 13) 12)) := hO 2 (by omega)
theorem ho_a3 (hO : oth tb b g2 M0) : M0 (b + 3) = some (.inl (tb 8, sp_arr (b + 25) 30)) := hO 3 (by omega)
theorem ho_a4 (hO : oth tb b g2 M0) : M0 (b + 4) = some (.inl (tb 9, sp_arr (b + 55) 10)) := hO 4 (by omega)
theorem ho_street (hO : oth tb b g2 M0) {k : Nat} (h : k < 8) : M0 (b + 5 + k) = some (.inr (6, st_fs g2 k)) := by rw [Nat.add_assoc, hO _ (by omega), sc_street tb b g2 h]
theorem ho_borrower (hO : oth tb b g2 M0) {k : Nat} (h : k < 12) : M0 (b + 13 + k) = some (.inr (0, bo_fs g2 k)) := by rw [Nat.add_assoc, hO _ (by omega), sc_borrower tb b g2 h]
theorem ho_loan (hO : oth tb b g2 M0) {k : Nat} (h : k < 30) : M0 (b + 25 + k) = some (.inr (2, ln_fs g2 k)) := by rw [Nat.add_assoc, hO _ (by omega), sc_loan tb b g2 h]
theorem ho_permit (hO : oth tb b g2 M0) {k : Nat} (h : k < 10) : M0 (b + 55 + k) = some (.inr (4, pm_fs g2 k)) := by rw [Nat.add_assoc, hO _ (by omega), sc_permit tb b g2 k]
end HO
def cpSt (g2 : Nat → Int32) (k : Nat) (g : Nat → Int32) : Nat → Int32 := upd (upd (upd (upd (upd g (9 + 10 * k + 4) (g2 (9 + 10 * k + 4))) (9 + 10 * k) (g2 (9 + 10 * k))) (9 + 10 * k + 1) (g2 (9 + 10 * k + 1))) (9 + 10 * k + 2) (g2 (9 + 10 * k + 2))) (9 + 10 * k + 3) (g2 (9 + 10 * k + 3))
def cpBo (g2 : Nat → Int32) (k : Nat) (g : Nat → Int32) : Nat → Int32 := upd (upd (upd (upd (upd (upd g (89 + 11 * k + 5) (g2 (89 + 11 * k + 5))) (89 + 11 * k) (g2 (89 + 11 * k))) (89 + 11 * k + 1) (g2 (89 + 11 * k + 1))) (89 + 11 * k + 2) (g2 (89 + 11 * k + 2))) (89 + 11 * k + 3) (g2 (89 + 11 * k + 3))) (89 + 11 * k + 4) (g2 (89 + 11 * k + 4))
def cpLn (g2 : Nat → Int32) (k : Nat) (g : Nat → Int32) : Nat → Int32 := upd (upd (upd (upd (upd g (261 + 5 * k) (g2 (261 + 5 * k))) (261 + 5 * k + 1) (g2 (261 + 5 * k + 1))) (261 + 5 * k + 2) (g2 (261 + 5 * k + 2))) (261 + 5 * k + 3) (g2 (261 + 5 * k + 3))) (261 + 5 * k + 4) (g2 (261 + 5 * k + 4))
def cpPm (g2 : Nat → Int32) (k : Nat) (g : Nat → Int32) : Nat → Int32 := upd (upd (upd (upd g (221 + 4 * k) (g2 (221 + 4 * k))) (221 + 4 * k + 1) (g2 (221 + 4 * k + 1))) (221 + 4 * k + 2) (g2 (221 + 4 * k + 2))) (221 + 4 * k + 3) (bz (g2 (221 + 4 * k + 3)))
def cpSc (g2 g : Nat → Int32) : Nat → Int32 := upd (upd (upd (upd (upd (upd (upd (upd (upd g 2 (g2 2)) 0 (g2 0)) 1 (g2 1)) 7 (g2 7)) 8 (g2 8)) 3 (g2 3)) 4 (g2 4)) 6 (g2 6)) 5 (g2 5)
def cpF (g2 : Nat → Int32) (S B L P : Nat) (g : Nat → Int32) : Nat → Int32 := it (cpPm g2) P 0 (it (cpLn g2) L 0 (it (cpBo g2) B 0 (it (cpSt g2) S 0 (cpSc g2 g))))
theorem sp_cpSt {tb : Nat → ClassId} {a : Nat} {g g2 : Nat → Int32} {M0 : me_M} {k : Nat} (hk : k < 8) : me_up (sp tb a g M0) (a + 5 + k) (.inr (6, [.int (g2 (9 + 10 * k + 4)), .int (g2 (9 + 10 * k)), .int (g2 (9 + 10 * k + 1)), .int (g2 (9 + 10 * k + 2)), .int (g2 (9 + 10 * k + 3)), .int (g (9 + 10 * k + 5))])) = sp tb a (cpSt g2 k g) M0 := by
  rw [Nat.add_assoc]
  refine sp_put (by omega) ?_ (fun o ho h0 => ?_)
  · rw [sc_street tb a _ hk]; simp [cpSt, upd]
  · unfold cpSt
    rw [sp_cell_upd ho (by omega), sp_cell_upd ho (by omega), sp_cell_upd ho (by omega), sp_cell_upd ho (by omega), sp_cell_upd ho (by omega)]
theorem sp_cpBo {tb : Nat → ClassId} {a : Nat} {g g2 : Nat → Int32} {M0 : me_M} {k : Nat} (hk : k < 12) : me_up (sp tb a g M0) (a + 13 + k) (.inr (0, bo_fs g2 k)) = sp tb a (cpBo g2 k g) M0 := by
  rw [Nat.add_assoc]
  refine sp_put (by omega) ?_ (fun o ho h0 => ?_)
  · rw [sc_borrower tb a _ hk]; simp [cpBo, upd]
  · unfold cpBo
    rw [sp_cell_upd ho (by omega), sp_cell_upd ho (by omega), sp_cell_upd ho (by omega), sp_cell_upd ho (by omega), sp_cell_upd ho (by omega), sp_cell_upd ho (by omega)]
theorem sp_cpLn {tb : Nat → ClassId} {a : Nat} {g g2 : Nat → Int32} {M0 : me_M} {k : Nat} (hk : k < 30) : me_up (sp tb a g M0) (a + 25 + k) (.inr (2, ln_fs g2 k)) = sp tb a (cpLn g2 k g) M0 := by
  rw [Nat.add_assoc]
  refine sp_put (by omega) ?_ (fun o ho h0 => ?_)
  · rw [sc_loan tb a _ hk]; simp [cpLn, upd]
  · unfold cpLn
    rw [sp_cell_upd ho (by omega), sp_cell_upd ho (by omega), sp_cell_upd ho (by omega), sp_cell_upd ho (by omega), sp_cell_upd ho (by omega)]
theorem sp_cpPm {tb : Nat → ClassId} {a : Nat} {g g2 : Nat → Int32} {M0 : me_M} {k : Nat} (hk : k < 10) : me_up (sp tb a g M0) (a + 55 + k) (.inr (4, pm_fs g2 k)) = sp tb a (cpPm g2 k g) M0 := by
  rw [Nat.add_assoc]
  refine sp_put (by omega) ?_ (fun o ho h0 => ?_)
  · rw [sc_permit tb a _ k]; simp [cpPm, upd, bz_bz]
  · unfold cpPm
    rw [sp_cell_upd ho (by omega), sp_cell_upd ho (by omega), sp_cell_upd ho (by omega), sp_cell_upd ho (by omega)]
theorem bz_01 (x : Int32) : bz x = 0 ∨ bz x = 1 := by
  obtain ⟨j, hj, e⟩ := pk_andE x (m := 1) 1 (by decide)
  unfold bz
  rcases (show j = 0 ∨ j = 1 by omega) with rfl | rfl
  · exact Or.inl e
  · exact Or.inr e
theorem cpSt_lo {g2 g : Nat → Int32} {k j : Nat} (h : j < 9) : cpSt g2 k g j = g j := by unfold cpSt; rw [upd_n (by omega), upd_n (by omega), upd_n (by omega), upd_n (by omega), upd_n (by omega)]
theorem cpBo_lo {g2 g : Nat → Int32} {k j : Nat} (h : j < 9) : cpBo g2 k g j = g j := by unfold cpBo; rw [upd_n (by omega), upd_n (by omega), upd_n (by omega), upd_n (by omega), upd_n (by omega), upd_n (by omega)]
theorem cpLn_lo {g2 g : Nat → Int32} {k j : Nat} (h : j < 9) : cpLn g2 k g j = g j := by unfold cpLn; rw [upd_n (by omega), upd_n (by omega), upd_n (by omega), upd_n (by omega), upd_n (by omega)]
theorem cpPm_lo {g2 g : Nat → Int32} {k j : Nat} (h : j < 9) : cpPm g2 k g j = g j := by unfold cpPm; rw [upd_n (by omega), upd_n (by omega), upd_n (by omega), upd_n (by omega)]
