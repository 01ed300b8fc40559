/-! ===== a text, line by line ===== -/
section LN2
variable {tb : Nat → ClassId} {a po ta : Nat} {M9 : me_M} {t : Nat → Int32} {len : Nat} {x y : PR}
theorem lnM_e {q : PS} : psM tb a po ta len M9 (rG x) q = pmM tb a po ta len M9 (rW x q) := rfl
theorem ln0_M : psM tb a po ta len M9 (rG x) (nxP t len (fcP (¬ (pTk (rp x)) = 3) 1 (rp x))) = pmM tb a po ta len M9 (ln0 t len x) := by
  unfold ln0; exact lnM_e
theorem lnL_M : psM tb a po ta len M9 (rG (dsL t len (ln0 t len x))) (nxP t len (rp (dsL t len (ln0 t len x)))) = pmM tb a po ta len M9 (lnL t len x) := by
  unfold lnL; exact lnM_e
theorem paH_M {g : Nat → Int32} {S B L P : Nat} {ps : PS} : psM tb a po ta len M9 (upd (upd g 0 (nuV t len 1 24 (pa0 t len ps))) 1 (nuV t len 0 99 (nuP t len 1 24 (pa0 t len ps)))) (nxP t len (nuP t len 0 99 (nuP t len 1 24 (pa0 t len ps)))) = pmM tb a po ta len M9 (paH t len (g, S, B, L, P, ps)) := by
  unfold paH pa2 pa1; exact pm_e rfl
theorem htM {hh : Nat} (h : (htV t len y).toNatClampNeg = hh) : psM tb a po ta len M9 (paG (rS y) (rB y) (rL y) (rP y) hh (rG y)) (nuP t len 1 (mnF 99 (9999 - (rG y) 2)) (rp y)) = pmM tb a po ta len M9 (htL t len y) := by
  unfold htL htP; rw [h]
section DS
variable (t len y)
theorem ds_1 (h1 : wdB t 1 (rp y)) : stL t len y = dsL t len y := by unfold dsL; rw [if_pos h1]
theorem ds_2 (h1 : ¬ wdB t 1 (rp y)) (h2 : wdB t 2 (rp y)) : boL t len y = dsL t len y := by unfold dsL; rw [if_neg h1, if_pos h2]
theorem ds_3 (h1 : ¬ wdB t 1 (rp y)) (h2 : ¬ wdB t 2 (rp y)) (h3 : wdB t 3 (rp y)) : pmL t len y = dsL t len y := by unfold dsL; rw [if_neg h1, if_neg h2, if_pos h3]
theorem ds_4 (h1 : ¬ wdB t 1 (rp y)) (h2 : ¬ wdB t 2 (rp y)) (h3 : ¬ wdB t 3 (rp y)) (h4 : wdB t 4 (rp y)) : ldL t len y = dsL t len y := by unfold dsL; rw [if_neg h1, if_neg h2, if_neg h3, if_pos h4]
theorem ds_5 (h1 : ¬ wdB t 1 (rp y)) (h2 : ¬ wdB t 2 (rp y)) (h3 : ¬ wdB t 3 (rp y)) (h4 : ¬ wdB t 4 (rp y)) (h5 : wdB t 5 (rp y)) : whL t len y = dsL t len y := by unfold dsL; rw [if_neg h1, if_neg h2, if_neg h3, if_neg h4, if_pos h5]
theorem ds_6 (h1 : ¬ wdB t 1 (rp y)) (h2 : ¬ wdB t 2 (rp y)) (h3 : ¬ wdB t 3 (rp y)) (h4 : ¬ wdB t 4 (rp y)) (h5 : ¬ wdB t 5 (rp y)) (h6 : wdB t 6 (rp y)) : htL t len y = dsL t len y := by unfold dsL; rw [if_neg h1, if_neg h2, if_neg h3, if_neg h4, if_neg h5, if_pos h6]
theorem ds_7 (h1 : ¬ wdB t 1 (rp y)) (h2 : ¬ wdB t 2 (rp y)) (h3 : ¬ wdB t 3 (rp y)) (h4 : ¬ wdB t 4 (rp y)) (h5 : ¬ wdB t 5 (rp y)) (h6 : ¬ wdB t 6 (rp y)) : rW y (flP 1 (rp y)) = dsL t len y := by unfold dsL; rw [if_neg h1, if_neg h2, if_neg h3, if_neg h4, if_neg h5, if_neg h6]
end DS
theorem lo_t {r : Nat} (h1 : pEk (rp x) = 0) (h2 : ¬ pTk (rp x) = 4) : loP t len (r + 1) x = loP t len r (lnL t len x) := if_pos ⟨h1, h2⟩
theorem lo_f0 {r : Nat} (h1 : ¬ pEk (rp x) = 0) : loP t len (r + 1) x = x := if_neg (fun z => h1 z.1)
theorem lo_f4 {r : Nat} (h2 : pTk (rp x) = 4) : loP t len (r + 1) x = x := if_neg (fun z => z.2 h2)
end LN2
