section LE
variable {t : Nat → Int32} {len : Nat} {g : Nat → Int32} {S B L P : Nat} {ps : PS}
theorem pm_e {tb : Nat → ClassId} {a po ta : Nat} {M9 : me_M} {x' : PR} (e : (g, S, B, L, P, ps) = x') : psM tb a po ta len M9 g ps = pmM tb a po ta len M9 x' := by rw [← e]
theorem stL_0 (h : ¬ pEk (st3 t len (g, S, B, L, P, ps)) = 0) : (g, S, B, L, P, st3 t len (g, S, B, L, P, ps)) = stL t len (g, S, B, L, P, ps) := by
  unfold stL; rw [if_neg h]
theorem stL_1 (h : pEk (st3 t len (g, S, B, L, P, ps)) = 0) : (asF g S (nmV t len (st0 (g, S, B, L, P, ps))) (nuV t len 0 99 (st1 t len (g, S, B, L, P, ps))) (nuV t len 0 99 (nuP t len 0 99 (st1 t len (g, S, B, L, P, ps)))), S + 1, B, L, P, st3 t len (g, S, B, L, P, ps)) = stL t len (g, S, B, L, P, ps) := by
  unfold stL st2; rw [if_pos h]
theorem boL_0 (h : ¬ pEk (bo4 t len (g, S, B, L, P, ps)) = 0) : (g, S, B, L, P, bo4 t len (g, S, B, L, P, ps)) = boL t len (g, S, B, L, P, ps) := by
  unfold boL; rw [if_neg h]
theorem boL_1 (h : pEk (bo4 t len (g, S, B, L, P, ps)) = 0) : (abF g B (nmV t len (bo0 (g, S, B, L, P, ps))) (ksV t len g S (bo1 t len (g, S, B, L, P, ps))) (nuV t len 0 9 (ks1 t len g S (bo1 t len (g, S, B, L, P, ps)))) (nuV t len 0 999 (nuP t len 0 9 (ks1 t len g S (bo1 t len (g, S, B, L, P, ps))))), S, B + 1, L, P, bo4 t len (g, S, B, L, P, ps)) = boL t len (g, S, B, L, P, ps) := by
  unfold boL bo3 bo2; rw [if_pos h]
theorem pmL_0 (h : ¬ pEk (pm4 t len (g, S, B, L, P, ps)) = 0) : (g, S, B, L, P, pm4 t len (g, S, B, L, P, ps)) = pmL t len (g, S, B, L, P, ps) := by
  unfold pmL; rw [if_neg h]
theorem pmL_1 (h : pEk (pm4 t len (g, S, B, L, P, ps)) = 0) : (apF g P (ksV t len g S (pm0 (g, S, B, L, P, ps))) (nuV t len (g 2) (g 2 + 48 - 1) (ks1 t len g S (pm0 (g, S, B, L, P, ps)))) (nuV t len 1 (mnF 12 (g 2 + 48 - nuV t len (g 2) (g 2 + 48 - 1) (ks1 t len g S (pm0 (g, S, B, L, P, ps))))) (nuP t len (g 2) (g 2 + 48 - 1) (ks1 t len g S (pm0 (g, S, B, L, P, ps))))), S, B, L, P + 1, pm4 t len (g, S, B, L, P, ps)) = pmL t len (g, S, B, L, P, ps) := by
  unfold pmL pmV pmN pmS pm2 pm1; rw [if_pos h]
theorem ldL_0 (h : ¬ pEk (ld4 t len (g, S, B, L, P, ps)) = 0) : (g, S, B, L, P, ld4 t len (g, S, B, L, P, ps)) = ldL t len (g, S, B, L, P, ps) := by
  unfold ldL; rw [if_neg h]
theorem ldL_1 {b s0 n9 : Nat} (h : pEk (ld4 t len (g, S, B, L, P, ps)) = 0) (ebc : (ldV t len (g, S, B, L, P, ps)).toNatClampNeg = b) (esc : (ldS t len (g, S, B, L, P, ps)).toNatClampNeg = s0) (enc : (ldN t len (g, S, B, L, P, ps)).toNatClampNeg = n9) : (adF g L b s0 n9, S, B, L + 1, P, ld4 t len (g, S, B, L, P, ps)) = ldL t len (g, S, B, L, P, ps) := by
  unfold ldL; rw [if_pos h, ebc, esc, enc]
theorem whL_0 (h : ¬ pEk (wh2 t len (g, S, B, L, P, ps)) = 0) : (g, S, B, L, P, wh2 t len (g, S, B, L, P, ps)) = whL t len (g, S, B, L, P, ps) := by
  unfold whL; rw [if_neg h]
theorem whL_1 {k : Nat} (h : pEk (wh2 t len (g, S, B, L, P, ps)) = 0) (ekc : (whV t len (g, S, B, L, P, ps)).toNatClampNeg = k) : (upd g (261 + 5 * k + 4) 3, S, B, L, P, wh2 t len (g, S, B, L, P, ps)) = whL t len (g, S, B, L, P, ps) := by
  unfold whL wsG; rw [if_pos h, ekc]
end LE
