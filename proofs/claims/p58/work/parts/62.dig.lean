/-! ===== a number's digits ===== -/
def gcF (w p e : Nat) (f : Nat → Int32) : Nat → Int32 := fun j => if p - e ≤ j ∧ j < p then sb_b (48 + w / 10 ^ (p - 1 - j) % 10) else f j
def gsF (w sg p : Nat) (f : Nat → Int32) : Nat → Int32 := if sg = 0 then gcF w p (sb_dg w) f else upd (gcF w p (sb_dg w) f) (p - sb_dg w - 1) (sb_b 45)
theorem sb_vb (c : Nat) : vp_nar .byte (sb_b c) = sb_b c := pk_vb _
theorem gc_0 {w p : Nat} {f : Nat → Int32} : gcF w p 0 f = f := by
  funext j; unfold gcF
  show (if p - 0 ≤ j ∧ j < p then _ else f j) = f j
  rw [if_neg (by omega)]
theorem gc_put {w p e d : Nat} {f : Nat → Int32} (he : e < p) (hd : d = w / 10 ^ e % 10) : upd (gcF w p e f) (p - e - 1) (vp_nar .byte (sb_b (48 + d))) = gcF w p (e + 1) f := by
  subst hd
  rw [sb_vb]
  funext j
  by_cases h : j = p - e - 1
  · subst h
    rw [upd_s]
    show _ = if p - (e + 1) ≤ p - e - 1 ∧ p - e - 1 < p then sb_b (48 + w / 10 ^ (p - 1 - (p - e - 1)) % 10) else f (p - e - 1)
    rw [if_pos (by omega), show p - 1 - (p - e - 1) = e by omega]
  · rw [upd_n h]
    show (if p - e ≤ j ∧ j < p then _ else f j) = if p - (e + 1) ≤ j ∧ j < p then _ else f j
    by_cases h2 : p - e ≤ j ∧ j < p
    · rw [if_pos h2, if_pos (by omega)]
    · rw [if_neg h2, if_neg (by omega)]
theorem gc_2 {w p e u : Nat} {f : Nat → Int32} (he : e + 1 < p) (hu : u = w / 10 ^ e) : upd (upd (gcF w p e f) (p - e - 1) (vp_nar .byte (sb_b (48 + u % 100 % 10)))) (p - e - 1 - 1) (vp_nar .byte (sb_b (48 + u % 100 / 10))) = gcF w p (e + 2) f := by
  rw [gc_put (by omega) (show u % 100 % 10 = w / 10 ^ e % 10 by rw [← hu]; omega)]
  show upd _ (p - (e + 1) - 1) _ = _
  refine gc_put (by omega) ?_
  rw [Nat.pow_succ, ← Nat.div_div_eq_div_mul, ← hu]; omega
theorem gc_u {w e u : Nat} (hu : u = w / 10 ^ e) : u / 100 = w / 10 ^ (e + 2) := by
  rw [hu, Nat.div_div_eq_div_mul, show e + 2 = e + 1 + 1 from rfl, Nat.pow_succ, Nat.pow_succ, Nat.mul_assoc]
theorem dg_1 {u : Nat} (h : u ≤ 9) : sb_dg u = 1 := by unfold sb_dg; rw [if_pos (by omega)]
theorem dg_2 {u : Nat} (h : ¬ u ≤ 9) (h2 : u < 100) : sb_dg u = 2 := by unfold sb_dg; rw [if_neg (by omega), if_pos h2]
theorem neg_lt0 {w : Nat} (h : 0 < w) (h2 : w < 2 ^ 31) : -nI w < 0 := by
  rw [Int32.lt_iff_toInt_lt, sb_negT h2, Int32.toInt_zero]; omega
theorem gs_fit {w sg p : Nat} {f : Nat → Int32} (h : sb_Fit f) : sb_Fit (gsF w sg p f) := by
  have h1 : sb_Fit (gcF w p (sb_dg w) f) := by
    intro j; unfold gcF
    by_cases h2 : p - sb_dg w ≤ j ∧ j < p
    · rw [if_pos h2]; exact sb_fitB _
    · rw [if_neg h2]; exact h j
  unfold gsF
  split
  · exact h1
  · exact sb_fitU h1 (sb_fitB _)
/-- digits behind a text -/
theorem gs_tx {w sg k : Nat} {t : Nat → Int32} (hs : sg ≤ 1) : gsF w sg (k + (sb_dg w + sg)) (tx k t) = tx (k + (sb_dg w + sg)) (gsF w sg (k + (sb_dg w + sg)) t) := by
  have key : ∀ j, gcF w (k + (sb_dg w + sg)) (sb_dg w) (tx k t) j = if j < k + (sb_dg w + sg) then (if k ≤ j ∧ j < k + sg then 0 else gcF w (k + (sb_dg w + sg)) (sb_dg w) t j) else 0 := by
    intro j
    show (if k + (sb_dg w + sg) - sb_dg w ≤ j ∧ j < k + (sb_dg w + sg) then _ else if j < k then t j else 0) = if j < k + (sb_dg w + sg) then (if k ≤ j ∧ j < k + sg then 0 else if k + (sb_dg w + sg) - sb_dg w ≤ j ∧ j < k + (sb_dg w + sg) then _ else t j) else 0
    by_cases h1 : k + (sb_dg w + sg) - sb_dg w ≤ j ∧ j < k + (sb_dg w + sg)
    · rw [if_pos h1, if_pos h1.2, if_neg (by omega), if_pos h1]
    · rw [if_neg h1]
      by_cases h2 : j < k
      · rw [if_pos h2, if_pos (by omega), if_neg (by omega), if_neg h1]
      · rw [if_neg h2]
        by_cases h3 : j < k + (sb_dg w + sg)
        · rw [if_pos h3, if_pos (by omega)]
        · rw [if_neg h3]
  funext j
  unfold gsF tx
  rcases (show sg = 0 ∨ sg = 1 by omega) with rfl | rfl
  · rw [if_pos rfl, if_pos rfl]
    have h := key j
    unfold tx at h
    rw [h]
    by_cases h3 : j < k + (sb_dg w + 0)
    · rw [if_pos h3, if_pos h3, if_neg (by omega)]
    · rw [if_neg h3, if_neg h3]
  · have e10 : ¬ (1 : Nat) = 0 := by decide
    rw [if_neg e10, if_neg e10]
    have hp : k + (sb_dg w + 1) - sb_dg w - 1 = k := by omega
    rw [hp]
    by_cases h0 : j = k
    · subst h0; rw [upd_s, upd_s, if_pos (by omega)]
    · rw [upd_n h0, upd_n h0]
      have h := key j
      unfold tx at h
      rw [h]
      by_cases h3 : j < k + (sb_dg w + 1)
      · rw [if_pos h3, if_pos h3, if_neg (by omega)]
      · rw [if_neg h3, if_neg h3]
theorem sb_nar : ∀ c, c < 128 → narrow .char (.int (nI c)) = .int (nI c) := by decide +kernel
