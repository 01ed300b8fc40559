/-! ===== the law's text, read ===== -/
section TXT
variable {t : Nat → Int32} {len : Nat} {S B : Nat} {g : Nat → Int32}
theorem rd_bo {i k s il cr : Nat} {eo : Int32} (h : ivx S i g) (hi : i < 12) (hs : s < S) (hil : il < 10) (hcr : cr < 200) (ht : tA t (k + 1) (lnB i s il cr)) (h59 : t (k + 1 + (lnB i s il cr).length) = sb_b 59) (hl : k + 1 + (lnB i s il cr).length < len) : lnL t len (g, S, i, 0, 0, (k + 1, 3, k, 0, eo)) = (abF g i (nI (1 + i)) (nI s) (nI il) (nI cr), S, i + 1, 0, 0, (k + 1 + (lnB i s il cr).length + 1, 3, k + 1 + (lnB i s il cr).length, 0, eo)) := by
  have hS8 := h.1.1.2.1
  have hL := lnB_len i s il cr
  have w1 := tA_l ht
  have r1 := tA_r ht
  have l8 : (wdL 2).length = 8 := rfl
  rw [l8] at r1
  have b1 : t (k + 1 + 8) = sb_b 32 := tA_1 r1
  have r2 := tA_r (u := [32]) r1
  have c2 : t (k + 1 + 8 + 1) = sb_b (97 + i) := tA_1 r2
  have r3 := tA_r (u := [97 + i]) r2
  have b3 : t (k + 1 + 8 + 2) = sb_b 32 := tA_1 r3
  have r4 := tA_r (u := [32]) r3
  have c4 : t (k + 1 + 8 + 2 + 1) = sb_b (114 + s) := tA_1 r4
  have r5 := tA_r (u := [114 + s]) r4
  have b5 : t (k + 1 + 8 + 2 + 2) = sb_b 32 := tA_1 r5
  have r6 := tA_r (u := [32]) r5
  have d6 : tA t (k + 1 + 8 + 2 + 2 + 1) (dig il) := tA_l r6
  have r7 := tA_r r6
  have b7 : t (k + 1 + 8 + 2 + 2 + 1 + (dig il).length) = sb_b 32 := tA_1 r7
  have d8 : tA t (k + 1 + 8 + 2 + 2 + 1 + (dig il).length + 1) (dig cr) := tA_r (u := [32]) r7
  have e0 := ln_hd (t := t) (len := len) (x := (g, S, i, 0, 0, (k + 1, 3, k, 0, eo))) (i := 2) rfl (by decide) (by decide) w1 (by rw [l8]; exact b1) (by rw [l8]; omega)
  rw [l8] at e0
  have wd : wdB t 2 (k + 1 + 8, 1, k + 1, 0, eo) := wd_ok (i := 2) (by decide) (by decide) w1
  have wn : ¬ wdB t 1 (k + 1 + 8, 1, k + 1, 0, eo) := wd_no (i := 2) (j := 1) (by decide)
  obtain ⟨m1, m2⟩ := nm_ok (len := len) (tk := 1) (ts := k + 1) (eo := eo) b1 c2 (by omega) (by omega) (Or.inr ⟨by omega, Or.inl b3⟩)
  rw [show 97 + i - 96 = 1 + i by omega] at m2
  obtain ⟨p1, p2⟩ := nm_ok (len := len) (k := k + 1 + 8 + 2) (tk := 1) (ts := k + 1 + 8 + 1) (eo := eo) b3 c4 (by omega) (by omega) (Or.inr ⟨by omega, Or.inl b5⟩)
  rw [show 114 + s - 96 = 18 + s by omega] at p2
  obtain ⟨n1, n2⟩ := nu_ok (len := len) (k := k + 1 + 8 + 2 + 2) (tk := 1) (ts := k + 1 + 8 + 2 + 1) (eo := eo) (lo := 0) (hi := 9) b5 d6 (by omega) (Or.inr ⟨by omega, Or.inl b7⟩) (by omega) (by omega) (by omega)
  have hE : k + 1 + (lnB i s il cr).length = k + 1 + 8 + 2 + 2 + 1 + (dig il).length + 1 + (dig cr).length := by omega
  obtain ⟨q1, q2⟩ := nu_ok (len := len) (k := k + 1 + 8 + 2 + 2 + 1 + (dig il).length) (tk := 2) (ts := k + 1 + 8 + 2 + 2 + 1) (eo := eo) (lo := 0) (hi := 999) b7 d8 (by omega) (Or.inr ⟨by omega, Or.inr (by rw [← hE]; exact h59)⟩) (by omega) (by omega) (by omega)
  have n1 : nuP t len 0 9 (k + 1 + 8 + 2 + 2, 1, k + 1 + 8 + 2 + 1, 0, eo) = _ := n1
  have n2 : nuV t len 0 9 (k + 1 + 8 + 2 + 2, 1, k + 1 + 8 + 2 + 1, 0, eo) = _ := n2
  have q1 : nuP t len 0 999 (k + 1 + 8 + 2 + 2 + 1 + (dig il).length, 2, k + 1 + 8 + 2 + 2 + 1, 0, eo) = _ := q1
  have q2 : nuV t len 0 999 (k + 1 + 8 + 2 + 2 + 1 + (dig il).length, 2, k + 1 + 8 + 2 + 2 + 1, 0, eo) = _ := q2
  have a0 : bo0 (g, S, i, 0, 0, (k + 1 + 8, 1, k + 1, 0, eo)) = (k + 1 + 8, 1, k + 1, 0, eo) := if_neg (show ¬ i = 12 by omega)
  have a1 : bo1 t len (g, S, i, 0, 0, (k + 1 + 8, 1, k + 1, 0, eo)) = (k + 1 + 8 + 2, 1, k + 1 + 8 + 1, 0, eo) := by
    unfold bo1
    rw [a0, m1, m2]
    exact if_neg (fun z => z (bm_new (B := i) h (by omega)))
  have kv : ksV t len g S (k + 1 + 8 + 2, 1, k + 1 + 8 + 1, 0, eo) = nI s := by
    unfold ksV
    rw [p2]; exact sm_old h hS8 hs
  have k1 : ks1 t len g S (k + 1 + 8 + 2, 1, k + 1 + 8 + 1, 0, eo) = (k + 1 + 8 + 2 + 2, 1, k + 1 + 8 + 2 + 1, 0, eo) := by
    unfold ks1
    rw [kv, p1]
    exact if_neg (nI_nm1 (by omega))
  have a2 : bo2 t len (g, S, i, 0, 0, (k + 1 + 8, 1, k + 1, 0, eo)) = (k + 1 + 8 + 2 + 2, 1, k + 1 + 8 + 2 + 1, 0, eo) := by
    unfold bo2; rw [a1]; exact k1
  have a3 : bo3 t len (g, S, i, 0, 0, (k + 1 + 8, 1, k + 1, 0, eo)) = (k + 1 + 8 + 2 + 2 + 1 + (dig il).length, 2, k + 1 + 8 + 2 + 2 + 1, 0, eo) := by
    unfold bo3; rw [a2]; exact n1
  have a4 : bo4 t len (g, S, i, 0, 0, (k + 1 + 8, 1, k + 1, 0, eo)) = (k + 1 + (lnB i s il cr).length, 2, k + 1 + 8 + 2 + 2 + 1 + (dig il).length + 1, 0, eo) := by
    unfold bo4; rw [a3, q1, hE]
  have s1 : dsL t len (g, S, i, 0, 0, (k + 1 + 8, 1, k + 1, 0, eo)) = (abF g i (nI (1 + i)) (nI s) (nI il) (nI cr), S, i + 1, 0, 0, (k + 1 + (lnB i s il cr).length, 2, k + 1 + 8 + 2 + 2 + 1 + (dig il).length + 1, 0, eo)) := by
    have s0 : dsL t len (g, S, i, 0, 0, (k + 1 + 8, 1, k + 1, 0, eo)) = boL t len (g, S, i, 0, 0, (k + 1 + 8, 1, k + 1, 0, eo)) := (if_neg wn).trans (if_pos wd)
    rw [s0]
    refine (boL_1 (g := g) (S := S) (B := i) (L := 0) (P := 0) (ps := (k + 1 + 8, 1, k + 1, 0, eo)) (by rw [a4])).symm.trans ?_
    rw [a0, m2, a1, kv, k1, n2, n1, q2, a4]
  unfold lnL
  rw [e0, show rW (g, S, i, 0, 0, (k + 1, 3, k, 0, eo)) (k + 1 + 8, 1, k + 1, 0, eo) = (g, S, i, 0, 0, (k + 1 + 8, 1, k + 1, 0, eo)) from rfl, s1]
  show (abF g i (nI (1 + i)) (nI s) (nI il) (nI cr), S, i + 1, 0, 0, nxP t len (k + 1 + (lnB i s il cr).length, 2, k + 1 + 8 + 2 + 2 + 1 + (dig il).length + 1, 0, eo)) = _
  rw [nx_sm (by rw [h59, sb_59]) hl]
theorem rd_ht {k w : Nat} {eo : Int32} (h : ivx S B g) (hw1 : 1 ≤ w) (hw : w ≤ 30) (ht : tA t (k + 1) (lnH w)) (hl : k + 1 + (lnH w).length = len) : lnL t len (g, S, B, 0, 0, (k + 1, 3, k, 0, eo)) = (paG S B 0 0 w g, S, B, 0, 0, (len, 4, len, 0, eo)) := by
  have hL := lnH_len w
  have w1 := tA_l ht
  have r1 := tA_r ht
  have l5 : (wdL 6).length = 5 := rfl
  rw [l5] at r1
  have b1 : t (k + 1 + 5) = sb_b 32 := tA_1 r1
  have d2 : tA t (k + 1 + 5 + 1) (dig w) := tA_r (u := [32]) r1
  have e0 := ln_hd (t := t) (len := len) (x := (g, S, B, 0, 0, (k + 1, 3, k, 0, eo))) (i := 6) rfl (by decide) (by decide) w1 (by rw [l5]; exact b1) (by rw [l5]; omega)
  rw [l5] at e0
  have wd : wdB t 6 (k + 1 + 5, 1, k + 1, 0, eo) := wd_ok (i := 6) (by decide) (by decide) w1
  have wn : ∀ j, j = 1 ∨ j = 2 ∨ j = 3 ∨ j = 4 ∨ j = 5 → ¬ wdB t j (k + 1 + 5, 1, k + 1, 0, eo) := fun j hj => wd_no (i := 6) (j := j) (by rcases hj with rfl | rfl | rfl | rfl | rfl <;> decide)
  have hE : len = k + 1 + 5 + 1 + (dig w).length := by omega
  have g2 : mnF 99 (9999 - g 2) = 99 := by rw [h.1.2.1]; decide
  obtain ⟨q1, q2⟩ := nu_ok (len := len) (k := k + 1 + 5) (tk := 1) (ts := k + 1) (eo := eo) (lo := 1) (hi := 99) b1 d2 (by omega) (Or.inl hE.symm) (by omega) (by omega) (by omega)
  have q1 : nuP t len 1 99 (k + 1 + 5, 1, k + 1, 0, eo) = _ := q1
  have q2 : nuV t len 1 99 (k + 1 + 5, 1, k + 1, 0, eo) = _ := q2
  have v1 : htV t len (g, S, B, 0, 0, (k + 1 + 5, 1, k + 1, 0, eo)) = nI w := by
    show nuV t len 1 (mnF 99 (9999 - g 2)) (k + 1 + 5, 1, k + 1, 0, eo) = nI w
    rw [g2]; exact q2
  have v2 : htP t len (g, S, B, 0, 0, (k + 1 + 5, 1, k + 1, 0, eo)) = (len, 2, k + 1 + 5 + 1, 0, eo) := by
    show nuP t len 1 (mnF 99 (9999 - g 2)) (k + 1 + 5, 1, k + 1, 0, eo) = _
    rw [g2, q1, ← hE]
  have s1 : dsL t len (g, S, B, 0, 0, (k + 1 + 5, 1, k + 1, 0, eo)) = (paG S B 0 0 w g, S, B, 0, 0, (len, 2, k + 1 + 5 + 1, 0, eo)) := by
    have s0 : dsL t len (g, S, B, 0, 0, (k + 1 + 5, 1, k + 1, 0, eo)) = htL t len (g, S, B, 0, 0, (k + 1 + 5, 1, k + 1, 0, eo)) := (if_neg (wn 1 (by decide))).trans ((if_neg (wn 2 (by decide))).trans ((if_neg (wn 3 (by decide))).trans ((if_neg (wn 4 (by decide))).trans ((if_neg (wn 5 (by decide))).trans (if_pos wd)))))
    rw [s0]
    unfold htL
    rw [v1, v2, nI_clamp (by omega)]
  unfold lnL
  rw [e0, show rW (g, S, B, 0, 0, (k + 1, 3, k, 0, eo)) (k + 1 + 5, 1, k + 1, 0, eo) = (g, S, B, 0, 0, (k + 1 + 5, 1, k + 1, 0, eo)) from rfl, s1]
  show (paG S B 0 0 w g, S, B, 0, 0, nxP t len (len, 2, k + 1 + 5 + 1, 0, eo)) = _
  rw [nx_eof]
/-- what the text leaves behind -/
def fnX (w S B : Nat) (y : PR) : Prop := pEk (rp y) = 0 ∧ rS y = S ∧ rB y = B ∧ rL y = 0 ∧ rP y = 0 ∧ iv 200 w S B 0 0 (rG y)
theorem lo_h {k w r : Nat} {eo : Int32} (h : ivx S B g) (hB1 : 1 ≤ B) (hw1 : 1 ≤ w) (hw : w ≤ 30) (ht : tA t (k + 1) (lnH w)) (hl : k + 1 + (lnH w).length = len) (hr : 1 ≤ r) : fnX w S B (loP t len r (g, S, B, 0, 0, (k + 1, 3, k, 0, eo))) := by
  obtain ⟨r, rfl⟩ : ∃ q, r = q + 1 := ⟨r - 1, by omega⟩
  rw [lo_t (x := (g, S, B, 0, 0, (k + 1, 3, k, 0, eo))) rfl (by show ¬ 3 = 4; omega), rd_ht h hw1 hw ht hl]
  have e : loP t len r (paG S B 0 0 w g, S, B, 0, 0, (len, 4, len, 0, eo)) = (paG S B 0 0 w g, S, B, 0, 0, (len, 4, len, 0, eo)) := by
    cases r with
    | zero => rfl
    | succ r => exact lo_f4 rfl
  rw [e]
  have z := iv_pa (by omega) hB1 w 0 g h.1 (by omega)
  rw [Nat.zero_add] at z
  exact ⟨rfl, rfl, rfl, rfl, rfl, z⟩
def boR (st il cr : Nat → Nat) : Nat → Nat → List Nat
  | _, 0 => []
  | i, r + 1 => 59 :: lnB i (st i) (il i) (cr i) ++ boR st il cr (i + 1) r
def stR (d n : Nat → Nat) : Nat → Nat → List Nat
  | _, 0 => []
  | i, r + 1 => 59 :: lnS i (d i) (n i) ++ stR d n (i + 1) r
theorem boR_T {st il cr : Nat → Nat} : ∀ (r i : Nat), boT st il cr i ++ boR st il cr i r = boT st il cr (i + r)
  | 0, i => by simp [boR]
  | r + 1, i => by
    have ih := boR_T (st := st) (il := il) (cr := cr) r (i + 1)
    rw [show i + (r + 1) = i + 1 + r by omega, ← ih]
    simp [boR, boT, lnB, wdL, ksN]
theorem stR_T {d n : Nat → Nat} : ∀ (r i : Nat), stT d n i ++ stR d n i r = stT d n (i + r)
  | 0, i => by simp [stR]
  | r + 1, i => by
    have ih := stR_T (d := d) (n := n) r (i + 1)
    rw [show i + (r + 1) = i + 1 + r by omega, ← ih]
    simp [stR, stT, lnS, wdL, ksN]
theorem hd_b1 {k m i : Nat} {st il cr : Nat → Nat} {V : List Nat} (h : tA t k (boR st il cr i m ++ 59 :: V)) : t k = sb_b 59 := by
  cases m with
  | zero => exact tA_1 h
  | succ m => exact tA_1 h
theorem hd_s1 {k m i : Nat} {d n : Nat → Nat} {V : List Nat} (h : tA t k (stR d n i m ++ V)) (hV : ∀ k, tA t k V → t k = sb_b 59) : t k = sb_b 59 := by
  cases m with
  | zero => exact hV k h
  | succ m => exact tA_1 h
theorem tA_c {k c : Nat} {v : List Nat} (h : tA t k (c :: v)) : tA t (k + 1) v := tA_r (u := [c]) h
theorem lo_b {w : Nat} {eo : Int32} {st il cr : Nat → Nat} (hB1 : 1 ≤ B) (hB12 : B ≤ 12) (hw1 : 1 ≤ w) (hw : w ≤ 30) (hc : ∀ j, st j < S ∧ il j < 10 ∧ cr j < 200) : ∀ (m i k r : Nat) (g : Nat → Int32), i + m = B → m + 1 ≤ r → ivx S i g → tA t k (boR st il cr i m ++ 59 :: lnH w) → k + (boR st il cr i m ++ 59 :: lnH w).length = len → fnX w S B (loP t len r (g, S, i, 0, 0, (k + 1, 3, k, 0, eo)))
  | 0, i, k, r, g, hi, hr, h, ht, hl => by
    have : i = B := by omega
    subst this
    have ht : tA t k (59 :: lnH w) := ht
    have hl : k + (59 :: lnH w).length = len := hl
    rw [List.length_cons] at hl
    exact lo_h h hB1 hw1 hw (tA_c ht) (by omega) (by omega)
  | m + 1, i, k, r, g, hi, hr, h, ht, hl => by
    obtain ⟨r, rfl⟩ : ∃ q, r = q + 1 := ⟨r - 1, by omega⟩
    have eq9 : boR st il cr i (m + 1) ++ 59 :: lnH w = 59 :: (lnB i (st i) (il i) (cr i) ++ (boR st il cr (i + 1) m ++ 59 :: lnH w)) := by simp [boR]
    rw [eq9] at ht hl
    have t1 := tA_c ht
    have t2 := tA_r t1
    have hl2 : k + 1 + (lnB i (st i) (il i) (cr i)).length + (boR st il cr (i + 1) m ++ 59 :: lnH w).length = len := by
      rw [List.length_cons, List.length_append] at hl; omega
    have hp : 0 < (boR st il cr (i + 1) m ++ 59 :: lnH w).length := by rw [List.length_append, List.length_cons]; omega
    rw [lo_t (x := (g, S, i, 0, 0, (k + 1, 3, k, 0, eo))) rfl (by show ¬ 3 = 4; omega), rd_bo h (by omega) (hc i).1 (hc i).2.1 (hc i).2.2 (tA_l t1) (hd_b1 t2) (by omega)]
    exact lo_b hB1 hB12 hw1 hw hc m (i + 1) _ r _ (by omega) (by omega) (ivx_ab h (by omega) (hc i).1 (hc i).2.1 (hc i).2.2) t2 hl2
theorem lo_s {w : Nat} {eo : Int32} {st il cr d n : Nat → Nat} (hB1 : 1 ≤ B) (hB12 : B ≤ 12) (hS8 : S ≤ 8) (hw1 : 1 ≤ w) (hw : w ≤ 30) (hc : ∀ j, st j < S ∧ il j < 10 ∧ cr j < 200) (hd : ∀ j, d j < 100 ∧ n j < 100) : ∀ (m i k r : Nat) (g : Nat → Int32), i + m = S → m + B + 1 ≤ r → ivx i 0 g → tA t k (stR d n i m ++ (boR st il cr 0 B ++ 59 :: lnH w)) → k + (stR d n i m ++ (boR st il cr 0 B ++ 59 :: lnH w)).length = len → fnX w S B (loP t len r (g, i, 0, 0, 0, (k + 1, 3, k, 0, eo)))
  | 0, i, k, r, g, hi, hr, h, ht, hl => by
    have : i = S := by omega
    subst this
    exact lo_b hB1 hB12 hw1 hw hc B 0 k r g (by omega) (by omega) h ht hl
  | m + 1, i, k, r, g, hi, hr, h, ht, hl => by
    obtain ⟨r, rfl⟩ : ∃ q, r = q + 1 := ⟨r - 1, by omega⟩
    obtain ⟨V, hV⟩ : ∃ V, boR st il cr 0 B ++ 59 :: lnH w = V := ⟨_, rfl⟩
    have hV9 : ∀ k, tA t k V → t k = sb_b 59 := fun k z => by rw [← hV] at z; exact hd_b1 z
    have hV0 : 0 < V.length := by rw [← hV, List.length_append, List.length_cons]; omega
    have eq9 : stR d n i (m + 1) ++ V = 59 :: (lnS i (d i) (n i) ++ (stR d n (i + 1) m ++ V)) := by simp [stR]
    rw [hV, eq9] at ht hl
    have t1 := tA_c ht
    have t2 := tA_r t1
    have hl2 : k + 1 + (lnS i (d i) (n i)).length + (stR d n (i + 1) m ++ V).length = len := by
      rw [List.length_cons, List.length_append] at hl; omega
    have hp : 0 < (stR d n (i + 1) m ++ V).length := by rw [List.length_append]; omega
    rw [lo_t (x := (g, i, 0, 0, 0, (k + 1, 3, k, 0, eo))) rfl (by show ¬ 3 = 4; omega), rd_st h (by omega) (hd i).1 (hd i).2 (tA_l t1) (hd_s1 t2 hV9) (by omega)]
    rw [← hV] at t2 hl2
    exact lo_s hB1 hB12 hS8 hw1 hw hc hd m (i + 1) _ r _ (by omega) (by omega) (ivx_as h (by omega) (hd i).1 (hd i).2) t2 hl2
theorem ivx_0 (g : Nat → Int32) {a b : Nat} (hb : b ≤ 99) : ivx 0 0 (upd (upd (clF g) 0 (nI a)) 1 (nI b)) := by
  have hW : wf (upd (upd (clF g) 0 (nI a)) 1 (nI b)) 0 0 0 0 := wf_upd (wf_upd (wf_cl g) (by omega) (fun b hb => by omega) (fun k hk => by omega)) (by omega) (fun b hb => by omega) (fun k hk => by omega)
  have c : ∀ i, 2 ≤ i → upd (upd (clF g) 0 (nI a)) 1 (nI b) i = clF g i := fun i hi => by rw [upd_n (by omega), upd_n (by omega)]
  refine ⟨⟨hW, ?_, fun b hb => absurd hb (Nat.not_lt_zero _), ?_, ⟨b, hb, upd_s _ _ _⟩, fun k hk => absurd hk (Nat.not_lt_zero _), fun b hb => absurd hb (Nat.not_lt_zero _), fun k hk => absurd hk (Nat.not_lt_zero _), fun k hk => absurd hk (Nat.not_lt_zero _), fun j k x hj => absurd hj (Nat.not_lt_zero _), fun j k x hj => absurd hj (Nat.not_lt_zero _)⟩, fun k hk => absurd hk (Nat.not_lt_zero _), fun k hk => absurd hk (Nat.not_lt_zero _)⟩
  · rw [c 2 (by omega)]; rfl
  · show upd (upd (clF g) 0 (nI a)) 1 (nI b) 8 - upd (upd (clF g) 0 (nI a)) 1 (nI b) 7 = 0
    rw [c 8 (by omega), c 7 (by omega), show clF g 8 = 0 from rfl, show clF g 7 = 0 from rfl]; decide
/-- the whole text -/
theorem tx_read {a b h : Nat} {l : List Nat} {G0 : Nat → Int32} (ha : a < 5) (hb : b < 20) (hh : h < 30) (hB1 : 1 ≤ B) (hB5 : B ≤ 5) (hS3 : S ≤ 3) (hbo : boQ (1 + a) b S B l) (hlen : len = (l ++ ksN 11 ++ dig (1 + h)).length) (hin : tA t 0 (l ++ ksN 11 ++ dig (1 + h))) : fnX (1 + h) S B (ldF t len G0) := by
  obtain ⟨d, n, st, il, cr, hc, rfl⟩ := hbo
  have eq9 : hdT (1 + a) b ++ stT d n S ++ boT st il cr B ++ ksN 11 ++ dig (1 + h) = wdL 0 ++ ([32] ++ (dig (1 + a) ++ ([32] ++ (dig b ++ (stR d n 0 S ++ (boR st il cr 0 B ++ 59 :: lnH (1 + h))))))) := by
    have e1 := stR_T (d := d) (n := n) S 0
    have e2 := boR_T (st := st) (il := il) (cr := cr) B 0
    rw [Nat.zero_add] at e1 e2
    rw [← e1, ← e2]
    simp [hdT, stT, boT, lnH, wdL, ksN]
  rw [eq9] at hin hlen
  obtain ⟨V, hV⟩ : ∃ V, stR d n 0 S ++ (boR st il cr 0 B ++ 59 :: lnH (1 + h)) = V := ⟨_, rfl⟩
  have hV9 : ∀ k, tA t k V → t k = sb_b 59 := fun k z => by rw [← hV] at z; exact hd_s1 z (fun k z => hd_b1 z)
  have hV0 : 0 < V.length := by rw [← hV, List.length_append, List.length_append, List.length_cons]; omega
  rw [hV] at hin hlen
  have l6 : (wdL 0).length = 6 := rfl
  have w1 := tA_l hin
  have r1 := tA_r hin
  rw [l6, Nat.zero_add] at r1
  have b1 : t 6 = sb_b 32 := tA_1 r1
  have r2 := tA_r (u := [32]) r1
  have d2 : tA t (6 + 1) (dig (1 + a)) := tA_l r2
  have r3 := tA_r r2
  have b3 : t (6 + 1 + (dig (1 + a)).length) = sb_b 32 := tA_1 r3
  have r4 := tA_r (u := [32]) r3
  have d4 : tA t (6 + 1 + (dig (1 + a)).length + 1) (dig b) := tA_l r4
  have r5 : tA t (6 + 1 + (dig (1 + a)).length + 1 + (dig b).length) V := tA_r r4
  have hL : len = 6 + (1 + ((dig (1 + a)).length + (1 + ((dig b).length + V.length)))) := by
    rw [hlen, List.length_append, List.length_append, List.length_append, List.length_append, List.length_append, l6]; rfl
  have z1 := (dig_c (1 + a) (by omega)).2.1
  have z2 := (dig_c b (by omega)).2.1
  obtain ⟨wa, wb, wc⟩ := wd_c 0 (by decide) (by decide)
  have h0 := w1 0 (by decide)
  rw [Nat.zero_add] at h0
  have hs : sk0 t len ldp = 0 := sk_nb (by show ¬ (t 0 = 32 ∨ t 0 = 10); rw [h0]; decide +kernel)
  have hn : nxP t len ldp = (6, 1, 0, 0, -1) := nx_w (k := 0) rfl hs (fun z => by
    have z1 : ((0 : Nat) = 1 ∨ (0 : Nat) = 2) := z.1
    omega) w1 wb (fun j hj => ⟨(wc j hj).1, (wc j hj).2.1⟩) (Or.inr ⟨by rw [l6]; omega, Or.inl (by rw [l6]; exact b1)⟩)
  have wd : wdB t 0 (6, 1, 0, 0, (-1 : Int32)) := by
    have z := wd_ok (t := t) (k := 0) (i := 0) (eo := -1) (by decide) (by decide) w1
    exact z
  have p0 : pa0 t len ldp = (6, 1, 0, 0, -1) := by
    unfold pa0
    rw [hn]
    exact if_neg (fun z => z wd)
  obtain ⟨n1, n2⟩ := nu_ok (len := len) (k := 6) (tk := 1) (ts := 0) (eo := -1) (lo := 1) (hi := 24) b1 d2 (by omega) (Or.inr ⟨by omega, Or.inl b3⟩) (by omega) (by omega) (by omega)
  have n1 : nuP t len 1 24 (6, 1, 0, 0, -1) = _ := n1
  have n2 : nuV t len 1 24 (6, 1, 0, 0, -1) = _ := n2
  have h59 := hV9 _ r5
  obtain ⟨q1, q2⟩ := nu_ok (len := len) (k := 6 + 1 + (dig (1 + a)).length) (tk := 2) (ts := 6 + 1) (eo := -1) (lo := 0) (hi := 99) b3 d4 (by omega) (Or.inr ⟨by omega, Or.inr h59⟩) (by omega) (by omega) (by omega)
  have q1 : nuP t len 0 99 (6 + 1 + (dig (1 + a)).length, 2, 6 + 1, 0, -1) = _ := q1
  have q2 : nuV t len 0 99 (6 + 1 + (dig (1 + a)).length, 2, 6 + 1, 0, -1) = _ := q2
  have a1 : pa1 t len ldp = (6 + 1 + (dig (1 + a)).length, 2, 6 + 1, 0, -1) := by unfold pa1; rw [p0]; exact n1
  have a2 : pa2 t len ldp = (6 + 1 + (dig (1 + a)).length + 1 + (dig b).length, 2, 6 + 1 + (dig (1 + a)).length + 1, 0, -1) := by unfold pa2; rw [a1]; exact q1
  have hH : paH t len (ldx G0) = (upd (upd (clF G0) 0 (nI (1 + a))) 1 (nI b), 0, 0, 0, 0, (6 + 1 + (dig (1 + a)).length + 1 + (dig b).length + 1, 3, 6 + 1 + (dig (1 + a)).length + 1 + (dig b).length, 0, -1)) := by
    show (upd (upd (clF G0) 0 (nuV t len 1 24 (pa0 t len ldp))) 1 (nuV t len 0 99 (pa1 t len ldp)), 0, 0, 0, 0, nxP t len (pa2 t len ldp)) = _
    rw [p0, n2, a1, q2, a2, nx_sm (by rw [h59, sb_59]) (by omega)]
  unfold ldF paF
  rw [hH]
  rw [← hV] at r5 hL
  rw [← hV] at hV0
  exact lo_s hB1 (by omega) (by omega) (by omega) (by omega) (fun j => (hc j).2.2) (fun j => ⟨(hc j).1, (hc j).2.1⟩) S 0 _ len _ (by omega) (by omega) (ivx_0 G0 (by omega)) r5 (by omega)
end TXT
