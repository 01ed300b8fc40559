/-! ===== the lines of the law's text ===== -/
/-- a row that is being read: no loans, no permits, clock 0, names in order -/
def ivx (S B : Nat) (g : Nat → Int32) : Prop := iv 200 0 S B 0 0 g ∧ (∀ k, k < S → g (9 + 10 * k + 4) = nI (18 + k)) ∧ ∀ k, k < B → g (89 + 11 * k + 5) = nI (1 + k)
section LIN
variable {t : Nat → Int32} {len : Nat} {S B : Nat} {g : Nat → Int32}
theorem sm_new (h : ivx S B g) (hS : S ≤ 8) : smF g S (nI (18 + S)) = -1 := fi_no S 0 (fun j _ hj e => by
  rw [h.2.1 j (by omega)] at e
  have := (nI_eq (by omega) (by omega)).mp e
  omega)
theorem sm_old (h : ivx S B g) (hS : S ≤ 8) {s : Nat} (hs : s < S) : smF g S (nI (18 + s)) = nI s := by
  have hn : ¬ smF g S (nI (18 + s)) = -1 := fi_hit S 0 s (by omega) (by omega) (by omega) (h.2.1 s hs)
  obtain ⟨j, h1, h2, h3, h4⟩ := fi_some hn (by omega)
  rw [h.2.1 j (by omega)] at h4
  have := (nI_eq (by omega) (by omega)).mp h4
  exact h3.trans (congrArg nI (by omega))
theorem bm_new (h : ivx S B g) (hB : B ≤ 12) : bmF g B (nI (1 + B)) = -1 := fi_no B 0 (fun j _ hj e => by
  rw [h.2.2 j (by omega)] at e
  have := (nI_eq (by omega) (by omega)).mp e
  omega)
/-- the row behind a street's line -/
theorem ivx_as (h : ivx S 0 g) (hS : S < 8) {d n : Nat} (hd : d < 100) (hn : n < 100) : ivx (S + 1) 0 (asF g S (nI (18 + S)) (nI d) (nI n)) := by
  have c1 : ∀ i, (i < 9 + 10 * S ∨ 9 + 10 * S + 5 ≤ i) → i ≠ 3 → asF g S (nI (18 + S)) (nI d) (nI n) i = g i := fun i a b => by
    unfold asF; rw [upd_n b, upd_n (by omega), upd_n (by omega), upd_n (by omega), upd_n (by omega), upd_n (by omega)]
  have e0 : asF g S (nI (18 + S)) (nI d) (nI n) (9 + 10 * S) = nI d := by unfold asF; rw [upd_n (by omega), upd_n (by omega), upd_n (by omega), upd_n (by omega), upd_s]
  have e1 : asF g S (nI (18 + S)) (nI d) (nI n) (9 + 10 * S + 1) = nI n := by unfold asF; rw [upd_n (by omega), upd_n (by omega), upd_n (by omega), upd_s]
  have e2 : asF g S (nI (18 + S)) (nI d) (nI n) (9 + 10 * S + 2) = nI 0 := by unfold asF; rw [upd_n (by omega), upd_n (by omega), upd_s]; rfl
  have e4 : asF g S (nI (18 + S)) (nI d) (nI n) (9 + 10 * S + 4) = nI (18 + S) := by unfold asF; rw [upd_n (by omega), upd_n (by omega), upd_n (by omega), upd_n (by omega), upd_n (by omega), upd_s]
  obtain ⟨hi, h2, h3⟩ := h
  refine ⟨⟨wf_as hi.1 hS, (c1 2 (by omega) (by omega)).trans hi.2.1, fun b hb => absurd hb (Nat.not_lt_zero _), ?_, ?_, fun k hk => ?_, fun b hb => absurd hb (Nat.not_lt_zero _), fun k hk => absurd hk (Nat.not_lt_zero _), fun k hk => absurd hk (Nat.not_lt_zero _), fun j k x hj => absurd hj (Nat.not_lt_zero _), fun j k x hj => absurd hj (Nat.not_lt_zero _)⟩, fun k hk => ?_, fun k hk => absurd hk (Nat.not_lt_zero _)⟩
  · have z := hi.2.2.2.1
    have z : g 8 - g 7 = 0 := z
    show asF g S (nI (18 + S)) (nI d) (nI n) 8 - asF g S (nI (18 + S)) (nI d) (nI n) 7 = 0
    rw [c1 8 (by omega) (by omega), c1 7 (by omega) (by omega)]; exact z
  · rw [c1 1 (by omega) (by omega)]; exact hi.2.2.2.2.1
  · by_cases x : k = S
    · subst x; exact ⟨d, n, 0, by omega, by omega, by omega, e0, e1, e2⟩
    · obtain ⟨d, n, t, z1, z2, z3, z4, z5, z6⟩ := hi.2.2.2.2.2.1 k (by omega)
      exact ⟨d, n, t, z1, z2, z3, (c1 _ (by omega) (by omega)).trans z4, (c1 _ (by omega) (by omega)).trans z5, (c1 _ (by omega) (by omega)).trans z6⟩
  · by_cases x : k = S
    · subst x; exact e4
    · rw [c1 _ (by omega) (by omega)]; exact h2 k (by omega)
/-- the row behind a borrower's line -/
theorem ivx_ab (h : ivx S B g) (hB : B < 12) {s il cr : Nat} (hs : s < S) (hil : il < 10) (hcr : cr < 200) : ivx S (B + 1) (abF g B (nI (1 + B)) (nI s) (nI il) (nI cr)) := by
  have hS := h.1.1.2.1
  obtain ⟨A, hA⟩ : ∃ A, A = abF g B (nI (1 + B)) (nI s) (nI il) (nI cr) := ⟨_, rfl⟩
  have hW := wf_ab (nm := nI (1 + B)) (il := nI il) (cr := nI cr) h.1.1 hB hs rfl
  rw [← hA] at hW ⊢
  have c1 : ∀ i, (i < 89 + 11 * B ∨ 89 + 11 * B + 6 ≤ i) → i ≠ 4 → i ≠ 7 → A i = g i := fun i a b c => by
    rw [hA]; unfold abF; rw [upd_n c, upd_n b, upd_n (by omega), upd_n (by omega), upd_n (by omega), upd_n (by omega), upd_n (by omega), upd_n (by omega)]
  have e1 : A (89 + 11 * B + 1) = nI il := by rw [hA]; unfold abF; rw [upd_n (by omega), upd_n (by omega), upd_n (by omega), upd_n (by omega), upd_n (by omega), upd_s]
  have e2 : A (89 + 11 * B + 2) = nI cr := by rw [hA]; unfold abF; rw [upd_n (by omega), upd_n (by omega), upd_n (by omega), upd_n (by omega), upd_s]
  have e3 : A (89 + 11 * B + 3) = nI 0 := by rw [hA]; unfold abF; rw [upd_n (by omega), upd_n (by omega), upd_n (by omega), upd_s]; rfl
  have e4 : A (89 + 11 * B + 4) = nI 0 := by rw [hA]; unfold abF; rw [upd_n (by omega), upd_n (by omega), upd_s]; rfl
  have e5 : A (89 + 11 * B + 5) = nI (1 + B) := by rw [hA]; unfold abF; rw [upd_n (by omega), upd_n (by omega), upd_n (by omega), upd_n (by omega), upd_n (by omega), upd_n (by omega), upd_n (by omega), upd_s]
  have e7 : A 7 = g 7 + nI cr := by rw [hA]; unfold abF; rw [upd_s]
  obtain ⟨hi, h2, h3⟩ := h
  refine ⟨⟨hW, (c1 2 (by omega) (by omega) (by omega)).trans hi.2.1, fun b hb => ?_, ?_, ?_, fun k hk => ?_, fun b hb => ?_, fun k hk => absurd hk (Nat.not_lt_zero _), fun k hk => absurd hk (Nat.not_lt_zero _), fun j k x hj => absurd hj (Nat.not_lt_zero _), fun j k x hj => absurd hj (Nat.not_lt_zero _)⟩, fun k hk => ?_, fun k hk => ?_⟩
  · by_cases x : b = B
    · subst x; exact ⟨il, 0, 0, hil, by omega, by omega, e1, e3, e4⟩
    · obtain ⟨a, r, t, z1, z2, z3, z4, z5, z6⟩ := hi.2.2.1 b (by omega)
      exact ⟨a, r, t, z1, z2, z3, (c1 _ (by omega) (by omega) (by omega)).trans z4, (c1 _ (by omega) (by omega) (by omega)).trans z5, (c1 _ (by omega) (by omega) (by omega)).trans z6⟩
  · have z : suF (crG g) B 0 (g 8 - g 7) = 0 := hi.2.2.2.1
    show suF (crG A) (B + 1) 0 (A 8 - A 7) = 0
    rw [suF_last, Nat.zero_add, show crG A B = nI cr from e2, ← suF_add, c1 8 (by omega) (by omega) (by omega), e7, i3_a, ← z]
    exact suF_eq B 0 _ (fun j _ hj => c1 _ (by omega) (by omega) (by omega))
  · rw [c1 1 (by omega) (by omega) (by omega)]; exact hi.2.2.2.2.1
  · obtain ⟨d, n, t, z1, z2, z3, z4, z5, z6⟩ := hi.2.2.2.2.2.1 k hk
    exact ⟨d, n, t, z1, z2, z3, (c1 _ (by omega) (by omega) (by omega)).trans z4, (c1 _ (by omega) (by omega) (by omega)).trans z5, (c1 _ (by omega) (by omega) (by omega)).trans z6⟩
  · have i0 : ivN A 0 = 0 := rfl
    by_cases x : b = B
    · subst x
      rw [e2, nI_toInt (by omega), i0]
      omega
    · rw [c1 _ (by omega) (by omega) (by omega)]
      exact hi.2.2.2.2.2.2.1 b (by omega)
  · rw [c1 _ (by omega) (by omega) (by omega)]; exact h2 k hk
  · by_cases x : k = B
    · subst x; exact e5
    · rw [c1 _ (by omega) (by omega) (by omega)]; exact h3 k (by omega)
abbrev lnS (i d n : Nat) : List Nat := wdL 1 ++ ([32] ++ ([114 + i] ++ ([32] ++ (dig d ++ ([32] ++ dig n)))))
abbrev lnB (i s il cr : Nat) : List Nat := wdL 2 ++ ([32] ++ ([97 + i] ++ ([32] ++ ([114 + s] ++ ([32] ++ (dig il ++ ([32] ++ dig cr)))))))
abbrev lnH (w : Nat) : List Nat := wdL 6 ++ ([32] ++ dig w)
theorem lnS_len (i d n : Nat) : (lnS i d n).length = 10 + (dig d).length + (dig n).length := by simp [lnS, wdL]; omega
theorem lnB_len (i s il cr : Nat) : (lnB i s il cr).length = 14 + (dig il).length + (dig cr).length := by simp [lnB, wdL]; omega
theorem lnH_len (w : Nat) : (lnH w).length = 6 + (dig w).length := by simp [lnH, wdL]; omega
/-- the word at a line's head -/
theorem ln_hd {x : PR} {k i : Nat} {eo : Int32} (hx : rp x = (k + 1, 3, k, 0, eo)) (hi : i < 7) (hi2 : i = 0 ∨ i = 1 ∨ i = 2 ∨ i = 6) (hu : tA t (k + 1) (wdL i)) (he : t (k + 1 + (wdL i).length) = sb_b 32) (hl : k + 1 + (wdL i).length < len) : ln0 t len x = rW x (k + 1 + (wdL i).length, 1, k + 1, 0, eo) := by
  obtain ⟨a, b, c⟩ := wd_c i hi hi2
  have h0 := hu 0 b
  have g0 := (c 0 b)
  have hs : sk0 t len (k + 1, 3, k, 0, eo) = k + 1 := sk_nb (by rw [show k + 1 = k + 1 + 0 from rfl, h0]; exact bl_c _ (by omega) (by omega))
  have hn : nxP t len (k + 1, 3, k, 0, eo) = (k + 1 + (wdL i).length, 1, k + 1, 0, eo) := nx_w rfl hs (fun z => by
    have z1 : (3 = 1 ∨ 3 = 2) := z.1
    omega) hu b (fun j hj => ⟨(c j hj).1, (c j hj).2.1⟩) (Or.inr ⟨hl, Or.inl he⟩)
  unfold ln0
  rw [hx]
  show rW x (nxP t len (if ¬ (3 = 3) then _ else (k + 1, 3, k, 0, eo))) = _
  rw [if_neg (fun z => z rfl), hn]
theorem rd_st {i k d n : Nat} {eo : Int32} (h : ivx i 0 g) (hi : i < 8) (hd : d < 100) (hn : n < 100) (ht : tA t (k + 1) (lnS i d n)) (h59 : t (k + 1 + (lnS i d n).length) = sb_b 59) (hl : k + 1 + (lnS i d n).length < len) : lnL t len (g, i, 0, 0, 0, (k + 1, 3, k, 0, eo)) = (asF g i (nI (18 + i)) (nI d) (nI n), i + 1, 0, 0, 0, (k + 1 + (lnS i d n).length + 1, 3, k + 1 + (lnS i d n).length, 0, eo)) := by
  have hL := lnS_len i d n
  have w1 := tA_l ht
  have r1 := tA_r ht
  have l6 : (wdL 1).length = 6 := rfl
  rw [l6] at r1
  have b1 : t (k + 1 + 6) = sb_b 32 := tA_1 r1
  have r2 := tA_r (u := [32]) r1
  have c2 : t (k + 1 + 6 + 1) = sb_b (114 + i) := tA_1 r2
  have r3 := tA_r (u := [114 + i]) r2
  have b3 : t (k + 1 + 6 + 1 + 1) = sb_b 32 := tA_1 r3
  have r4 := tA_r (u := [32]) r3
  have d4 := tA_l r4
  have r5 := tA_r r4
  have b5 : t (k + 1 + 6 + 1 + 1 + 1 + (dig d).length) = sb_b 32 := tA_1 r5
  have d6 := tA_r (u := [32]) r5
  have e0 := ln_hd (t := t) (len := len) (x := (g, i, 0, 0, 0, (k + 1, 3, k, 0, eo))) (i := 1) rfl (by decide) (by decide) w1 (by rw [l6]; exact b1) (by rw [l6]; omega)
  rw [l6] at e0
  have wd : wdB t 1 (k + 1 + 6, 1, k + 1, 0, eo) := wd_ok (i := 1) (by decide) (by decide) w1
  obtain ⟨m1, m2⟩ := nm_ok (len := len) (tk := 1) (ts := k + 1) (eo := eo) b1 c2 (by omega) (by omega) (Or.inr ⟨by omega, Or.inl b3⟩)
  rw [show 114 + i - 96 = 18 + i by omega] at m2
  obtain ⟨n1, n2⟩ := nu_ok (len := len) (k := k + 1 + 6 + 2) (tk := 1) (ts := k + 1 + 6 + 1) (eo := eo) (lo := 0) (hi := 99) b3 d4 (by omega) (Or.inr ⟨by omega, Or.inl b5⟩) (by omega) (by omega) (by omega)
  have hE : k + 1 + (lnS i d n).length = k + 1 + 6 + 2 + 1 + (dig d).length + 1 + (dig n).length := by omega
  obtain ⟨q1, q2⟩ := nu_ok (len := len) (k := k + 1 + 6 + 2 + 1 + (dig d).length) (tk := 2) (ts := k + 1 + 6 + 2 + 1) (eo := eo) (lo := 0) (hi := 99) b5 d6 (by omega) (Or.inr ⟨by omega, Or.inr (by rw [← hE]; exact h59)⟩) (by omega) (by omega) (by omega)
  have n1 : nuP t len 0 99 (k + 1 + 6 + 2, 1, k + 1 + 6 + 1, 0, eo) = _ := n1
  have n2 : nuV t len 0 99 (k + 1 + 6 + 2, 1, k + 1 + 6 + 1, 0, eo) = _ := n2
  have q1 : nuP t len 0 99 (k + 1 + 6 + 2 + 1 + (dig d).length, 2, k + 1 + 6 + 2 + 1, 0, eo) = _ := q1
  have q2 : nuV t len 0 99 (k + 1 + 6 + 2 + 1 + (dig d).length, 2, k + 1 + 6 + 2 + 1, 0, eo) = _ := q2
  have a0 : st0 (g, i, 0, 0, 0, (k + 1 + 6, 1, k + 1, 0, eo)) = (k + 1 + 6, 1, k + 1, 0, eo) := if_neg (show ¬ i = 8 by omega)
  have a1 : st1 t len (g, i, 0, 0, 0, (k + 1 + 6, 1, k + 1, 0, eo)) = (k + 1 + 6 + 2, 1, k + 1 + 6 + 1, 0, eo) := by
    unfold st1
    rw [a0, m1, m2]
    exact if_neg (fun z => z (sm_new (S := i) h (by omega)))
  have a2 : st2 t len (g, i, 0, 0, 0, (k + 1 + 6, 1, k + 1, 0, eo)) = (k + 1 + 6 + 2 + 1 + (dig d).length, 2, k + 1 + 6 + 2 + 1, 0, eo) := by
    unfold st2; rw [a1]; exact n1
  have a3 : st3 t len (g, i, 0, 0, 0, (k + 1 + 6, 1, k + 1, 0, eo)) = (k + 1 + (lnS i d n).length, 2, k + 1 + 6 + 2 + 1 + (dig d).length + 1, 0, eo) := by
    unfold st3; rw [a2, q1, hE]
  have s1 : dsL t len (g, i, 0, 0, 0, (k + 1 + 6, 1, k + 1, 0, eo)) = (asF g i (nI (18 + i)) (nI d) (nI n), i + 1, 0, 0, 0, (k + 1 + (lnS i d n).length, 2, k + 1 + 6 + 2 + 1 + (dig d).length + 1, 0, eo)) := by
    have s0 : dsL t len (g, i, 0, 0, 0, (k + 1 + 6, 1, k + 1, 0, eo)) = stL t len (g, i, 0, 0, 0, (k + 1 + 6, 1, k + 1, 0, eo)) := if_pos wd
    rw [s0]
    refine (stL_1 (g := g) (S := i) (B := 0) (L := 0) (P := 0) (ps := (k + 1 + 6, 1, k + 1, 0, eo)) (by rw [a3])).symm.trans ?_
    have v1 : nuV t len 0 99 (nuP t len 0 99 (st1 t len (g, i, 0, 0, 0, (k + 1 + 6, 1, k + 1, 0, eo)))) = nI n := by rw [a1, n1]; exact q2
    rw [v1, a0, m2, a1, n2, a3]
  unfold lnL
  rw [e0, show rW (g, i, 0, 0, 0, (k + 1, 3, k, 0, eo)) (k + 1 + 6, 1, k + 1, 0, eo) = (g, i, 0, 0, 0, (k + 1 + 6, 1, k + 1, 0, eo)) from rfl, s1]
  show (asF g i (nI (18 + i)) (nI d) (nI n), i + 1, 0, 0, 0, nxP t len (k + 1 + (lnS i d n).length, 2, k + 1 + 6 + 2 + 1 + (dig d).length + 1, 0, eo)) = _
  rw [nx_sm (by rw [h59, sb_59]) hl]
end LIN
