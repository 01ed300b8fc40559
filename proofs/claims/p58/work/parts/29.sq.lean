/-! ===== a State while it is built ===== -/
abbrev sq_arr (a f n : Nat) : vp_A := (n, .inr (.inr (.inr (.inr (fun i => if i < f then some (a + i) else none)))))
def sq_cell (tb : Nat → ClassId) (a f1 f2 f3 f4 o : Nat) : va_E :=
  if o = 0 then .inr (5, sc_fs a (fun _ => 0)) else if o = 1 then .inl (tb 6, sq_arr (a + 5) f1 8) else if o = 2 then .inl (tb 7, sq_arr (a + 13) f2 12) else if o = 3 then .inl (tb 8, sq_arr (a + 25) f3 30) else if o = 4 then .inl (tb 9, sq_arr (a + 55) f4 10)
  else if o < 13 then .inr (6, st_fs (fun _ => 0) (o - 5)) else if o < 25 then .inr (0, bo_fs (fun _ => 0) (o - 13)) else if o < 55 then .inr (2, ln_fs (fun _ => 0) (o - 25)) else .inr (4, pm_fs (fun _ => 0) (o - 55))
def sq (tb : Nat → ClassId) (a f1 f2 f3 f4 cnt : Nat) (M0 : me_M) : me_M := fun q => if a ≤ q ∧ q < a + cnt then some (sq_cell tb a f1 f2 f3 f4 (q - a)) else M0 q
section SQ
variable {tb : Nat → ClassId} {a f1 f2 f3 f4 cnt : Nat} {M0 : me_M}
theorem sq_in {o : Nat} (h : o < cnt) : sq tb a f1 f2 f3 f4 cnt M0 (a + o) = some (sq_cell tb a f1 f2 f3 f4 o) := by
  unfold sq
  rw [if_pos ⟨by omega, by omega⟩, show a + o - a = o by omega]
theorem sq_st (h : 0 < cnt) : sq tb a f1 f2 f3 f4 cnt M0 a = some (.inr (5, sc_fs a (fun _ => 0))) := sq_in (o := 0) h
theorem sq_a1 (h : 1 < cnt) : sq tb a f1 f2 f3 f4 cnt M0 (a + 1) = some (.inl (tb 6, sq_arr (a + 5) f1 8)) := sq_in h
theorem sq_a2 (h : 2 < cnt) : sq tb a f1 f2 f3 f4 cnt M0 (a + 2) = some (.inl (tb 7, sq_arr (a + 13) f2 12)) := sq_in h
theorem sq_a3 (h : 3 < cnt) : sq tb a f1 f2 f3 f4 cnt M0 (a + 3) = some (.inl (tb 8, sq_arr (a + 25) f3 30)) := sq_in h
theorem sq_a4 (h : 4 < cnt) : sq tb a f1 f2 f3 f4 cnt M0 (a + 4) = some (.inl (tb 9, sq_arr (a + 55) f4 10)) := sq_in h
theorem sq_new {q : Nat} {x : va_E} (hq : q = a + cnt) (hx : sq_cell tb a f1 f2 f3 f4 cnt = x) : me_up (sq tb a f1 f2 f3 f4 cnt M0) q x = sq tb a f1 f2 f3 f4 (cnt + 1) M0 := by
  subst hq
  funext q
  by_cases h : q = a + cnt
  · subst h
    rw [me_up_s, sq_in (by omega), hx]
  · rw [me_up_n h]
    unfold sq
    by_cases hr : a ≤ q ∧ q < a + cnt
    · rw [if_pos hr, if_pos (by omega)]
    · rw [if_neg hr, if_neg (by omega)]
theorem sq_n_street {q : Nat} (hq : q = a + cnt) (hc : 5 ≤ cnt ∧ cnt < 13) : me_up (sq tb a f1 f2 f3 f4 cnt M0) q (.inr (6, [.int 0, .int 0, .int 0, .int 0, .int 0, .int 0])) = sq tb a f1 f2 f3 f4 (cnt + 1) M0 :=
  sq_new hq (by unfold sq_cell; rw [if_neg (by omega), if_neg (by omega), if_neg (by omega), if_neg (by omega), if_neg (by omega), if_pos (by omega)])
theorem sq_n_borrower {q : Nat} (hq : q = a + cnt) (hc : 13 ≤ cnt ∧ cnt < 25) : me_up (sq tb a f1 f2 f3 f4 cnt M0) q (.inr (0, [.int 0, .int 0, .int 0, .int 0, .int 0, .int 0])) = sq tb a f1 f2 f3 f4 (cnt + 1) M0 :=
  sq_new hq (by unfold sq_cell; rw [if_neg (by omega), if_neg (by omega), if_neg (by omega), if_neg (by omega), if_neg (by omega), if_neg (by omega), if_pos (by omega)])
theorem sq_n_loan {q : Nat} (hq : q = a + cnt) (hc : 25 ≤ cnt ∧ cnt < 55) : me_up (sq tb a f1 f2 f3 f4 cnt M0) q (.inr (2, [.int 0, .int 0, .int 0, .int 0, .int 0])) = sq tb a f1 f2 f3 f4 (cnt + 1) M0 :=
  sq_new hq (by unfold sq_cell; rw [if_neg (by omega), if_neg (by omega), if_neg (by omega), if_neg (by omega), if_neg (by omega), if_neg (by omega), if_neg (by omega), if_pos (by omega)])
theorem sq_n_permit {q : Nat} (hq : q = a + cnt) (hc : 55 ≤ cnt) : me_up (sq tb a f1 f2 f3 f4 cnt M0) q (.inr (4, [.int 0, .int 0, .int 0, .int 0])) = sq tb a f1 f2 f3 f4 (cnt + 1) M0 :=
  sq_new hq (by unfold sq_cell; rw [if_neg (by omega), if_neg (by omega), if_neg (by omega), if_neg (by omega), if_neg (by omega), if_neg (by omega), if_neg (by omega), if_neg (by omega)]; simp [bz])
theorem sq_put {g1 g2 g3 g4 o : Nat} {x : va_E} (ho : o < cnt) (hx : sq_cell tb a g1 g2 g3 g4 o = x) (h : ∀ i, i ≠ o → sq_cell tb a g1 g2 g3 g4 i = sq_cell tb a f1 f2 f3 f4 i) : me_up (sq tb a f1 f2 f3 f4 cnt M0) (a + o) x = sq tb a g1 g2 g3 g4 cnt M0 := by
  funext q
  by_cases hq : q = a + o
  · subst hq
    rw [me_up_s, sq_in ho, hx]
  · rw [me_up_n hq]
    unfold sq
    by_cases hr : a ≤ q ∧ q < a + cnt
    · rw [if_pos hr, if_pos hr, h (q - a) (by omega)]
    · rw [if_neg hr, if_neg hr]
theorem sq_fill {a f k v : Nat} (hk : k = f) (hv : v = a + k) : va_up (fun i => if i < f then some (a + i) else none) k (some v) = (fun i => if i < f + 1 then some (a + i) else none : Nat → Option Nat) := by
  subst hk; subst hv
  funext i
  unfold va_up
  by_cases h : i = k
  · subst h; simp
  · rw [if_neg h]
    show (if i < k then some (a + i) else none) = _
    by_cases h1 : i < k
    · rw [if_pos h1, if_pos (by omega)]
    · rw [if_neg h1, if_neg (by omega)]
theorem sq_f1 {k v : Nat} (hc : 1 < cnt) (hv : k = f1 ∧ v = a + 5 + k) : me_up (sq tb a f1 f2 f3 f4 cnt M0) (a + 1) (.inl (tb 6, 8, .inr (.inr (.inr (.inr (va_up (fun i => if i < f1 then some (a + 5 + i) else none) k (some v))))))) = sq tb a (f1 + 1) f2 f3 f4 cnt M0 := by
  rw [sq_fill hv.1 hv.2]
  refine sq_put hc rfl (fun i hi => ?_)
  unfold sq_cell
  by_cases h0 : i = 0
  · rw [if_pos h0, if_pos h0]
  · rw [if_neg h0, if_neg h0, if_neg hi, if_neg hi]
theorem sq_f2 {k v : Nat} (hc : 2 < cnt) (hv : k = f2 ∧ v = a + 13 + k) : me_up (sq tb a f1 f2 f3 f4 cnt M0) (a + 2) (.inl (tb 7, 12, .inr (.inr (.inr (.inr (va_up (fun i => if i < f2 then some (a + 13 + i) else none) k (some v))))))) = sq tb a f1 (f2 + 1) f3 f4 cnt M0 := by
  rw [sq_fill hv.1 hv.2]
  refine sq_put hc rfl (fun i hi => ?_)
  unfold sq_cell
  by_cases h0 : i = 0
  · rw [if_pos h0, if_pos h0]
  by_cases h1 : i = 1
  · rw [if_neg h0, if_neg h0, if_pos h1, if_pos h1]
  · rw [if_neg h0, if_neg h0, if_neg h1, if_neg h1, if_neg hi, if_neg hi]
theorem sq_f3 {k v : Nat} (hc : 3 < cnt) (hv : k = f3 ∧ v = a + 25 + k) : me_up (sq tb a f1 f2 f3 f4 cnt M0) (a + 3) (.inl (tb 8, 30, .inr (.inr (.inr (.inr (va_up (fun i => if i < f3 then some (a + 25 + i) else none) k (some v))))))) = sq tb a f1 f2 (f3 + 1) f4 cnt M0 := by
  rw [sq_fill hv.1 hv.2]
  refine sq_put hc rfl (fun i hi => ?_)
  unfold sq_cell
  by_cases h0 : i = 0
  · rw [if_pos h0, if_pos h0]
  by_cases h1 : i = 1
  · rw [if_neg h0, if_neg h0, if_pos h1, if_pos h1]
  by_cases h2 : i = 2
  · rw [if_neg h0, if_neg h0, if_neg h1, if_neg h1, if_pos h2, if_pos h2]
  · rw [if_neg h0, if_neg h0, if_neg h1, if_neg h1, if_neg h2, if_neg h2, if_neg hi, if_neg hi]
theorem sq_f4 {k v : Nat} (hc : 4 < cnt) (hv : k = f4 ∧ v = a + 55 + k) : me_up (sq tb a f1 f2 f3 f4 cnt M0) (a + 4) (.inl (tb 9, 10, .inr (.inr (.inr (.inr (va_up (fun i => if i < f4 then some (a + 55 + i) else none) k (some v))))))) = sq tb a f1 f2 f3 (f4 + 1) cnt M0 := by
  rw [sq_fill hv.1 hv.2]
  refine sq_put hc rfl (fun i hi => ?_)
  unfold sq_cell
  by_cases h0 : i = 0
  · rw [if_pos h0, if_pos h0]
  by_cases h1 : i = 1
  · rw [if_neg h0, if_neg h0, if_pos h1, if_pos h1]
  by_cases h2 : i = 2
  · rw [if_neg h0, if_neg h0, if_neg h1, if_neg h1, if_pos h2, if_pos h2]
  by_cases h3 : i = 3
  · rw [if_neg h0, if_neg h0, if_neg h1, if_neg h1, if_neg h2, if_neg h2, if_pos h3, if_pos h3]
  · rw [if_neg h0, if_neg h0, if_neg h1, if_neg h1, if_neg h2, if_neg h2, if_neg h3, if_neg h3, if_neg hi, if_neg hi]
theorem sq_e_street {k : Nat} (h : 5 + k < cnt) (hk : k < 8) : sq tb a f1 f2 f3 f4 cnt M0 (a + 5 + k) = some (.inr (6, st_fs (fun _ => 0) k)) := by
  rw [Nat.add_assoc, sq_in h]; unfold sq_cell
  rw [if_neg (by omega), if_neg (by omega), if_neg (by omega), if_neg (by omega), if_neg (by omega), if_pos (by omega)]
theorem sq_e_borrower {k : Nat} (h : 13 + k < cnt) (hk : k < 12) : sq tb a f1 f2 f3 f4 cnt M0 (a + 13 + k) = some (.inr (0, bo_fs (fun _ => 0) k)) := by
  rw [Nat.add_assoc, sq_in h]; unfold sq_cell
  rw [if_neg (by omega), if_neg (by omega), if_neg (by omega), if_neg (by omega), if_neg (by omega), if_neg (by omega), if_pos (by omega)]
theorem sq_e_loan {k : Nat} (h : 25 + k < cnt) (hk : k < 30) : sq tb a f1 f2 f3 f4 cnt M0 (a + 25 + k) = some (.inr (2, ln_fs (fun _ => 0) k)) := by
  rw [Nat.add_assoc, sq_in h]; unfold sq_cell
  rw [if_neg (by omega), if_neg (by omega), if_neg (by omega), if_neg (by omega), if_neg (by omega), if_neg (by omega), if_neg (by omega), if_pos (by omega)]
theorem sq_e_permit {k : Nat} (h : 55 + k < cnt) (hk : k < 10) : sq tb a f1 f2 f3 f4 cnt M0 (a + 55 + k) = some (.inr (4, pm_fs (fun _ => 0) k)) := by
  rw [Nat.add_assoc, sq_in h]; unfold sq_cell
  rw [if_neg (by omega), if_neg (by omega), if_neg (by omega), if_neg (by omega), if_neg (by omega), if_neg (by omega), if_neg (by omega), if_neg (by omega)]
theorem sq_full : sq tb a 8 12 30 10 65 M0 = sp tb a (fun _ => 0) M0 := rfl
theorem sq_e0 (b : Nat) : (fun i => if i < 0 then some (b + i) else none : Nat → Option Nat) = fun _ => none := by funext i; simp
theorem sq_start {M : me_M} {c1 c2 c3 : va_E} : me_up (me_up (me_up (me_up (me_up (me_up (me_up (me_up M (a + 1) (.inl (tb 6, 8, .inr (.inr (.inr (.inr (fun _ => none))))))) a c1) (a + 2) (.inl (tb 7, 12, .inr (.inr (.inr (.inr (fun _ => none))))))) a c2) (a + 3) (.inl (tb 8, 30, .inr (.inr (.inr (.inr (fun _ => none))))))) a c3) (a + 4) (.inl (tb 9, 10, .inr (.inr (.inr (.inr (fun _ => none))))))) a (.inr (5, sc_fs a (fun _ => 0))) = sq tb a 0 0 0 0 (5 + 0) M := by
  funext q
  unfold sq me_up
  by_cases h0 : q = a
  · subst h0; rw [if_pos rfl, if_pos (by omega), Nat.sub_self]; rfl
  rw [if_neg h0]
  by_cases h4 : q = a + 4
  · subst h4; rw [if_pos rfl, if_pos (by omega), show a + 4 - a = 4 by omega, ← sq_e0 (a + 55)]; rfl
  rw [if_neg h4, if_neg h0]
  by_cases h3 : q = a + 3
  · subst h3; rw [if_pos rfl, if_pos (by omega), show a + 3 - a = 3 by omega, ← sq_e0 (a + 25)]; rfl
  rw [if_neg h3, if_neg h0]
  by_cases h2 : q = a + 2
  · subst h2; rw [if_pos rfl, if_pos (by omega), show a + 2 - a = 2 by omega, ← sq_e0 (a + 13)]; rfl
  rw [if_neg h2, if_neg h0]
  by_cases h1 : q = a + 1
  · subst h1; rw [if_pos rfl, if_pos (by omega), show a + 1 - a = 1 by omega, ← sq_e0 (a + 5)]; rfl
  rw [if_neg h1, if_neg (by omega)]
end SQ
