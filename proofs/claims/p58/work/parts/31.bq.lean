/-! ===== the bureau's cells ===== -/
/-- where the states stand: 0 the draft, 1 to 10 the history, 11 the present one, 12 and 13 the slots -/
def sa (bo j : Nat) : Nat := bo + (if j = 0 then 1 else if j ≤ 10 then 68 + 65 * (j - 1) else if j = 11 then 722 else if j = 12 then 789 else 854)
theorem sa_0 (bo : Nat) : sa bo 0 = bo + 1 := rfl
theorem sa_h (bo : Nat) {i : Nat} (h : i < 10) : sa bo (1 + i) = bo + 68 + 65 * i := by
  unfold sa; rw [if_neg (by omega), if_pos (by omega)]; omega
theorem sa_11 (bo : Nat) : sa bo 11 = bo + 722 := rfl
theorem sa_s (bo : Nat) {i : Nat} (h : i < 2) : sa bo (12 + i) = bo + 789 + 65 * i := by
  rcases (show i = 0 ∨ i = 1 by omega) with rfl | rfl <;> rfl
theorem sa_cases {j : Nat} (h : j < 14) : j = 0 ∨ (∃ i, i < 10 ∧ j = 1 + i) ∨ j = 11 ∨ (∃ i, i < 2 ∧ j = 12 + i) := by
  rcases (show j = 0 ∨ (1 ≤ j ∧ j ≤ 10) ∨ j = 11 ∨ (12 ≤ j) by omega) with h | h | h | h
  · exact Or.inl h
  · exact Or.inr (Or.inl ⟨j - 1, by omega, by omega⟩)
  · exact Or.inr (Or.inr (Or.inl h))
  · exact Or.inr (Or.inr (Or.inr ⟨j - 12, by omega, by omega⟩))
theorem sa_apart {bo i j : Nat} (hi : i < 14) (hj : j < 14) (h : i ≠ j) : sa bo i + 65 ≤ sa bo j ∨ sa bo j + 65 ≤ sa bo i := by
  rcases sa_cases hi with rfl | ⟨x, hx, rfl⟩ | rfl | ⟨x, hx, rfl⟩ <;> rcases sa_cases hj with rfl | ⟨y, hy, rfl⟩ | rfl | ⟨y, hy, rfl⟩ <;>
    (try simp only [sa_0, sa_11]) <;> (try rw [sa_h bo hx]) <;> (try rw [sa_s bo hx]) <;> (try rw [sa_h bo hy]) <;> (try rw [sa_s bo hy]) <;> omega
/-- where the header's cells stand no State stands -/
theorem sa_head {bo j q : Nat} (hj : j < 14) (hq : q = bo ∨ q = bo + 66 ∨ q = bo + 67 ∨ q = bo + 718 ∨ q = bo + 719 ∨ q = bo + 720 ∨ q = bo + 721) : q < sa bo j ∨ sa bo j + 65 ≤ q := by
  rcases sa_cases hj with rfl | ⟨x, hx, rfl⟩ | rfl | ⟨x, hx, rfl⟩
  · rw [sa_0]; omega
  · rw [sa_h bo hx]; omega
  · rw [sa_11]; omega
  · rw [sa_s bo hx]; omega
theorem sa_in {bo j : Nat} (hj : j < 14) : bo < sa bo j ∧ sa bo j + 65 ≤ bo + 919 := by
  rcases sa_cases hj with rfl | ⟨x, hx, rfl⟩ | rfl | ⟨x, hx, rfl⟩
  · rw [sa_0]; omega
  · rw [sa_h bo hx]; omega
  · rw [sa_11]; omega
  · rw [sa_s bo hx]; omega
def spN (tb : Nat → ClassId) (bo : Nat) (G : Nat → Nat → Int32) : Nat → me_M → me_M
  | 0, M0 => M0
  | j + 1, M0 => sp tb (sa bo j) (G j) (spN tb bo G j M0)
def updG (G : Nat → Nat → Int32) (j : Nat) (g : Nat → Int32) : Nat → Nat → Int32 := fun i => if i = j then g else G i
theorem updG_s (G : Nat → Nat → Int32) (j : Nat) (g : Nat → Int32) : updG G j g j = g := by simp [updG]
theorem updG_n {G : Nat → Nat → Int32} {i j : Nat} {g : Nat → Int32} (h : i ≠ j) : updG G j g i = G i := by simp [updG, h]
theorem spN_at {tb : Nat → ClassId} {bo : Nat} {G : Nat → Nat → Int32} {M0 : me_M} : ∀ {N j o : Nat}, N ≤ 14 → j < N → o < 65 → spN tb bo G N M0 (sa bo j + o) = some (sp_cell tb (sa bo j) (G j) o)
  | 0, j, o, _, h, _ => by omega
  | N + 1, j, o, hN, hj, ho => by
    show sp tb (sa bo N) (G N) (spN tb bo G N M0) (sa bo j + o) = _
    by_cases h : j = N
    · subst h; exact sp_in _ _ _ _ ho
    · have := sa_apart (bo := bo) (show j < 14 by omega) (show N < 14 by omega) h
      rw [sp_out (by omega)]
      exact spN_at (by omega) (by omega) ho
theorem spN_out {tb : Nat → ClassId} {bo : Nat} {G : Nat → Nat → Int32} {M0 : me_M} {q : Nat} : ∀ {N : Nat}, (∀ j, j < N → q < sa bo j ∨ sa bo j + 65 ≤ q) → spN tb bo G N M0 q = M0 q
  | 0, _ => rfl
  | N + 1, h => by
    show sp tb (sa bo N) (G N) (spN tb bo G N M0) q = _
    rw [sp_out (h N (by omega))]
    exact spN_out (fun j hj => h j (by omega))
abbrev hd_b (bo : Nat) (F : Nat → Int32) : List Value := [.ref (bo + 722), .ref (bo + 1), .ref (bo + 66), .ref (bo + 718), .ref (bo + 719), .ref (bo + 720), .int (F 0), .ref (bo + 721), .int (F 1), .int (F 2), .int (F 3)]
abbrev hd_h (bo : Nat) (F : Nat → Int32) : List Value := [.ref (bo + 67), .int (F 4), .int (F 5)]
abbrev st_arr (a n : Nat) : vp_A := (n, .inr (.inr (.inr (.inr (fun i => if i < n then some (a + 65 * i) else none)))))
def hdq (tb : Nat → ClassId) (bo : Nat) (F sf inp out : Nat → Int32) (q : Nat) : Option va_E :=
  if q = bo then some (.inr (7, hd_b bo F)) else if q = bo + 66 then some (.inr (1, hd_h bo F)) else if q = bo + 67 then some (.inl (tb 5, st_arr (bo + 68) 10)) else if q = bo + 718 then some (.inl (tb 5, st_arr (bo + 789) 2))
  else if q = bo + 719 then some (.inl (tb 2, 2, .inl sf)) else if q = bo + 720 then some (.inl (tb 1, 700, .inl inp)) else if q = bo + 721 then some (.inl (tb 1, 64, .inl out)) else none
def bq (tb : Nat → ClassId) (bo : Nat) (G : Nat → Nat → Int32) (F sf inp out : Nat → Int32) (M0 : me_M) : me_M := fun q => match hdq tb bo F sf inp out q with
  | some x => some x
  | none => spN tb bo G 14 M0 q
section BQ
variable {tb : Nat → ClassId} {bo : Nat} {G : Nat → Nat → Int32} {F sf inp out : Nat → Int32} {M0 : me_M} {g : Nat → Int32}
theorem bq_hd {q : Nat} {x : va_E} (h : hdq tb bo F sf inp out q = some x) : bq tb bo G F sf inp out M0 q = some x := by unfold bq; rw [h]
theorem bq_no {q : Nat} (h : hdq tb bo F sf inp out q = none) : bq tb bo G F sf inp out M0 q = spN tb bo G 14 M0 q := by unfold bq; rw [h]
theorem hdq_none {q : Nat} (h : ¬ (q = bo ∨ q = bo + 66 ∨ q = bo + 67 ∨ q = bo + 718 ∨ q = bo + 719 ∨ q = bo + 720 ∨ q = bo + 721)) : hdq tb bo F sf inp out q = none := by
  unfold hdq
  rw [if_neg (by omega), if_neg (by omega), if_neg (by omega), if_neg (by omega), if_neg (by omega), if_neg (by omega), if_neg (by omega)]
theorem hdq_some {q : Nat} {x : va_E} (h : hdq tb bo F sf inp out q = some x) : q = bo ∨ q = bo + 66 ∨ q = bo + 67 ∨ q = bo + 718 ∨ q = bo + 719 ∨ q = bo + 720 ∨ q = bo + 721 := by
  by_cases c : (q = bo ∨ q = bo + 66 ∨ q = bo + 67 ∨ q = bo + 718 ∨ q = bo + 719 ∨ q = bo + 720 ∨ q = bo + 721)
  · exact c
  · rw [hdq_none c] at h; cases h
/-- the header over the present State -/
theorem bq_at {q : Nat} {x : va_E} (h : hdq tb bo F sf inp out q = some x) : sp tb (bo + 722) g (bq tb bo G F sf inp out M0) q = some x := by
  rw [sp_out (show q < bo + 722 ∨ bo + 722 + 65 ≤ q from sa_head (j := 11) (by omega) (hdq_some h)), bq_hd h]
theorem h_b : hdq tb bo F sf inp out bo = some (.inr (7, hd_b bo F)) := by unfold hdq; rw [if_pos rfl]
theorem h_h : hdq tb bo F sf inp out (bo + 66) = some (.inr (1, hd_h bo F)) := by unfold hdq; rw [if_neg (by omega), if_pos rfl]
theorem h_ha : hdq tb bo F sf inp out (bo + 67) = some (.inl (tb 5, st_arr (bo + 68) 10)) := by unfold hdq; rw [if_neg (by omega), if_neg (by omega), if_pos rfl]
theorem h_sa : hdq tb bo F sf inp out (bo + 718) = some (.inl (tb 5, st_arr (bo + 789) 2)) := by unfold hdq; rw [if_neg (by omega), if_neg (by omega), if_neg (by omega), if_pos rfl]
theorem h_sf : hdq tb bo F sf inp out (bo + 719) = some (.inl (tb 2, 2, .inl sf)) := by unfold hdq; rw [if_neg (by omega), if_neg (by omega), if_neg (by omega), if_neg (by omega), if_pos rfl]
theorem h_in : hdq tb bo F sf inp out (bo + 720) = some (.inl (tb 1, 700, .inl inp)) := by unfold hdq; rw [if_neg (by omega), if_neg (by omega), if_neg (by omega), if_neg (by omega), if_neg (by omega), if_pos rfl]
theorem h_ou : hdq tb bo F sf inp out (bo + 721) = some (.inl (tb 1, 64, .inl out)) := by unfold hdq; rw [if_neg (by omega), if_neg (by omega), if_neg (by omega), if_neg (by omega), if_neg (by omega), if_neg (by omega), if_pos rfl]
theorem bq_put {F' sf' inp' out' : Nat → Int32} {q : Nat} {x : va_E} (hq : hdq tb bo F' sf' inp' out' q = some x) (ho : ∀ i, i ≠ q → hdq tb bo F' sf' inp' out' i = hdq tb bo F sf inp out i) : me_up (sp tb (bo + 722) g (bq tb bo G F sf inp out M0)) q x = sp tb (bo + 722) g (bq tb bo G F' sf' inp' out' M0) := by
  funext i
  by_cases h : i = q
  · subst h; rw [me_up_s, bq_at hq]
  · rw [me_up_n h]
    unfold sp bq
    rw [ho i h]
theorem bq_wb {i : Nat} {v : Int32} {fs : List Value} (hi : i < 4) (hf : hd_b bo (upd F i v) = fs) : me_up (sp tb (bo + 722) g (bq tb bo G F sf inp out M0)) bo (.inr (7, fs)) = sp tb (bo + 722) g (bq tb bo G (upd F i v) sf inp out M0) := by
  refine bq_put (by rw [← hf]; exact h_b) (fun q hq => ?_)
  have e : hd_h bo (upd F i v) = hd_h bo F := by simp only [hd_h]; rw [upd_n (by omega), upd_n (by omega)]
  unfold hdq
  rw [if_neg hq, if_neg hq, e]
theorem bq_wh {i : Nat} {v : Int32} {fs : List Value} (hi : 4 ≤ i ∧ i < 6) (hf : hd_h bo (upd F i v) = fs) : me_up (sp tb (bo + 722) g (bq tb bo G F sf inp out M0)) (bo + 66) (.inr (1, fs)) = sp tb (bo + 722) g (bq tb bo G (upd F i v) sf inp out M0) := by
  refine bq_put (by rw [← hf]; exact h_h) (fun q hq => ?_)
  have e : hd_b bo (upd F i v) = hd_b bo F := by simp only [hd_b]; rw [upd_n (by omega), upd_n (by omega), upd_n (by omega), upd_n (by omega)]
  unfold hdq
  rw [if_neg hq, if_neg hq, e]
theorem bq_wsf {f : Nat → Int32} : me_up (sp tb (bo + 722) g (bq tb bo G F sf inp out M0)) (bo + 719) (.inl (tb 2, 2, .inl f)) = sp tb (bo + 722) g (bq tb bo G F f inp out M0) := by
  refine bq_put h_sf (fun q hq => ?_)
  unfold hdq; rw [if_neg hq, if_neg hq]
theorem bq_win {f : Nat → Int32} : me_up (sp tb (bo + 722) g (bq tb bo G F sf inp out M0)) (bo + 720) (.inl (tb 1, 700, .inl f)) = sp tb (bo + 722) g (bq tb bo G F sf f out M0) := by
  refine bq_put h_in (fun q hq => ?_)
  unfold hdq; rw [if_neg hq, if_neg hq]
theorem bq_wou {f : Nat → Int32} : me_up (sp tb (bo + 722) g (bq tb bo G F sf inp out M0)) (bo + 721) (.inl (tb 1, 64, .inl f)) = sp tb (bo + 722) g (bq tb bo G F sf inp f M0) := by
  refine bq_put h_ou (fun q hq => ?_)
  unfold hdq; rw [if_neg hq, if_neg hq]
theorem hdq_sa {j o : Nat} (hj : j < 14) (ho : o < 65) : hdq tb bo F sf inp out (sa bo j + o) = none := by
  apply hdq_none
  intro h
  have := sa_head hj h
  omega
/-- another State than the present one -/
theorem bq_oth {j : Nat} (hj : j < 14) (h : j ≠ 11) : oth tb (sa bo j) (G j) (sp tb (bo + 722) g (bq tb bo G F sf inp out M0)) := by
  intro o ho
  have := sa_apart (bo := bo) hj (show 11 < 14 by omega) h
  rw [sa_11] at this
  rw [sp_out (by omega), bq_no (hdq_sa hj ho), spN_at (by omega) hj ho]
theorem bq_oth0 {j : Nat} (hj : j < 14) : oth tb (sa bo j) (G j) (bq tb bo G F sf inp out M0) := by
  intro o ho
  rw [bq_no (hdq_sa hj ho), spN_at (by omega) hj ho]
theorem sp_absorb {a : Nat} {g : Nat → Int32} {M : me_M} (h : oth tb a g M) : M = sp tb a g M := by
  funext q
  unfold sp
  by_cases hr : a ≤ q ∧ q < a + 65
  · rw [if_pos hr, ← h (q - a) (by omega), show a + (q - a) = q by omega]
  · rw [if_neg hr]
theorem bq_set {j : Nat} {g' : Nat → Int32} (hj : j < 14) (h : j ≠ 11) : sp tb (sa bo j) g' (sp tb (bo + 722) g (bq tb bo G F sf inp out M0)) = sp tb (bo + 722) g (bq tb bo (updG G j g') F sf inp out M0) := by
  have hap := sa_apart (bo := bo) hj (show 11 < 14 by omega) h
  rw [sa_11] at hap
  funext q
  by_cases hr : sa bo j ≤ q ∧ q < sa bo j + 65
  · obtain ⟨o, rfl⟩ : ∃ o, q = sa bo j + o := ⟨q - sa bo j, by omega⟩
    rw [sp_in _ _ _ _ (by omega), sp_out (by omega), bq_no (hdq_sa hj (by omega)), spN_at (by omega) hj (by omega), updG_s]
  · rw [sp_out (by omega)]
    by_cases h2 : bo + 722 ≤ q ∧ q < bo + 722 + 65
    · unfold sp; rw [if_pos h2, if_pos h2]
    · rw [sp_out (by omega), sp_out (by omega)]
      unfold bq
      cases hd0 : hdq tb bo F sf inp out q with
      | some x => rfl
      | none =>
        show spN tb bo G 14 M0 q = spN tb bo (updG G j g') 14 M0 q
        have key : ∀ N, N ≤ 14 → spN tb bo G N M0 q = spN tb bo (updG G j g') N M0 q := by
          intro N
          induction N with
          | zero => intro _; rfl
          | succ N ih =>
            intro hN
            show sp tb (sa bo N) (G N) (spN tb bo G N M0) q = sp tb (sa bo N) (updG G j g' N) (spN tb bo (updG G j g') N M0) q
            by_cases hNj : N = j
            · subst hNj
              rw [sp_out (by omega), sp_out (by omega)]
              exact ih (by omega)
            · rw [updG_n hNj]
              unfold sp
              split
              · rfl
              · exact ih (by omega)
        exact key 14 (by omega)
/-- a new cell behind all of it -/
theorem bq_new {n : Nat} {x : va_E} (hn : bo + 919 ≤ n) : me_up (sp tb (bo + 722) g (bq tb bo G F sf inp out M0)) n x = sp tb (bo + 722) g (bq tb bo G F sf inp out (me_up M0 n x)) := by
  funext q
  by_cases h : q = n
  · subst h
    rw [me_up_s, sp_out (by omega), bq_no (hdq_none (by omega)), spN_out (fun j hj => by have := (sa_in (bo := bo) hj).2; omega), me_up_s]
  · rw [me_up_n h]
    by_cases h2 : bo + 722 ≤ q ∧ q < bo + 722 + 65
    · unfold sp; rw [if_pos h2, if_pos h2]
    · rw [sp_out (by omega), sp_out (by omega)]
      unfold bq
      cases hd0 : hdq tb bo F sf inp out q with
      | some x => rfl
      | none =>
        show spN tb bo G 14 M0 q = spN tb bo G 14 (me_up M0 n x) q
        have key : ∀ N, spN tb bo G N M0 q = spN tb bo G N (me_up M0 n x) q := by
          intro N
          induction N with
          | zero => show M0 q = me_up M0 n x q; rw [me_up_n h]
          | succ N ih =>
            show sp tb (sa bo N) (G N) (spN tb bo G N M0) q = sp tb (sa bo N) (G N) (spN tb bo G N (me_up M0 n x)) q
            unfold sp
            split
            · rfl
            · exact ih
        exact key 14
end BQ
