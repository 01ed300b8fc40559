/-! ===== what a State becomes: one loan, one street, one borrower at a time ===== -/
/-- r steps from k on -/
def it {α : Type} (f : Nat → α → α) : Nat → Nat → α → α
  | 0, _, g => g
  | r + 1, k, g => it f r (k + 1) (f k g)
theorem wf_upd {g : Nat → Int32} {S B L P j : Nat} {v : Int32} (h : wf g S B L P) (h1 : j ≠ 3 ∧ j ≠ 4 ∧ j ≠ 5 ∧ j ≠ 6) (h2 : ∀ b, b < B → 89 + 11 * b ≠ j) (h3 : ∀ k, k < L → 261 + 5 * k ≠ j) : wf (upd g j v) S B L P := by
  obtain ⟨a1, a2, a3, a4, a5, a6, a7, a8, a9, a10⟩ := h
  refine ⟨by rw [upd_n (by omega)]; exact a1, a2, by rw [upd_n (by omega)]; exact a3, a4, by rw [upd_n (by omega)]; exact a5, a6, by rw [upd_n (by omega)]; exact a7, a8, fun b hb => ?_, fun k hk => ?_⟩
  · have e : upd g j v (89 + 11 * b) = g (89 + 11 * b) := upd_n (h2 b hb)
    unfold hm; rw [e]; exact a9 b hb
  · have e : upd g j v (261 + 5 * k) = g (261 + 5 * k) := upd_n (h3 k hk)
    unfold ow; rw [e]; exact a10 k hk
abbrev bgP (g : Nat → Int32) (k : Nat) : Prop := g (261 + 5 * k + 4) = 0 ∧ g (261 + 5 * k + 1) = g 2
def bgS (k : Nat) (g : Nat → Int32) : Nat → Int32 := if bgP g k then upd g (261 + 5 * k + 4) 1 else g
abbrev enP (g : Nat → Int32) (k : Nat) : Prop := g (261 + 5 * k + 4) = 1 ∧ g (261 + 5 * k + 1) + g (261 + 5 * k + 2) = g 2
def enS (k : Nat) (g : Nat → Int32) : Nat → Int32 := if enP g k then upd g (261 + 5 * k + 4) 2 else g
abbrev laP (g : Nat → Int32) (k : Nat) : Prop := g (261 + 5 * k + 4) = 2 ∧ g (261 + 5 * k + 1) + g (261 + 5 * k + 2) + g 0 = g 2
def chS (k : Nat) (g : Nat → Int32) : Nat → Int32 := if laP g k then upd (upd (upd g (261 + 5 * k + 4) 4) (89 + 11 * ow g k + 2) (g (89 + 11 * ow g k + 2) - g 1)) 8 (g 8 + g 1) else g
/-- how many become overdue -/
def chN : Nat → Nat → (Nat → Int32) → Nat
  | 0, _, _ => 0
  | r + 1, k, g => (if laP g k then 1 else 0) + chN r (k + 1) (chS k g)
theorem chN_le : ∀ (r k : Nat) (g : Nat → Int32), chN r k g ≤ r
  | 0, _, _ => Nat.le_refl 0
  | r + 1, k, g => by
    have := chN_le r (k + 1) (chS k g)
    unfold chN
    split <;> omega
def caS (k : Nat) (g : Nat → Int32) : Nat → Int32 := upd (upd g (261 + 5 * k + 4) 5) (89 + 11 * ow g k + 2) (g (89 + 11 * ow g k + 2) + g (261 + 5 * k + 3))
def alS (f h : Int32) (k : Nat) (g : Nat → Int32) : Nat → Int32 := if hdK g k f h then caS k g else g
def quF (g : Nat → Int32) (L : Nat) : Int32 := if hoF g L (g 2) = -1 then -1 else g (89 + 11 * ow g (hoF g L (g 2)).toNatClampNeg)
def soS (L P : Nat) (q : Int32) (k : Nat) (g : Nat → Int32) : Nat → Int32 :=
  if nI k = q then upd (upd (upd g (9 + 10 * k + 5) (noF g L P k (g 2))) (9 + 10 * k + 2) (g (9 + 10 * k + 2) + noF g L P k (g 2))) (9 + 10 * k + 3) (g (9 + 10 * k + 3) + 1)
  else upd (upd g (9 + 10 * k + 5) (noF g L P k (g 2))) (9 + 10 * k + 2) (g (9 + 10 * k + 2) + noF g L P k (g 2))
/-- an hour's noise n: rest r, strain t, illness i -/
def hrR (n r : Int32) : Int32 := if n = 0 then (if r + 1 = 6 then 0 else r + 1) else r
def hrT (n t : Int32) : Int32 := if n < 80 then t else (if t + 1 = 12 then 0 else t + 1)
def hrJ (n i r : Int32) : Int32 := if n = 0 ∧ r + 1 = 6 then (if i - 1 < 0 then 0 else i - 1) else i
def hrI (n i r t : Int32) : Int32 := if ¬ n < 80 ∧ t + 1 = 12 then (if 9 < hrJ n i r + 1 then 9 else hrJ n i r + 1) else hrJ n i r
def heS (k : Nat) (g : Nat → Int32) : Nat → Int32 :=
  upd (upd (upd g (89 + 11 * k + 1) (hrI (g (9 + 10 * hm g k + 5)) (g (89 + 11 * k + 1)) (g (89 + 11 * k + 3)) (g (89 + 11 * k + 4)))) (89 + 11 * k + 3) (hrR (g (9 + 10 * hm g k + 5)) (g (89 + 11 * k + 3)))) (89 + 11 * k + 4) (hrT (g (9 + 10 * hm g k + 5)) (g (89 + 11 * k + 4)))
theorem me_up_id {M : me_M} {q : Nat} {e : va_E} (h : M q = some e) : me_up M q e = M := by
  funext x; by_cases hx : x = q
  · subst hx; rw [me_up_s, h]
  · rw [me_up_n hx]
theorem sp_he {tb : Nat → ClassId} {a : Nat} {g : Nat → Int32} {M0 : me_M} {k : Nat} {i r t : Int32} (hk : k < 12) : me_up (sp tb a g M0) (a + 13 + k) (.inr (0, [.int (g (89 + 11 * k + 5)), .int (g (89 + 11 * k)), .int i, .int (g (89 + 11 * k + 2)), .int r, .int t])) = sp tb a (upd (upd (upd g (89 + 11 * k + 1) i) (89 + 11 * k + 3) r) (89 + 11 * k + 4) t) M0 := by
  rw [Nat.add_assoc]
  refine sp_put (by omega) ?_ (fun o ho h0 => ?_)
  · rw [sc_borrower tb a _ hk]; simp [upd]
  · rw [sp_cell_upd ho (by omega), sp_cell_upd ho (by omega), sp_cell_upd ho (by omega)]
theorem wf_bg {g : Nat → Int32} {S B L P k : Nat} (h : wf g S B L P) (hk : k < 30) : wf (bgS k g) S B L P := by
  have hB := h.2.2.2.1
  unfold bgS; split
  · exact wf_upd h (by omega) (fun b hb => by omega) (fun j hj => by omega)
  · exact h
theorem wf_en {g : Nat → Int32} {S B L P k : Nat} (h : wf g S B L P) (hk : k < 30) : wf (enS k g) S B L P := by
  have hB := h.2.2.2.1
  unfold enS; split
  · exact wf_upd h (by omega) (fun b hb => by omega) (fun j hj => by omega)
  · exact h
theorem wf_ch {g : Nat → Int32} {S B L P k : Nat} (h : wf g S B L P) (hk : k < L) : wf (chS k g) S B L P := by
  have hB := h.2.2.2.1
  have hL := h.2.2.2.2.2.1
  have hkl := (h.2.2.2.2.2.2.2.2.2 k hk).2
  unfold chS; split
  · exact wf_upd (wf_upd (wf_upd h (by omega) (fun b hb => by omega) (fun j hj => by omega)) (by omega) (fun b hb => by omega) (fun j hj => by omega)) (by omega) (fun b hb => by omega) (fun j hj => by omega)
  · exact h
theorem wf_ca {g : Nat → Int32} {S B L P k : Nat} (h : wf g S B L P) (hk : k < L) : wf (caS k g) S B L P := by
  have hB := h.2.2.2.1
  have hL := h.2.2.2.2.2.1
  have hkl := (h.2.2.2.2.2.2.2.2.2 k hk).2
  unfold caS
  exact wf_upd (wf_upd h (by omega) (fun b hb => by omega) (fun j hj => by omega)) (by omega) (fun b hb => by omega) (fun j hj => by omega)
theorem wf_al {g : Nat → Int32} {S B L P k : Nat} {f n : Int32} (h : wf g S B L P) (hk : k < L) : wf (alS f n k g) S B L P := by
  unfold alS; split
  · exact wf_ca h hk
  · exact h
theorem wf_so {g : Nat → Int32} {S B L P k : Nat} {q : Int32} (h : wf g S B L P) (hk : k < 8) : wf (soS L P q k g) S B L P := by
  have hB := h.2.2.2.1
  unfold soS; split
  · exact wf_upd (wf_upd (wf_upd h (by omega) (fun b hb => by omega) (fun j hj => by omega)) (by omega) (fun b hb => by omega) (fun j hj => by omega)) (by omega) (fun b hb => by omega) (fun j hj => by omega)
  · exact wf_upd (wf_upd h (by omega) (fun b hb => by omega) (fun j hj => by omega)) (by omega) (fun b hb => by omega) (fun j hj => by omega)
theorem wf_he {g : Nat → Int32} {S B L P k : Nat} (h : wf g S B L P) (hk : k < 12) : wf (heS k g) S B L P := by
  have hB := h.2.2.2.1
  unfold heS
  exact wf_upd (wf_upd (wf_upd h (by omega) (fun b hb => by omega) (fun j hj => by omega)) (by omega) (fun b hb => by omega) (fun j hj => by omega)) (by omega) (fun b hb => by omega) (fun j hj => by omega)
theorem wf_it {f : Nat → (Nat → Int32) → (Nat → Int32)} {S B L P : Nat} : ∀ (r k : Nat) (g : Nat → Int32), wf g S B L P → (∀ j g, k ≤ j → j < k + r → wf g S B L P → wf (f j g) S B L P) → wf (it f r k g) S B L P
  | 0, _, _, h, _ => h
  | r + 1, k, g, h, hf => wf_it r (k + 1) (f k g) (hf k g (Nat.le_refl _) (by omega) h) (fun j g h1 h2 h3 => hf j g (by omega) (by omega) h3)
/-- the streets' noise of the hour -/
def soF (g : Nat → Int32) (S L P : Nat) : Nat → Int32 := it (soS L P (quF g L)) S 0 g
/-- an hour up to the loans that end -/
def hoA (S B L P : Nat) (g : Nat → Int32) : Nat → Int32 := it enS L 0 (upd (it heS B 0 (soF (it bgS L 0 g) S L P)) 2 (it heS B 0 (soF (it bgS L 0 g) S L P) 2 + 1))
def hoS (S B L P : Nat) (g : Nat → Int32) : Nat → Int32 := it chS L 0 (hoA S B L P g)
def paG (S B L P : Nat) : Nat → (Nat → Int32) → (Nat → Int32)
  | 0, g => g
  | h + 1, g => paG S B L P h (hoS S B L P g)
def paN (S B L P : Nat) : Nat → (Nat → Int32) → Nat
  | 0, _ => 0
  | h + 1, g => chN L 0 (hoA S B L P g) + paN S B L P h (hoS S B L P g)
theorem wf_so2 {g : Nat → Int32} {S B L P : Nat} (h : wf g S B L P) : wf (soF g S L P) S B L P := wf_it S 0 g h (fun j g _ h2 h3 => wf_so h3 (by have := h.2.1; omega))
theorem wf_A {g : Nat → Int32} {S B L P : Nat} (h : wf g S B L P) : wf (hoA S B L P g) S B L P := by
  have hB := h.2.2.2.1
  have hL := h.2.2.2.2.2.1
  have h1 : wf (it bgS L 0 g) S B L P := wf_it L 0 g h (fun j g _ h2 h3 => wf_bg h3 (by omega))
  have h2 := wf_so2 h1
  have h3 : wf (it heS B 0 (soF (it bgS L 0 g) S L P)) S B L P := wf_it B 0 _ h2 (fun j g _ h2 h3 => wf_he h3 (by omega))
  unfold hoA
  exact wf_it L 0 _ (wf_upd h3 (by omega) (fun b hb => by omega) (fun j hj => by omega)) (fun j g _ h2 h3 => wf_en h3 (by omega))
theorem wf_h {g : Nat → Int32} {S B L P : Nat} (h : wf g S B L P) : wf (hoS S B L P g) S B L P := wf_it L 0 _ (wf_A h) (fun j g _ h2 h3 => wf_ch h3 (by omega))
theorem wf_pa {S B L P : Nat} : ∀ (n : Nat) (g : Nat → Int32), wf g S B L P → wf (paG S B L P n g) S B L P
  | 0, _, h => h
  | n + 1, g, h => wf_pa n _ (wf_h h)
theorem fi_cg {P Q : Nat → Prop} [DecidablePred P] [DecidablePred Q] (h : ∀ k, P k ↔ Q k) : ∀ r k, fi P r k = fi Q r k
  | 0, _ => rfl
  | r + 1, k => by
    by_cases c : P k
    · rw [fi_t c, fi_t ((h k).mp c)]
    · rw [fi_f c, fi_f (fun z => c ((h k).mpr z))]
      exact fi_cg h r (k + 1)
theorem ho_cg {g g' : Nat → Int32} (L : Nat) (h : Int32) (e : ∀ j, 89 ≤ j → g' j = g j) : hoF g' L h = hoF g L h := by
  unfold hoF
  refine fi_cg (fun k => ?_) L 0
  unfold hdK
  rw [e _ (by omega), e _ (by omega), e _ (by omega)]
theorem qu_cg {g g' : Nat → Int32} (L : Nat) (e : ∀ j, 89 ≤ j → g' j = g j) (e2 : g' 2 = g 2) : quF g' L = quF g L := by
  unfold quF ow
  rw [e2, ho_cg L _ e, e _ (by omega), e _ (by omega)]
theorem qu_so {g : Nat → Int32} {L P k : Nat} {q : Int32} (hk : k < 8) : quF (soS L P q k g) L = quF g L := by
  unfold soS
  split
  · exact qu_cg L (fun j hj => by rw [upd_n (by omega), upd_n (by omega), upd_n (by omega)]) (by rw [upd_n (by omega), upd_n (by omega), upd_n (by omega)])
  · exact qu_cg L (fun j hj => by rw [upd_n (by omega), upd_n (by omega)]) (by rw [upd_n (by omega), upd_n (by omega)])
theorem no_t {g : Nat → Int32} {L P s : Nat} {q : Int32} (hs : s < 2 ^ 31) (hq : quF g L = q) (h : nI s = q) : noF g L P s (g 2) = 0 := by
  rw [no_si hs]
  exact if_pos (h.trans hq.symm)
theorem no_f {g : Nat → Int32} {L P s : Nat} {q : Int32} (hs : s < 2 ^ 31) (hq : quF g L = q) (h : ¬ nI s = q) : noF g L P s (g 2) = oNF g P s (g 2) := by
  rw [no_si hs]
  exact if_neg (fun z => h (z.trans hq))
