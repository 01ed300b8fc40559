/-! ===== the model's reader ===== -/
abbrev QS := Nat × Nat × Nat × Int32 × Nat × Int32
abbrev qKd (p : QS) : Nat := p.1
abbrev qFr (p : QS) : Nat := p.2.1
abbrev qTo (p : QS) : Nat := p.2.2.1
abbrev qVa (p : QS) : Int32 := p.2.2.2.1
abbrev qFl (p : QS) : Nat := p.2.2.2.2.1
abbrev qFa (p : QS) : Int32 := p.2.2.2.2.2
def pqF (F : Nat → Int32) (p : QS) : Nat → Int32 := fun i => if i = 8 then nI (qKd p) else if i = 9 then nI (qFr p) else if i = 10 then nI (qTo p) else if i = 11 then qVa p else if i = 12 then nI (qFl p) else if i = 13 then qFa p else F i
theorem mq_ps {tb : Nat → ClassId} {mo : Nat} {F w av od sv sl nz ip ot : Nat → Int32} {M0 : me_M} {p q : QS} (e : p = q) : mq tb mo (pqF F p) w av od sv sl nz ip ot M0 = mq tb mo (pqF F q) w av od sv sl nz ip ot M0 := by rw [e]
def qvP (len : Nat) (p : QS) : Prop := qFr p ≤ qTo p ∧ qTo p ≤ len ∧ qKd p ≤ 4 ∧ qFl p ≤ 6
def qwP (len : Nat) (p : QS) : Prop := qTo p ≤ len ∧ qKd p ≤ 4 ∧ qFl p ≤ 6
theorem qv_w {len : Nat} {p : QS} (h : qvP len p) : qwP len p := h.2
/-- past letters; past digits, and their value -/
def lrP (t : Nat → Int32) : Nat → Nat → Nat
  | 0, k => k
  | r + 1, k => if ltP (t k) then lrP t r (k + 1) else k
def drP (t : Nat → Int32) : Nat → Nat → Nat
  | 0, k => k
  | r + 1, k => if dgP (t k) then drP t r (k + 1) else k
def dvP (t : Nat → Int32) (fr : Nat) : Nat → Nat → Int32 → Int32
  | 0, _, v => v
  | r + 1, k, v => if dgP (t k) then dvP t fr r (k + 1) (if k - fr < 4 then 10 * v + t k - 48 else v) else v
theorem lrP_t {t : Nat → Int32} {r k : Nat} (h : ltP (t k)) : lrP t (r + 1) k = lrP t r (k + 1) := if_pos h
theorem lrP_f {t : Nat → Int32} {r k : Nat} (h : ¬ ltP (t k)) : lrP t (r + 1) k = k := if_neg h
theorem drP_t {t : Nat → Int32} {r k : Nat} (h : dgP (t k)) : drP t (r + 1) k = drP t r (k + 1) := if_pos h
theorem drP_f {t : Nat → Int32} {r k : Nat} (h : ¬ dgP (t k)) : drP t (r + 1) k = k := if_neg h
theorem dvP_a {t : Nat → Int32} {fr r k : Nat} {v : Int32} (h : dgP (t k)) (h4 : k - fr < 4) : dvP t fr (r + 1) k v = dvP t fr r (k + 1) (10 * v + t k - 48) := by
  show (if dgP (t k) then _ else _) = _
  rw [if_pos h, if_pos h4]
theorem dvP_b {t : Nat → Int32} {fr r k : Nat} {v : Int32} (h : dgP (t k)) (h4 : ¬ k - fr < 4) : dvP t fr (r + 1) k v = dvP t fr r (k + 1) v := by
  show (if dgP (t k) then _ else _) = _
  rw [if_pos h, if_neg h4]
theorem dvP_f {t : Nat → Int32} {fr r k : Nat} {v : Int32} (h : ¬ dgP (t k)) : dvP t fr (r + 1) k v = v := if_neg h
theorem lrP_b (t : Nat → Int32) : ∀ (r k : Nat), k ≤ lrP t r k ∧ lrP t r k ≤ k + r
  | 0, k => ⟨Nat.le_refl _, Nat.le_refl _⟩
  | r + 1, k => by
    have := lrP_b t r (k + 1)
    unfold lrP
    split <;> omega
theorem drP_b (t : Nat → Int32) : ∀ (r k : Nat), k ≤ drP t r k ∧ drP t r k ≤ k + r
  | 0, k => ⟨Nat.le_refl _, Nat.le_refl _⟩
  | r + 1, k => by
    have := drP_b t r (k + 1)
    unfold drP
    split <;> omega
abbrev glP (p : QS) (s : Nat) : Prop := (qKd p = 1 ∨ qKd p = 2) ∧ s = qTo p
def mx1 (t : Nat → Int32) (len : Nat) (p : QS) (s : Nat) : QS :=
  if s = len then (0, s, s, qVa p, qFl p, qFa p)
  else if ltP (t s) then (if glP p s then 4 else 1, s, lrP t (len - s) s, qVa p, qFl p, qFa p)
  else if dgP (t s) then (if glP p s ∨ 4 < drP t (len - s) s - s then 4 else 2, s, drP t (len - s) s, dvP t s (len - s) s 0, qFl p, qFa p)
  else (if t s = 59 then 3 else 4, s, s + 1, qVa p, qFl p, qFa p)
def mxP (t : Nat → Int32) (len : Nat) (p : QS) : QS := mx1 t len p (skP t (len - qTo p) (qTo p))
def erP (kd : Nat) (p : QS) : QS := if qFl p = 0 then (qKd p, qFr p, qTo p, qVa p, kd, nI (qFr p)) else p
def gnP (t : Nat → Int32) (len : Nat) (p : QS) : QS := if qFl p = 0 then mxP t len p else p
abbrev keP (t : Nat → Int32) (i : Nat) (p : QS) : Prop := qKd p = 1 ∧ qTo p - qFr p ≤ 8 ∧ ∀ j, j < 8 → (if j < qTo p - qFr p then t (qFr p + j) else 0) = kyF (8 * i + j)
def he1 (p : QS) : QS := if qFl p = 0 ∧ ¬ qKd p = 2 then erP 1 p else p
def heQ (a b : Int32) (p : QS) : QS := if qFl (he1 p) = 0 ∧ ¬ inP (qVa (he1 p)) a b then erP 2 (he1 p) else he1 p
def heV (a b : Int32) (p : QS) : Int32 := if qFl (heQ a b p) = 0 then qVa (heQ a b p) else a
def tnQ (t : Nat → Int32) (len : Nat) (a b : Int32) (p : QS) : QS := gnP t len (heQ a b p)
def sp1 (p : QS) : QS := if qFl p = 0 ∧ (¬ qKd p = 1 ∨ 6 < qTo p - qFr p) then erP 1 p else p
def slF (t : Nat → Int32) (p : QS) : Nat → Int32 := fun i => if i < qTo p - qFr p then t (qFr p + i) else 0
def slN (t sl : Nat → Int32) (p : QS) : Nat → Int32 := if qFl p = 0 then cq sl (slF t p) 0 6 else sl
-- a street, a borrower that is named
def tsV (w sl : Nat → Int32) (S : Nat) (p : QS) : Int32 := if qFl p = 0 then ssF w sl S else 0
def tbV (w sl : Nat → Int32) (B : Nat) (p : QS) : Int32 := if qFl p = 0 then bsF' w sl B else 0
def tk2 (v : Int32) (p : QS) : QS := if qFl p = 0 ∧ v = -1 then erP 3 p else p
def tsQ (t : Nat → Int32) (len : Nat) (w sl : Nat → Int32) (S : Nat) (p : QS) : QS := gnP t len (tk2 (tsV w (slN t sl (sp1 p)) S (sp1 p)) (sp1 p))
def tsR (t : Nat → Int32) (len : Nat) (w sl : Nat → Int32) (S : Nat) (p : QS) : Int32 := if qFl (tsQ t len w sl S p) = 0 then tsV w (slN t sl (sp1 p)) S (sp1 p) else 0
def tbQ (t : Nat → Int32) (len : Nat) (w sl : Nat → Int32) (B : Nat) (p : QS) : QS := gnP t len (tk2 (tbV w (slN t sl (sp1 p)) B (sp1 p)) (sp1 p))
def tbR (t : Nat → Int32) (len : Nat) (w sl : Nat → Int32) (B : Nat) (p : QS) : Int32 := if qFl (tbQ t len w sl B p) = 0 then tbV w (slN t sl (sp1 p)) B (sp1 p) else 0
-- bounds kept
section QV
variable {t : Nat → Int32} {len : Nat} {p : QS}
theorem qv_mx (h : qvP len p) : qvP len (mxP t len p) := by
  obtain ⟨h1, h2, h3, h4⟩ := h
  have hs := skP_b t (len - qTo p) (qTo p)
  unfold mxP
  generalize skP t (len - qTo p) (qTo p) = s at hs
  have hl := lrP_b t (len - s) s
  have hd := drP_b t (len - s) s
  unfold mx1 qvP
  split
  · exact ⟨Nat.le_refl _, by show s ≤ len; omega, by show 0 ≤ 4; omega, h4⟩
  split
  · refine ⟨hl.1, by show lrP t (len - s) s ≤ len; omega, ?_, h4⟩
    show (if _ then 4 else 1) ≤ 4
    split <;> omega
  split
  · refine ⟨hd.1, by show drP t (len - s) s ≤ len; omega, ?_, h4⟩
    show (if _ then 4 else 2) ≤ 4
    split <;> omega
  · refine ⟨by show s ≤ s + 1; omega, by show s + 1 ≤ len; omega, ?_, h4⟩
    show (if _ then 3 else 4) ≤ 4
    split <;> omega
theorem qv_er {kd : Nat} (h : qvP len p) (hk : kd ≤ 6) : qvP len (erP kd p) := by
  obtain ⟨h1, h2, h3, h4⟩ := h
  unfold erP; split
  · exact ⟨h1, h2, h3, hk⟩
  · exact ⟨h1, h2, h3, h4⟩
theorem qv_gn (h : qvP len p) : qvP len (gnP t len p) := by
  unfold gnP; split
  · exact qv_mx h
  · exact h
theorem qv_h1 (h : qvP len p) : qvP len (he1 p) := by
  unfold he1; split
  · exact qv_er h (by omega)
  · exact h
theorem qv_he {a b : Int32} (h : qvP len p) : qvP len (heQ a b p) := by
  unfold heQ; split
  · exact qv_er (qv_h1 h) (by omega)
  · exact qv_h1 h
theorem qv_tn {a b : Int32} (h : qvP len p) : qvP len (tnQ t len a b p) := qv_gn (qv_he h)
theorem qv_s1 (h : qvP len p) : qvP len (sp1 p) := by
  unfold sp1; split
  · exact qv_er h (by omega)
  · exact h
theorem qv_t2 {v : Int32} (h : qvP len p) : qvP len (tk2 v p) := by
  unfold tk2; split
  · exact qv_er h (by omega)
  · exact h
theorem qv_ts {w sl : Nat → Int32} {S : Nat} (h : qvP len p) : qvP len (tsQ t len w sl S p) := qv_gn (qv_t2 (qv_s1 h))
theorem qv_tb {w sl : Nat → Int32} {B : Nat} (h : qvP len p) : qvP len (tbQ t len w sl B p) := qv_gn (qv_t2 (qv_s1 h))
-- faults stay
theorem fl_mx : qFl (mxP t len p) = qFl p := by
  unfold mxP mx1
  split
  · rfl
  split
  · rfl
  split <;> rfl
theorem fl_gn : qFl (gnP t len p) = qFl p := by
  unfold gnP; split
  · exact fl_mx
  · rfl
theorem fl_er {kd : Nat} (hk : 0 < kd) : ¬ qFl (erP kd p) = 0 := by
  unfold erP; split
  · show ¬ kd = 0; omega
  · assumption
theorem fl_h1 (h : qFl (he1 p) = 0) : qFl p = 0 ∧ qKd p = 2 ∧ he1 p = p := by
  unfold he1 at h ⊢
  split at h
  · exact absurd h (fl_er (by omega))
  · rename_i c
    rw [if_neg c]
    exact ⟨h, Decidable.of_not_not (fun z => c ⟨h, z⟩), rfl⟩
theorem fl_he {a b : Int32} (h : qFl (heQ a b p) = 0) : qFl p = 0 ∧ qKd p = 2 ∧ heQ a b p = p ∧ inP (qVa p) a b ∧ heV a b p = qVa p := by
  have h0 := h
  unfold heQ at h
  split at h
  · exact absurd h (fl_er (by omega))
  · rename_i c
    obtain ⟨h1, h2, h3⟩ := fl_h1 h
    have h4 : inP (qVa (he1 p)) a b := Decidable.of_not_not (fun z => c ⟨h, z⟩)
    have h5 : heQ a b p = p := by unfold heQ; rw [if_neg c, h3]
    rw [h3] at h4
    exact ⟨h1, h2, h5, h4, by unfold heV; rw [if_pos h0, h5]⟩
theorem fl_s1 (h : qFl (sp1 p) = 0) : qFl p = 0 ∧ qKd p = 1 ∧ qTo p - qFr p ≤ 6 ∧ sp1 p = p := by
  unfold sp1 at h ⊢
  split at h
  · exact absurd h (fl_er (by omega))
  · rename_i c
    rw [if_neg c]
    refine ⟨h, Decidable.of_not_not (fun z => c ⟨h, Or.inl z⟩), ?_, rfl⟩
    rcases Nat.lt_or_ge 6 (qTo p - qFr p) with z | z
    · exact absurd ⟨h, Or.inr z⟩ c
    · exact z
theorem fl_t2 {v : Int32} (h : qFl (tk2 v p) = 0) : qFl p = 0 ∧ ¬ v = -1 ∧ tk2 v p = p := by
  unfold tk2 at h ⊢
  split at h
  · exact absurd h (fl_er (by omega))
  · rename_i c
    rw [if_neg c]
    exact ⟨h, fun z => c ⟨h, z⟩, rfl⟩
theorem fl_tn {a b : Int32} (h : qFl (tnQ t len a b p) = 0) : qFl (heQ a b p) = 0 := by
  unfold tnQ at h
  rwa [fl_gn] at h
end QV
theorem ssF_some {w sl : Nat → Int32} {S : Nat} (hS : S ≤ 8) (h : ¬ ssF w sl S = -1) : ∃ k, k < S ∧ ssF w sl S = nI k := by
  obtain ⟨j, -, h2, h3, -⟩ := fi_some (P := fun k => isP w sl (9 + 10 * k + 4)) h (by omega)
  exact ⟨j, by omega, h3⟩
theorem bsF_some {w sl : Nat → Int32} {B : Nat} (hB : B ≤ 12) (h : ¬ bsF' w sl B = -1) : ∃ k, k < B ∧ bsF' w sl B = nI k := by
  obtain ⟨j, -, h2, h3, -⟩ := fi_some (P := fun k => isP w sl (89 + 11 * k + 5)) h (by omega)
  exact ⟨j, by omega, h3⟩
/-- a number that was read -/
theorem he_nat {a b : Nat} {p : QS} (ha : a < 2 ^ 31) (hb : b < 2 ^ 31) (h : qFl (heQ (nI a) (nI b) p) = 0) : ∃ j, a ≤ j ∧ j ≤ b ∧ heV (nI a) (nI b) p = nI j := by
  obtain ⟨-, -, -, ⟨h1, h2⟩, h5⟩ := fl_he h
  rw [h5]
  have h4 : ¬ qVa p < 0 := Int32.not_lt.mpr (Int32.le_trans (nI_pos' ha) h1)
  obtain ⟨j, hj, e⟩ := nI_of2 (nI_toInt hb) h4 h2
  rw [e] at h1
  exact ⟨j, (nI_leI ha (by omega)).mp h1, hj, e⟩
