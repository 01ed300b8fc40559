/-! ===== what the model's methods answer ===== -/
/-- copied: s's first k at the place o of d -/
def cq (d s : Nat → Int32) (o k : Nat) : Nat → Int32 := fun q => if o ≤ q ∧ q < o + k then s (q - o) else d q
theorem cq_0 (d s : Nat → Int32) (o : Nat) : cq d s o 0 = d := by
  funext q; unfold cq; rw [if_neg (by omega)]
theorem cq_n {d s : Nat → Int32} {o k q : Nat} (h : q < o ∨ o + k ≤ q) : cq d s o k q = d q := by unfold cq; rw [if_neg (by omega)]
theorem cq_i {d s : Nat → Int32} {o k j : Nat} (h : j < k) : cq d s o k (o + j) = s j := by unfold cq; rw [if_pos (by omega), show o + j - o = j by omega]
theorem cq_s (d s : Nat → Int32) (o k : Nat) : upd (cq d s o k) (o + k) (s k) = cq d s o (k + 1) := by
  funext q
  by_cases h : q = o + k
  · subst h; rw [upd_s]; unfold cq; rw [if_pos (by omega), show o + k - o = k by omega]
  · rw [upd_n h]; unfold cq
    by_cases h2 : o ≤ q ∧ q < o + k
    · rw [if_pos h2, if_pos (by omega)]
    · rw [if_neg h2, if_neg (by omega)]
abbrev isP (w sl : Nat → Int32) (a : Nat) : Prop := ∀ i, i < 6 → w (a + i) = sl i
theorem isP_t {w sl : Nat → Int32} {a k : Nat} (hk : ¬ k < 6) (h : ∀ i, i < k → w (a + i) = sl i) : isP w sl a := fun i hi => h i (by omega)
theorem isP_f {w sl : Nat → Int32} {a k : Nat} (hk : k < 6) (h : ¬ w (a + k) = sl k) : ¬ isP w sl a := fun z => h (z k hk)
theorem isP_s {w sl : Nat → Int32} {a k : Nat} (h : ∀ i, i < k → w (a + i) = sl i) (hk : w (a + k) = sl k) : ∀ i, i < k + 1 → w (a + i) = sl i := fun i hi => by
  by_cases c : i = k
  · subst c; exact hk
  · exact h i (by omega)
def ssF (w sl : Nat → Int32) (S : Nat) : Int32 := fi (fun k => isP w sl (9 + 10 * k + 4)) S 0
def bsF' (w sl : Nat → Int32) (B : Nat) : Int32 := fi (fun k => isP w sl (89 + 11 * k + 5)) B 0
def bdA (w sl : Nat → Int32) (S : Nat) (day night : Int32) : Nat → Int32 := cq (upd (upd (upd (upd w (9 + 10 * S) day) (9 + 10 * S + 1) night) (9 + 10 * S + 2) 0) (9 + 10 * S + 3) 0) sl (9 + 10 * S + 4) 6
def bdW (w sl : Nat → Int32) (S : Nat) (day night : Int32) : Nat → Int32 := upd (bdA w sl S day night) 3 (bdA w sl S day night 3 + 1)
def cmA (w sl : Nat → Int32) (B : Nat) (st il cr : Int32) : Nat → Int32 := cq (upd (upd (upd (upd (upd w (89 + 11 * B) st) (89 + 11 * B + 1) il) (89 + 11 * B + 2) cr) (89 + 11 * B + 3) 0) (89 + 11 * B + 4) 0) sl (89 + 11 * B + 5) 6
def cmW (w sl : Nat → Int32) (B : Nat) (st il cr : Int32) : Nat → Int32 := upd (upd (cmA w sl B st il cr) 7 (cmA w sl B st il cr 7 + cr)) 4 (cmA w sl B st il cr 4 + 1)
abbrev inP (v a b : Int32) : Prop := a ≤ v ∧ v ≤ b
abbrev ihP (w : Nat → Int32) (h : Int32) : Prop := w 2 ≤ h ∧ h < w 2 + 48
abbrev ahP (w : Nat → Int32) (s n m : Int32) : Prop := inP n 1 m ∧ ihP w s ∧ ihP w (s + n - 1)
theorem le_pred {n : Nat} (hn : n < 2 ^ 31) (x : Int32) : x ≤ nI n - 1 ↔ x < nI n := by
  rcases Nat.eq_zero_or_pos n with h | h
  · subst h
    constructor
    · intro z
      have e : (nI 0 : Int32) - 1 = -1 := by decide
      rw [e] at z
      exact Int32.lt_of_le_of_lt z (by decide)
    · intro z
      have e : (nI 0 : Int32) - 1 = -1 := by decide
      rw [e]
      rw [Int32.le_iff_toInt_le]
      rw [Int32.lt_iff_toInt_lt] at z
      have e1 : (nI 0 : Int32).toInt = 0 := by decide
      have e2 : (-1 : Int32).toInt = -1 := by decide
      omega
  · obtain ⟨k, rfl⟩ : ∃ k, n = k + 1 := ⟨n - 1, by omega⟩
    rw [nI_pred k, Int32.le_iff_toInt_le, Int32.lt_iff_toInt_lt, nI_toInt (by omega), nI_toInt hn]
    omega
theorem in_c {c : Int32} {s N : Nat} (hc : c = nI N) (hN : N < 1000) (h : s < N) : inP (nI s) 0 (c - 1) := by
  subst hc
  exact ⟨(nI_leI (a := 0) (by omega) (by omega)).mpr (by omega), (le_pred (by omega) _).mpr ((nI_ltI (by omega) (by omega)).mpr h)⟩
theorem in_x {c x : Int32} {N : Nat} (hc : c = nI N) (hN : N < 1000) (h : x < 0 ∨ c ≤ x) : ¬ inP x 0 (c - 1) := by
  subst hc
  intro z
  rcases h with h | h
  · exact absurd z.1 (Int32.not_le.mpr h)
  · exact absurd ((le_pred (by omega) _).mp z.2) (Int32.not_lt.mpr h)
theorem in_n {n a b : Nat} (h1 : a ≤ n) (h2 : n ≤ b) (hb : b < 2 ^ 31) : inP (nI n) (nI a) (nI b) := ⟨(nI_leI (by omega) (by omega)).mpr h1, (nI_leI (by omega) (by omega)).mpr h2⟩
theorem in_y {x a b : Int32} (h : x < a ∨ b < x) : ¬ inP x a b := fun z => h.elim (fun h => absurd z.1 (Int32.not_le.mpr h)) (fun h => absurd z.2 (Int32.not_le.mpr h))
theorem ih_c {w : Nat → Int32} {T h : Nat} (hT : w 2 = nI T) (hT0 : T ≤ 20000) (h1 : T ≤ h) (h2 : h < T + 48) : ihP w (nI h) := by
  refine ⟨by rw [hT]; exact (nI_leI (by omega) (by omega)).mpr h1, ?_⟩
  rw [nx_add hT (nx_c 48)]
  exact (nI_ltI (by omega) (by omega)).mpr h2
theorem ih_x {w : Nat → Int32} {x : Int32} (h : x < w 2 ∨ w 2 + 48 ≤ x) : ¬ ihP w x := fun z => h.elim (fun h => absurd z.1 (Int32.not_le.mpr h)) (fun h => absurd z.2 (Int32.not_lt.mpr h))
theorem ah_c {w : Nat → Int32} {T s n m : Nat} (hT : w 2 = nI T) (hT0 : T ≤ 20000) (hn : 1 ≤ n) (hm : n ≤ m) (hm0 : m ≤ 12) (h1 : T ≤ s) (h2 : s + n ≤ T + 48) : ahP w (nI s) (nI n) (nI m) := by
  refine ⟨in_n (a := 1) hn hm (by omega), ih_c hT hT0 h1 (by omega), ?_⟩
  rw [nx_sub (nx_add (rfl : nI s = nI s) (rfl : nI n = nI n)) (show (1 : Int32) = nI 1 from rfl) (by omega)]
  exact ih_c hT hT0 (by omega) (by omega)
theorem ah_x1 {w : Nat → Int32} {x0 x m : Int32} (h : x < 1 ∨ m < x) : ¬ ahP w x0 x m := fun z => in_y h z.1
theorem ih_nat {w : Nat → Int32} {T : Nat} {x : Int32} (hT : w 2 = nI T) (hT0 : T ≤ 20000) (h : ihP w x) : ∃ s, T ≤ s ∧ s < T + 48 ∧ x = nI s := by
  obtain ⟨h1, h2⟩ := h
  rw [hT] at h1 h2
  rw [nx_add rfl (nx_c 48)] at h2
  rw [Int32.le_iff_toInt_le, nI_toInt (by omega)] at h1
  rw [Int32.lt_iff_toInt_lt, nI_toInt (by omega)] at h2
  refine ⟨x.toInt.toNat, by omega, by omega, ?_⟩
  apply Int32.toInt_inj.mp
  rw [nI_toInt (by omega)]
  omega
theorem ah_x2 {w : Nat → Int32} {T n : Nat} {x0 m : Int32} (hT : w 2 = nI T) (hT0 : T ≤ 20000) (hn : 1 ≤ n) (hn2 : n ≤ 12) (h : x0 < w 2 ∨ w 2 + 48 - nI n < x0) : ¬ ahP w x0 (nI n) m := by
  rintro ⟨-, z1, z2⟩
  obtain ⟨s, a, b, rfl⟩ := ih_nat hT hT0 z1
  rw [nx_sub (nx_add (rfl : nI s = nI s) (rfl : nI n = nI n)) (show (1 : Int32) = nI 1 from rfl) (by omega)] at z2
  have z3 := z2.2
  rw [nx_add hT (nx_c 48)] at z3
  have z4 := (nI_ltI (by omega) (by omega)).mp z3
  rw [nx_sub (nx_add hT (nx_c 48)) rfl (by omega), hT] at h
  rcases h with h | h
  · have := (nI_ltI (by omega) (by omega)).mp h; omega
  · have := (nI_ltI (by omega) (by omega)).mp h; omega
theorem le1 {st : Int32} (h : 0 ≤ st) : st ≤ 1 ↔ (st = 0 ∨ st = 1) := by
  rw [Int32.le_iff_toInt_le] at h ⊢
  have e0 : (0 : Int32).toInt = 0 := by decide
  have e1 : (1 : Int32).toInt = 1 := by decide
  rw [← Int32.toInt_inj, ← Int32.toInt_inj]
  omega
theorem lt_succ {hh : Nat} (h : hh < 2 ^ 31 - 1) (s : Int32) : s < nI hh + 1 ↔ s ≤ nI hh := by
  rw [nx_add (a := hh) rfl (show (1 : Int32) = nI 1 from rfl), Int32.le_iff_toInt_le, Int32.lt_iff_toInt_lt, nI_toInt (by omega), nI_toInt (by omega)]
  omega
theorem nh6 (x : Int32) : x < 6 ↔ x ≤ 5 := by
  have e5 : (5 : Int32).toInt = 5 := by decide
  have e6 : (6 : Int32).toInt = 6 := by decide
  rw [Int32.lt_iff_toInt_lt, Int32.le_iff_toInt_le]
  omega
theorem nx_z {x : Int32} {a : Nat} (hx : x = nI a) : x + 0 = nI a := by rw [hx]; exact nI_add a 0
