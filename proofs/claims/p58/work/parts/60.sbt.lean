/-! ===== a builder's state as a text's length and letters ===== -/
def lvB (k : Nat) : Nat := if k ≤ 23 then 0 else if k ≤ 48 then 1 else if k ≤ 98 then 2 else 3
def sc (k : Nat) : Nat := if k ≤ 23 then 23 else if k ≤ 48 then 48 else if k ≤ 98 then 98 else 198
def sv (N0 k : Nat) : Nat := N0 + 1 + lvB k
def sn (N0 k : Nat) : Nat := N0 + 2 + lvB k
def tx (k : Nat) (t : Nat → Int32) : Nat → Int32 := fun i => if i < k then t i else 0
def sbT (tb : Nat → ClassId) (M : me_M) (N0 k : Nat) (t : Nat → Int32) : me_M := sbV tb M N0 (sv N0 k) (sc k) k (tx k t)
theorem lv_cases (k : Nat) : (k ≤ 23 ∧ lvB k = 0 ∧ sc k = 23) ∨ (23 < k ∧ k ≤ 48 ∧ lvB k = 1 ∧ sc k = 48) ∨ (48 < k ∧ k ≤ 98 ∧ lvB k = 2 ∧ sc k = 98) ∨ (98 < k ∧ lvB k = 3 ∧ sc k = 198) := by
  unfold lvB sc
  by_cases a1 : k ≤ 23
  · rw [if_pos a1, if_pos a1]; exact Or.inl ⟨a1, rfl, rfl⟩
  · rw [if_neg a1, if_neg a1]
    by_cases a2 : k ≤ 48
    · rw [if_pos a2, if_pos a2]; exact Or.inr (Or.inl ⟨by omega, a2, rfl, rfl⟩)
    · rw [if_neg a2, if_neg a2]
      by_cases a3 : k ≤ 98
      · rw [if_pos a3, if_pos a3]; exact Or.inr (Or.inr (Or.inl ⟨by omega, a3, rfl, rfl⟩))
      · rw [if_neg a3, if_neg a3]; exact Or.inr (Or.inr (Or.inr ⟨by omega, rfl, rfl⟩))
theorem sb_lv {N0 k k' : Nat} (h : k ≤ k') (h2 : k' ≤ k + 20) (h3 : k' ≤ 198) : (k' ≤ sc k ∧ sc k ≤ 198 ∧ sc k' = sc k ∧ sv N0 k' = sv N0 k ∧ sn N0 k' = sn N0 k) ∨ (sc k < k' ∧ k' ≤ 2 * sc k + 2 ∧ sc k ≤ 98 ∧ sc k' = 2 * sc k + 2 ∧ sv N0 k' = sn N0 k ∧ sn N0 k' = sn N0 k + 1) := by
  unfold sv sn
  have a := lv_cases k
  have b := lv_cases k'
  generalize lvB k = x1 at *
  generalize lvB k' = x2 at *
  generalize sc k = x3 at *
  generalize sc k' = x4 at *
  omega
theorem sb_sc {k : Nat} (h : k ≤ 198) : k ≤ sc k ∧ sc k ≤ 198 := by
  have a := lv_cases k
  omega
theorem sb_vn (N0 k : Nat) : N0 < sv N0 k ∧ sn N0 k = sv N0 k + 1 := by unfold sv sn; omega
section SBT
variable {tb : Nat → ClassId} {M : me_M} {N0 k j : Nat} {t : Nat → Int32} {x : Int32}
theorem tx_put : upd (tx k t) k x = tx (k + 1) (upd t k x) := by
  funext i
  by_cases h : i = k
  · subst h
    rw [upd_s]
    show x = if i < i + 1 then upd t i x i else 0
    rw [if_pos (by omega), upd_s]
  · rw [upd_n h]
    show (if i < k then t i else 0) = if i < k + 1 then upd t k x i else 0
    rw [upd_n h]
    by_cases h2 : i < k
    · rw [if_pos h2, if_pos (by omega)]
    · rw [if_neg h2, if_neg (by omega)]
theorem tx_cpy {m : Nat} (h : k ≤ m) : va_cpy (tx k t) (fun _ => 0) 0 0 m = tx k t := by
  funext i; unfold va_cpy tx
  by_cases h2 : i < m
  · rw [if_pos ⟨by omega, by omega⟩, Nat.zero_add, Nat.sub_zero]
  · rw [if_neg (by omega), if_neg (by omega)]
/-- a text put behind -/
theorem tx_cat {f : Nat → Int32} {m : Nat} : va_cpy f (tx k t) 0 k m = tx (k + m) (va_cpy f t 0 k m) := by
  funext i; unfold va_cpy tx
  by_cases h2 : k ≤ i ∧ i < k + m
  · rw [if_pos h2, if_pos h2.2]; exact (if_pos h2).symm
  · rw [if_neg h2]
    by_cases h3 : i < k
    · rw [if_pos h3, if_pos (by omega)]; exact (if_neg h2).symm
    · rw [if_neg h3, if_neg (by omega)]
theorem tx_fit (h : sb_Fit t) : sb_Fit (tx k t) := by
  intro i; unfold tx
  by_cases h2 : i < k
  · rw [if_pos h2]; exact h i
  · rw [if_neg h2]; exact sb_fit0 i
theorem me_fresh {D : va_G} {z0 n : Nat} {s : State} {H : Heap} {locs : List Loc} (h : me_at D z0 M n s H locs) : ∀ q, n ≤ q → M q = none := by
  intro q hq
  cases e : M q with
  | none => rfl
  | some y =>
    have h1 := h.1.lt e
    have h2 := h.2.1
    omega
end SBT
