/-! ===== a builder's state as a text's length and letters ===== -/
def sv (N0 k : Nat) : Nat := if k ≤ 16 then N0 + 1 else N0 + 2
def sc (k : Nat) : Nat := if k ≤ 16 then 16 else 34
def sn (N0 k : Nat) : Nat := if k ≤ 16 then N0 + 2 else N0 + 3
def tx (k : Nat) (t : Nat → Int32) : Nat → Int32 := fun i => if i < k then t i else 0
def sbT (tb : Nat → ClassId) (M : me_M) (N0 k : Nat) (t : Nat → Int32) : me_M := sbV tb M N0 (sv N0 k) (sc k) k (tx k t)
section SBT
variable {tb : Nat → ClassId} {M : me_M} {N0 k j : Nat} {t : Nat → Int32} {x : Int32}
theorem sbT_lo (h : k ≤ 16) : sbT tb M N0 k t = sbV tb M N0 (N0 + 1) 16 k (tx k t) := by unfold sbT sv sc; rw [if_pos h, if_pos h]
theorem sbT_hi (h : 16 < k) : sbT tb M N0 k t = sbV tb M N0 (N0 + 2) 34 k (tx k t) := by unfold sbT sv sc; rw [if_neg (by omega), if_neg (by omega)]
theorem sn_lo (h : k ≤ 16) : sn N0 k = N0 + 2 := if_pos h
theorem sn_hi (h : 16 < k) : sn N0 k = N0 + 3 := if_neg (by omega)
theorem tx_put : upd (tx k t) k x = tx (k + 1) (upd t k x) := by
  funext i
  by_cases h : i = k
  · subst h
    rw [upd_s]
    show x = if i < i + 1 then upd t i x i else 0
    rw [if_pos (by omega), upd_s]
  · rw [upd_n h]
    show (if i < k then t i else 0) = if i < k + 1 then upd t k x i else 0
    rw [upd_n h]
    by_cases h2 : i < k
    · rw [if_pos h2, if_pos (by omega)]
    · rw [if_neg h2, if_neg (by omega)]
theorem tx_cpy {m : Nat} (h : k ≤ m) : va_cpy (tx k t) (fun _ => 0) 0 0 m = tx k t := by
  funext i; unfold va_cpy tx
  by_cases h2 : i < m
  · rw [if_pos ⟨by omega, by omega⟩, Nat.zero_add, Nat.sub_zero]
  · rw [if_neg (by omega), if_neg (by omega)]
theorem tx_fit (h : sb_Fit t) : sb_Fit (tx k t) := by
  intro i; unfold tx
  by_cases h2 : i < k
  · rw [if_pos h2]; exact h i
  · rw [if_neg h2]; exact sb_fit0 i
theorem me_fresh {D : va_G} {z0 n : Nat} {s : State} {H : Heap} {locs : List Loc} (h : me_at D z0 M n s H locs) : ∀ q, n ≤ q → M q = none := by
  intro q hq
  cases e : M q with
  | none => rfl
  | some y =>
    have h1 := h.1.lt e
    have h2 := h.2.1
    omega
end SBT
