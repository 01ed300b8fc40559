/-! ===== a builder of text in memory ===== -/
def sbV (tb : Nat → ClassId) (M : me_M) (b v cap k : Nat) (f : Nat → Int32) : me_M := me_up (me_up M b (.inr (9, [.ref v, .int 0, .int 0, .int (nI k)]))) v (.inl (tb 1, cap, .inl f))
section SBV
variable {tb : Nat → ClassId} {M : me_M} {b v cap k n : Nat} {f : Nat → Int32}
theorem sb_o (h : b ≠ v) : sbV tb M b v cap k f b = some (.inr (9, [.ref v, .int 0, .int 0, .int (nI k)])) := by unfold sbV; rw [me_up_n h, me_up_s]
theorem sb_a : sbV tb M b v cap k f v = some (.inl (tb 1, cap, .inl f)) := by unfold sbV; rw [me_up_s]
theorem sb_wk {k' : Nat} (h : b ≠ v) : me_up (sbV tb M b v cap k f) b (.inr (9, [.ref v, .int 0, .int 0, .int (nI k')])) = sbV tb M b v cap k' f := by
  unfold sbV; rw [up_comm (fun z => h z.symm), me_up_up]
theorem sb_wf {f' : Nat → Int32} : me_up (sbV tb M b v cap k f) v (.inl (tb 1, cap, .inl f')) = sbV tb M b v cap k f' := by
  unfold sbV; rw [me_up_up]
/-- the old array is forgotten -/
theorem sb_forget {D : va_G} {z0 : Nat} {s : State} {H : Heap} {locs : List Loc} {n' cap' : Nat} {f' : Nat → Int32} (h : me_at D z0 (me_up (me_up (sbV tb M b v cap k f) n (.inl (tb 1, cap', .inl f'))) b (.inr (9, [.ref n, .int 0, .int 0, .int (nI k)]))) n' s H locs) (hv : M v = none) (hbv : b ≠ v) (hn : n ≠ v) (hnb : n ≠ b) : me_at D z0 (sbV tb M b n cap' k f') n' s H locs := by
  refine h.sub (fun q x hq => ?_)
  unfold sbV at hq ⊢
  by_cases e1 : q = n
  · subst e1
    rw [me_up_s] at hq
    rw [me_up_n hnb, me_up_s]; exact hq
  rw [me_up_n e1] at hq
  by_cases e2 : q = b
  · subst e2
    rw [me_up_s] at hq
    rw [me_up_s]; exact hq
  rw [me_up_n e2] at hq
  by_cases e3 : q = v
  · subst e3
    rw [hv] at hq; cases hq
  rw [me_up_n e2, me_up_n e1, me_up_n e3, me_up_n e2]
  exact hq
theorem le0_a {q c : Nat} (h : q ≤ c) (hc : c < 2 ^ 30) : nI q - nI c ≤ 0 := by
  rw [Int32.le_iff_toInt_le, pk_sub_toInt (by omega) (by omega), Int32.toInt_zero]; omega
theorem le0_b {q c : Nat} (h : c < q) (hc : q < 2 ^ 30) : ¬ nI q - nI c ≤ 0 := by
  rw [Int32.le_iff_toInt_le, pk_sub_toInt (by omega) (by omega), Int32.toInt_zero]; omega
end SBV
