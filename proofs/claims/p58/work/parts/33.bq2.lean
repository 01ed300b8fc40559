/-! ===== the bureau's states by their own addresses ===== -/
section BQ2
variable {tb : Nat → ClassId} {bo : Nat} {G : Nat → Nat → Int32} {F sf inp out : Nat → Int32} {M0 : me_M} {g : Nat → Int32}
theorem bq_hO {i : Nat} (h : i < 10) : oth tb (bo + 68 + 65 * i) (G (1 + i)) (sp tb (bo + 722) g (bq tb bo G F sf inp out M0)) := by
  rw [← sa_h bo h]; exact bq_oth (by omega) (by omega)
theorem bq_hset {i : Nat} {g' : Nat → Int32} (h : i < 10) : sp tb (bo + 68 + 65 * i) g' (sp tb (bo + 722) g (bq tb bo G F sf inp out M0)) = sp tb (bo + 722) g (bq tb bo (updG G (1 + i) g') F sf inp out M0) := by
  rw [← sa_h bo h]; exact bq_set (by omega) (by omega)
theorem bq_sO {i : Nat} (h : i < 2) : oth tb (bo + 789 + 65 * i) (G (12 + i)) (sp tb (bo + 722) g (bq tb bo G F sf inp out M0)) := by
  rw [← sa_s bo h]; exact bq_oth (by omega) (by omega)
theorem bq_sset {i : Nat} {g' : Nat → Int32} (h : i < 2) : sp tb (bo + 789 + 65 * i) g' (sp tb (bo + 722) g (bq tb bo G F sf inp out M0)) = sp tb (bo + 722) g (bq tb bo (updG G (12 + i) g') F sf inp out M0) := by
  rw [← sa_s bo h]; exact bq_set (by omega) (by omega)
theorem bq_dO : oth tb (bo + 1) (G 0) (sp tb (bo + 722) g (bq tb bo G F sf inp out M0)) := bq_oth (j := 0) (by omega) (by omega)
theorem bq_dset {g' : Nat → Int32} : sp tb (bo + 1) g' (sp tb (bo + 722) g (bq tb bo G F sf inp out M0)) = sp tb (bo + 722) g (bq tb bo (updG G 0 g') F sf inp out M0) := bq_set (j := 0) (by omega) (by omega)
/-- the same out of the header alone, as a copy into the present State reads it -/
theorem bq_hO0 {i : Nat} (h : i < 10) : oth tb (bo + 68 + 65 * i) (G (1 + i)) (bq tb bo G F sf inp out M0) := by
  rw [← sa_h bo h]; exact bq_oth0 (by omega)
theorem bq_sO0 {i : Nat} (h : i < 2) : oth tb (bo + 789 + 65 * i) (G (12 + i)) (bq tb bo G F sf inp out M0) := by
  rw [← sa_s bo h]; exact bq_oth0 (by omega)
theorem bq_dO0 : oth tb (bo + 1) (G 0) (bq tb bo G F sf inp out M0) := bq_oth0 (j := 0) (by omega)
theorem sp_oth {a : Nat} {M : me_M} : oth tb a g (sp tb a g M) := fun o ho => sp_in tb a g M ho
theorem st_arr_at {a n k : Nat} (h : k < n) : (fun i => if i < n then some (a + 65 * i) else none : Nat → Option Nat) k = some (a + 65 * k) := by simp [h]
end BQ2
theorem nx_rem {x : Int32} {a : Nat} (d : Nat) (hx : x = nI a) (ha : a < 2 ^ 31) (h0 : 0 < d) (hd : d < 2 ^ 31) : x - x / nI d * nI d = nI (a % d) := by subst hx; exact pk_rem ha h0 hd
theorem nx_min {x : Int32} {a : Nat} (d : Nat) (hx : x = nI a) (ha : a < 2 ^ 31) (hd : d < 2 ^ 31) : (if nI d < x then nI d else x) = nI (min a d) := by
  subst hx
  by_cases h : d < a
  · rw [if_pos ((nI_ltI hd ha).mpr h), Nat.min_eq_right (by omega)]
  · rw [if_neg (fun z => h ((nI_ltI hd ha).mp z)), Nat.min_eq_left (by omega)]
