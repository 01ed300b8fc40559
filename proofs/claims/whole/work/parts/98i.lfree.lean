section AG3
variable {S B L P T : Nat} {g w : Nat → Int32}
theorem co_not {A C : Nat → Prop} [DecidablePred A] [DecidablePred C] : ∀ r k : Nat, (∀ j, k ≤ j → j < k + r → (A j ↔ ¬ C j)) → co A r k = r - co C r k
  | 0, _, _ => rfl
  | r + 1, k, h => by
    have ih := co_not r (k + 1) (fun j a b => h j (by omega) (by omega))
    have h0 := h k (Nat.le_refl _) (by omega)
    have hl := co_le C r (k + 1)
    unfold co
    by_cases c : C k
    · rw [if_pos c, if_neg (fun q => h0.mp q c), ih]; omega
    · rw [if_neg c, if_pos (h0.mpr c), ih]; omega
theorem ag_lef (h : ag S B L P g w) (hO : ok1 S B L P T w) : leF g L = 48 - frM w L T := by
  rw [ag_le h]
  refine co_not 48 0 (fun j _ hj => ?_)
  show ¬ hoF w L (w 2 + nI j) = -1 ↔ ¬ hoF w L (nI (T + j)) = -1
  rw [hO.2.2, nI_add]
theorem ag_twf (h : ag S B L P g w) (hO : ok1 S B L P T w) : twF g L = twM w L T := by
  rw [ag_tw h]
  refine co_eq 48 0 (fun j _ hj => ?_)
  show (1 : Int32) < nI (loF w L (w 2 + nI j) 1) ↔ (1 : Int32) < nI (loF w L (nI (T + j)) 1)
  rw [hO.2.2, nI_add]
theorem ag_fr (h : ag S B L P g w) (hO : ok1 S B L P T w) : (48 - nI (leF g L) : Int32) = nI (frM w L T) := by
  rw [ag_lef h hO]
  have hl : frM w L T ≤ 48 := co_le _ 48 0
  have e : (48 : Int32) = nI (frM w L T) + nI (48 - frM w L T) := by rw [nI_add, Nat.add_sub_cancel' hl]; rfl
  rw [e, Int32.add_sub_cancel]
theorem ag_sh (h : ag S B L P g w) (hO : ok1 S B L P T w) : FP.fdiv (FP.i2f (nI (leF g L))) 1111490560 = FP.fdiv (FP.i2f (nI (48 - frM w L T))) 1111490560 := by rw [ag_lef h hO]
theorem ag_ld (h : ag S B L P g w) (hO : ok1 S B L P T w) : (if acF g B L < 0 then -(acF g B L) else acF g B L) + nI (twF g L) = (if acF w B L < 0 then -(acF w B L) else acF w B L) + nI (twM w L T) := by rw [ag_ac h, ag_twf h hO]
theorem lw_n64a : ∀ k : Nat, k < 49 → FP.f2d (FP.fdiv (FP.i2f (nI k)) 1111490560) &&& 0x7fffffffffffffff ≤ 0x7ff0000000000000 := by decide +kernel
theorem lw_n64 {k : Nat} (h : k ≤ 48) : vf_n64 (FP.f2d (FP.fdiv (FP.i2f (nI k)) 1111490560)) := lw_n64a k (by omega)
end AG3
