/-! ===== quotients that are numbers ===== -/
section FPN
theorem fp_t : FP.Core.Fmt.tails FP.Core.b64 = 4503599627370496 := by decide +kernel
theorem fp_e : FP.Core.Fmt.exps FP.Core.b64 = 2048 := by decide +kernel
theorem fp_qn : FP.Core.Fmt.qmin FP.Core.b64 = -1074 := by decide +kernel
theorem fp_qx : FP.Core.Fmt.qmax FP.Core.b64 = 971 := by decide +kernel
theorem fp_p : 2 ^ FP.Core.b64.p = 9007199254740992 := by decide +kernel
/-- no pattern of a NaN -/
abbrev fp_ok (n : Nat) : Prop := n % 9223372036854775808 ≤ 9218868437227405312
theorem fp_inf (s : Bool) : fp_ok (FP.Core.encode FP.Core.b64 (.inf s)) := by
  show FP.Core.assemble FP.Core.b64 s (FP.Core.Fmt.exps FP.Core.b64 - 1) 0 % _ ≤ _
  unfold FP.Core.assemble
  rw [fp_e, fp_t]
  cases s <;> decide
theorem fp_fin (s : Bool) {c : Nat} {q : Int} (hc : c < 9007199254740992) (hq : q ≤ 971) : fp_ok (FP.Core.encode FP.Core.b64 (.fin s c q)) := by
  show (if c < FP.Core.Fmt.tails FP.Core.b64 then FP.Core.assemble FP.Core.b64 s 0 c else FP.Core.assemble FP.Core.b64 s ((q - FP.Core.Fmt.qmin FP.Core.b64).toNat + 1) (c - FP.Core.Fmt.tails FP.Core.b64)) % _ ≤ _
  unfold FP.Core.assemble
  rw [fp_e, fp_t, fp_qn]
  cases s
  · show (if c < 4503599627370496 then (0 * 2048 + 0) * 4503599627370496 + c else (0 * 2048 + ((q - -1074).toNat + 1)) * 4503599627370496 + (c - 4503599627370496)) % _ ≤ _
    split <;> omega
  · show (if c < 4503599627370496 then (1 * 2048 + 0) * 4503599627370496 + c else (1 * 2048 + ((q - -1074).toNat + 1)) * 4503599627370496 + (c - 4503599627370496)) % _ ≤ _
    split <;> omega
theorem fp_bnd (s : Bool) {c : Nat} (q : Int) (hc : c < 9007199254740992) : fp_ok (FP.Core.encode FP.Core.b64 (FP.Core.bound FP.Core.b64 s c q)) := by
  unfold FP.Core.bound
  rw [fp_qx]
  split
  · exact fp_fin s hc (by assumption)
  · exact fp_inf s
theorem fp_set (s : Bool) (c : Nat) (q : Int) : fp_ok (FP.Core.encode FP.Core.b64 (FP.Core.settle FP.Core.b64 s c q)) := by
  unfold FP.Core.settle
  rw [fp_p, fp_t]
  split
  · exact fp_bnd s q (by assumption)
  · exact fp_bnd s (q + 1) (by decide)
theorem fp_rr (s : Bool) (a b : Nat) (e : Int) : fp_ok (FP.Core.encode FP.Core.b64 (FP.Core.roundRatio FP.Core.b64 s a b e)) := by
  unfold FP.Core.roundRatio
  split
  · rw [fp_qn]; exact fp_fin s (by decide) (by decide)
  · exact fp_set _ _ _
theorem fp_dec {n : Nat} (h : fp_ok n) : FP.Core.decode FP.Core.b64 n ≠ .nan := by
  unfold FP.Core.decode FP.Core.fieldE FP.Core.fieldT
  rw [fp_e, fp_t]
  unfold fp_ok at h
  split
  · split
    · intro z; cases z
    · omega
  · split
    · intro z; cases z
    · intro z; cases z
theorem fp_64 {n : Nat} (h : fp_ok n) : fp_ok (UInt64.ofNat n).toNat := by
  unfold fp_ok at *
  rw [UInt64.toNat_ofNat']
  omega
theorem fp_n64 {r : UInt64} (h : fp_ok r.toNat) : vf_n64 r := by
  show r &&& 9223372036854775807 ≤ 9218868437227405312
  rw [UInt64.le_iff_toNat_le, UInt64.toNat_and]
  show r.toNat &&& (2 ^ 63 - 1) ≤ 9218868437227405312
  rw [Nat.and_two_pow_sub_one_eq_mod]
  exact h
theorem fp_i2d (x : Int32) : FP.Core.decode FP.Core.b64 (FP.i2d x).toNat ≠ .nan := fp_dec (fp_64 (fp_rr _ _ _ _))
def fp_nz (y : Nat) : Bool := match FP.Core.decode FP.Core.b64 (FP.i2d (nI y)).toNat with
  | .fin _ d _ => d != 0
  | _ => false
theorem fp_nzT : ∀ a, a < 101 → ∀ b, b < 100 → (100 * a + b = 0 ∨ fp_nz (100 * a + b) = true) := by decide +kernel
theorem fp_y {y : Nat} (h0 : y ≠ 0) (h : y ≤ 10000) : ∃ t d r, FP.Core.decode FP.Core.b64 (FP.i2d (nI y)).toNat = .fin t d r ∧ d ≠ 0 := by
  have h1 := fp_nzT (y / 100) (by omega) (y % 100) (by omega)
  rw [show 100 * (y / 100) + y % 100 = y by omega] at h1
  have h2 := h1.resolve_left h0
  unfold fp_nz at h2
  split at h2
  · rename_i t d r e
    exact ⟨t, d, r, e, by simpa using h2⟩
  · cases h2
/-- a sum over hours, by their number: no NaN -/
theorem fp_mean {x : Int32} {y : Nat} (h0 : y ≠ 0) (h : y ≤ 10000) : vf_n64 (FP.ddiv (FP.i2d x) (FP.i2d (nI y))) := by
  obtain ⟨t, d, r, e, hd⟩ := fp_y h0 h
  refine fp_n64 (fp_64 ?_)
  show fp_ok (FP.Core.encode FP.Core.b64 (FP.Core.quotient FP.Core.b64 (FP.Core.decode FP.Core.b64 (FP.i2d x).toNat) (FP.Core.decode FP.Core.b64 (FP.i2d (nI y)).toNat)))
  rw [e]
  have hx := fp_i2d x
  cases hq : FP.Core.decode FP.Core.b64 (FP.i2d x).toNat with
  | nan => exact absurd hq hx
  | inf s => exact fp_inf _
  | fin s c q =>
    show fp_ok (FP.Core.encode FP.Core.b64 (if d = 0 then _ else _))
    rw [if_neg hd]
    exact fp_rr _ _ _ _
theorem fp_share0 : ∀ k, k < 49 → FP.fdiv (FP.i2f (nI k)) 1111490560 &&& 2147483647 ≤ 2139095040 := by decide +kernel
theorem fp_share {k : Nat} (h : k < 49) : vf_n32 (FP.fdiv (FP.i2f (nI k)) 1111490560) := fp_share0 k h
end FPN
section MEF
variable {p : Program} {l : Launch} {e : Env} {R : Room} {s : State} {m : MethodId} {args : Array Value} {below : List Frame} {meth : Method} {c : Code} {H : Heap} {locs : List Loc} {cells slots : Nat} {Q : State → Prop}
variable {cc : ByteArray} {nL pc : Nat} {ls : Array Slot} {rest st : List Value} {D : va_G} {tb : Nat → ClassId} {X : State → Prop} {z0 n a : Nat} {M : me_M} {own : String}
theorem me_dret {r v : UInt64} {M' : me_M} {n' : Nat} (hC : me_cx ws_all p c cc nL s args m own D tb X z0) (hr : meth.sig.returnType = some .double) (hlk : meth.locks = false) (hM : me_at D z0 M n s H locs) (hv : v = r) (hMM : M = M') (hn : n = n') (hdg : decode cc pc = .ok (.dreturn, 1)) : W p l e R s m args below meth c H locs cells slots (MQ below (me_Qd D z0 r M' n') args s cells slots (me_A z0)) (F0 m pc ls [.double v]) := by
  subst hv; subst hMM; subst hn
  exact W.dret hC.1 hC.2.1 hr (fun t ht hW => ⟨⟨v, (M, n), rfl, ⟨rfl, rfl⟩, by rw [ht]; exact hM.2.1, by rw [ht]; exact hM.1⟩, hM.2.2.2.2.F ht⟩) hM.2.2.2.2.2.2 hdg
theorem me_fret {r v : UInt32} {M' : me_M} {n' : Nat} (hC : me_cx ws_all p c cc nL s args m own D tb X z0) (hr : meth.sig.returnType = some .float) (hlk : meth.locks = false) (hM : me_at D z0 M n s H locs) (hv : v = r) (hMM : M = M') (hn : n = n') (hdg : decode cc pc = .ok (.freturn, 1)) : W p l e R s m args below meth c H locs cells slots (MQ below (me_Qf D z0 r M' n') args s cells slots (me_A z0)) (F0 m pc ls [.float v]) := by
  subst hv; subst hMM; subst hn
  exact W.fret hC.1 hC.2.1 hr (fun t ht hW => ⟨⟨v, (M, n), rfl, ⟨rfl, rfl⟩, by rw [ht]; exact hM.2.1, by rw [ht]; exact hM.1⟩, hM.2.2.2.2.F ht⟩) hM.2.2.2.2.2.2 hdg
end MEF
