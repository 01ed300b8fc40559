/-! ===== the machine around the law: what it keeps ===== -/
def lw_sA : Cond := .sameMethod yJ5_ensureCapacityInternal_d00df.cls yJ5_ensureCapacityInternal_d00df.cls yJ5_ensureCapacityInternal_d00df.name yJ5_ensureCapacityInternal_d00df.desc
def lw_sB : Cond := .sameMethod yJ5_newCapacity_0f7a4.cls yJ5_newCapacity_0f7a4.cls yJ5_newCapacity_0f7a4.name yJ5_newCapacity_0f7a4.desc
def lw_sC : Cond := .sameMethod yJ5_putStringAt_47b60.cls yJ5_putStringAt_47b60.cls yJ5_putStringAt_47b60.name yJ5_putStringAt_47b60.desc
def lw_sD : Cond := .sameMethod yJ5_inflateIfNeededFor_a7421.cls yJ5_inflateIfNeededFor_a7421.cls yJ5_inflateIfNeededFor_a7421.name yJ5_inflateIfNeededFor_a7421.desc
def lw_X (kK kV : Nat → Nat) (kO kT z0 : Nat) (U : State) : Prop := me_nest U ∧ me_xs z0 U ∧ me_ks kK kV z0 U ∧ me_kd kO kT z0 U ∧ me_ce U ∧ va_Nw lw_sA U ∧ va_Nw lw_sB U ∧ va_Nw lw_sC U ∧ va_Nw lw_sD U
theorem lw_nw {s U : State} {w : Cond} (hW : s.WarmedH U.vm) (h1 : w.warmB w.codeNames = true) (h2 : w.onTables = true) (h : va_Nw w s) : va_Nw w U := va_tabs h2 (rfl : (s.setVm U.vm).vm = U.vm) (Cond.pre_warmed hW h1 h)
theorem lw_nsame {s U : State} {a o n d : String} (hW : s.WarmedH U.vm) (ha : a ≠ "java/lang/invoke/MethodHandle" ∧ a ≠ "java/lang/invoke/VarHandle") (h : va_Nw (.sameMethod a o n d) s) : va_Nw (.sameMethod a o n d) U := va_tabs rfl (rfl : (s.setVm U.vm).vm = U.vm) (by rw [Cond.sameMethod_setVm hW.alike ha]; exact h)
theorem lw_nsel {s U : State} {C : String} {y : MethodName} (hW : s.WarmedH U.vm) (ha : y.cls ≠ "java/lang/invoke/MethodHandle" ∧ y.cls ≠ "java/lang/invoke/VarHandle") (hs : va_Nw (.sameMethod y.cls y.cls y.name y.desc) s) (h : va_Nw (.selects C y y) s) : va_Nw (.selects C y y) U := va_tabs rfl (rfl : (s.setVm U.vm).vm = U.vm) (by rw [Cond.selects_setVmUp hW.alike ha hs]; exact h)
theorem lw_xwB : ∀ w ∈ xw_B, w.warmB w.codeNames = true ∧ w.onTables = true := by decide +kernel
theorem lw_st {kK kV : Nat → Nat} {kO kT z0 : Nat} : me_st z0 (lw_X kK kV kO kT z0) := by
  intro s U hW hsz hq h
  have hA := hW.alike
  obtain ⟨⟨n1, n2, n3, n4, n5, n6, q1, q2, q3, q4, q5⟩, ⟨x1, x2, x3, x4⟩, ⟨k1, k2, ⟨v, hv, k3⟩, r0, r1, r2, r3, r4, r5, r6, r7, r8, r9, r10, r11⟩, ⟨d1, d2, d3, d4, d5, d6, d7, d8, d9⟩, ⟨e1, e2, e3, e4, e5, e6⟩, sA, sB, sC, sD⟩ := h
  refine ⟨⟨va_Nw.warmM hW n1, va_Nw.warmM hW n2, va_Nw.warmM hW n3, va_Nw.warmM hW n4, va_Nw.warmM hW n5, va_Nw.warmM hW n6, q1.moved hA, q2.moved hA, q3.moved hA, q4.moved hA, q5.moved hA⟩, ⟨(x1.moved hA).kept hq, (x2.moved hA).kept hq, fun w hw => lw_nw hW (lw_xwB w hw).1 (lw_xwB w hw).2 (x3 w hw), fun k tx ht => ?_⟩, ⟨(k1.moved hA).kept hq, (k2.moved hA).kept hq, ⟨v, hv, (k3.moved hA).kept hq⟩, r0.warm hW, r1.warm hW, r2.warm hW, r3.warm hW, r4.warm hW, r5.warm hW, r6.warm hW, r7.warm hW, r8.warm hW, r9.warm hW, r10.warm hW, r11.warm hW⟩, ⟨(d1.moved hA).kept hq, (d2.moved hA).kept hq, (d3.moved hA).kept hq, (d4.moved hA).kept hq, lw_nsel hW (by decide) sA d5, lw_nsel hW (by decide) sB d6, lw_nsel hW (by decide) sC d7, lw_nsel hW (by decide) sD d8, d9.warmC hW⟩, ⟨e1.warmC hW, e2.warmC hW, e3.warmC hW, e4.moved hA, e5.moved hA, e6.moved hA⟩, lw_nsame hW (by decide) sA, lw_nsame hW (by decide) sB, lw_nsame hW (by decide) sC, lw_nsame hW (by decide) sD⟩
  obtain ⟨sa, hr⟩ := x4 k tx ht
  exact ⟨sa, hr.warm hW⟩
section LWW
variable {s : State} {args : Array Value}
theorem lw_selp {C : String} {y : MethodName} {n : Nat} (hy : y.cls ≠ "java/lang/invoke/MethodHandle" ∧ y.cls ≠ "java/lang/invoke/VarHandle") (hins : (Cond.instantiable C n).before args s = true) (hsm : (Cond.sameMethod y.cls y.cls y.name y.desc).before args s = true) (hpriv : (Cond.privateMethod y).before args s = true) (hinst : (Cond.instanceMethod y).before args s = true) : (Cond.selects C y y).before args s = true := by
  obtain ⟨c, k, hc, hk, -⟩ := Cond.instantiable_spec hins
  obtain ⟨c2, ck, r, h1, h2, h3, h4, h5⟩ := Cond.sameMethod_found hsm
  obtain ⟨mk, methM, hnamed, hmethM, -, -⟩ := Cond.instanceMethod_spec hinst
  have hfound : s.methodFound? y.cls y.name y.desc = some mk := State.methodFound?_of_named hnamed hy
  have hcls : mk.cls = c2 := Option.some.inj ((findClass_of_methodNamed hnamed).symm.trans h1)
  have hsel : selectMethod {} s.vm c mk = .method mk := selectMethod_private hmethM (Cond.privateMethod_at hpriv mk methM hnamed hmethM)
  simp only [Cond.before, Cond.holds, Cond.value, hc, hfound, hnamed, hsel, hcls, h2]
  simp; exact h3
/-- the twelve strings -/
def lw_tm (i : Nat) : Term := match i with | 0 => .string RX3 41 | 1 => .string RX3 63 | 2 => .string RX3 68 | 3 => .string RX3 73 | 4 => .string RX3 78 | 5 => .string RX3 83 | 6 => .string RX3 88 | 7 => .string RX7 53 | 8 => .string RL 74 | 9 => .string RL 89 | 10 => .string RL 94 | _ => .string RL 96
def lw_fl : List Cond := flatC (Jvm.Cond.and given_1 narrow_1)
def lw_ba (i : Nat) : Nat := [495, 505, 515, 527, 537, 545, 556, 322, 1075, 1086, 1098, 1112].getD i 0
theorem lw_k1 : ∀ i : Nat, i < 12 → lw_fl[lw_ba i - 4]? = some (Cond.exactly (lw_tm i) "java/lang/String") := by decide +kernel
theorem lw_k2 : ∀ i : Nat, i < 12 → lw_fl[lw_ba i - 3]? = some (Cond.eq (.field (lw_tm i) "java/lang/String" "coder" "B") (.int 0)) := by decide +kernel
theorem lw_k3 : ∀ i : Nat, i < 12 → lw_fl[lw_ba i - 2]? = some (Cond.arrayOf (.field (lw_tm i) "java/lang/String" "value" "[B") .byte) := by decide +kernel
theorem lw_k4 : ∀ i : Nat, i < 12 → lw_fl[lw_ba i - 1]? = some (Cond.eq (.length (.field (lw_tm i) "java/lang/String" "value" "[B")) (.int (Int32.ofNat (ks_len.getD i 0)))) := by decide +kernel
theorem lw_k5 : ∀ i : Nat, i < 12 → ∀ j : Nat, j < ks_len.getD i 0 → lw_fl[lw_ba i + j]? = some (Cond.eq (.elem (.field (lw_tm i) "java/lang/String" "value" "[B") (.int (Int32.ofNat j))) (.int ((ks_byt.getD i []).getD j 0))) := by decide +kernel
theorem lw_d1 : ∀ j : Nat, j < 100 → lw_fl[14 + j]? = some (Cond.eq (.elem (.static "java/lang/Integer" "DigitOnes" "[B") (.int (Int32.ofNat j))) (.int (sb_b (48 + j % 10)))) := by decide +kernel
theorem lw_d2 : ∀ j : Nat, j < 100 → lw_fl[117 + j]? = some (Cond.eq (.elem (.static "java/lang/Integer" "DigitTens" "[B") (.int (Int32.ofNat j))) (.int (sb_b (48 + j / 10)))) := by decide +kernel
/-- two strings of different texts are two -/
theorem lw_noteq {a b : Term} {x y : Nat} (ha : a.eval args s none [] s = some (.ref x)) (hb : b.eval args s none [] s = some (.ref y)) (h : x ≠ y) : (Cond.not (Cond.eq a b)).before args s = true := by
  simp [Cond.before, Cond.holds, Cond.value, ha, hb, h]
theorem lw_len_same {a b : Term} {x : Value} {z z' : Int32} (ha : a.eval args s none [] s = some x) (hb : b.eval args s none [] s = some x) (h1 : (Term.length (.field a "java/lang/String" "value" "[B")).eval args s none [] s = some (.int z)) (h2 : (Term.length (.field b "java/lang/String" "value" "[B")).eval args s none [] s = some (.int z')) : z = z' := by
  simp only [Term.eval, ha, hb] at h1 h2
  cases h1.symm.trans h2
  rfl
theorem lw_el_same {a b : Term} {x : Value} {z z' : Int32} (ha : a.eval args s none [] s = some x) (hb : b.eval args s none [] s = some x) (h1 : (Term.elem (.field a "java/lang/String" "value" "[B") (.int 0)).eval args s none [] s = some (.int z)) (h2 : (Term.elem (.field b "java/lang/String" "value" "[B") (.int 0)).eval args s none [] s = some (.int z')) : z = z' := by
  simp only [Term.eval, ha, hb] at h1 h2
  cases h1.symm.trans h2
  rfl
end LWW
