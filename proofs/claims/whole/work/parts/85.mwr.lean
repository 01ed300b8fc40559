/-! ===== the model writes ===== -/
abbrev wb (x : Int32) : Int32 := vp_nar .byte (x.toInt8.toInt32)
theorem upd_id {F : Nat → Int32} {i : Nat} {v : Int32} (h : F i = v) : upd F i v = F := by
  funext j; by_cases c : j = i
  · subst c; rw [upd_s, h]
  · rw [upd_n c]
/-- the letters of a name: how many -/
def nlR (w : Nat → Int32) (a : Nat) : Nat → Nat → Nat
  | 0, k => k
  | r + 1, k => if w (a + k) = 0 then k else nlR w a r (k + 1)
theorem nlR_t {w : Nat → Int32} {a r k : Nat} (h : w (a + k) = 0) : nlR w a (r + 1) k = k := if_pos h
theorem nlR_f {w : Nat → Int32} {a r k : Nat} (h : ¬ w (a + k) = 0) : nlR w a (r + 1) k = nlR w a r (k + 1) := if_neg h
theorem nlR_b (w : Nat → Int32) (a : Nat) : ∀ (r k : Nat), k ≤ nlR w a r k ∧ nlR w a r k ≤ k + r
  | 0, k => ⟨Nat.le_refl _, Nat.le_refl _⟩
  | r + 1, k => by
    have := nlR_b w a r (k + 1)
    unfold nlR
    split <;> omega
abbrev nlM (w : Nat → Int32) (a : Nat) : Nat := nlR w a 6 0
abbrev nmW (w : Nat → Int32) (a : Nat) : Nat → Int32 := fun i => wb (w (a + i))
/-- how many tens a number has -/
def tnR (a : Nat) : Nat → Nat → Nat
  | 0, e => e
  | r + 1, e => if 9 < a / 10 ^ e then tnR a r (e + 1) else e
theorem tnR_t {a r e : Nat} (h : 9 < a / 10 ^ e) : tnR a (r + 1) e = tnR a r (e + 1) := if_pos h
theorem tnR_f {a r e : Nat} (h : ¬ 9 < a / 10 ^ e) : tnR a (r + 1) e = e := if_neg h
theorem tnR_b (a : Nat) : ∀ (r e : Nat), e ≤ tnR a r e ∧ tnR a r e ≤ e + r
  | 0, e => ⟨Nat.le_refl _, Nat.le_refl _⟩
  | r + 1, e => by
    have := tnR_b a r (e + 1)
    unfold tnR
    split <;> omega
abbrev dgM (a : Nat) : Nat := tnR a 9 0 + 1
theorem dgM_b (a : Nat) : 1 ≤ dgM a ∧ dgM a ≤ 10 := by
  have := tnR_b a 9 0
  unfold dgM; omega
abbrev dgW (a : Nat) : Nat → Int32 := fun i => wb (nI (48 + a / 10 ^ (dgM a - 1 - i) % 10))
def unT (d i : Nat) : Nat := if i < d then 10 ^ (d - 1 - i) else 0
theorem p10 {e : Nat} (h : e ≤ 9) : 0 < 10 ^ e ∧ 10 ^ e < 2 ^ 31 := by
  rcases (show e = 0 ∨ e = 1 ∨ e = 2 ∨ e = 3 ∨ e = 4 ∨ e = 5 ∨ e = 6 ∨ e = 7 ∨ e = 8 ∨ e = 9 by omega) with rfl | rfl | rfl | rfl | rfl | rfl | rfl | rfl | rfl | rfl <;> decide
theorem unT_b {d i : Nat} (h : d ≤ 10) : unT d i < 2 ^ 31 := by
  unfold unT; split
  · exact (p10 (by omega)).2
  · decide
theorem unT_p {d i : Nat} (h : d ≤ 10) : 0 < unT d i ↔ i < d := by
  unfold unT
  by_cases c : i < d
  · rw [if_pos c]; exact ⟨fun _ => c, fun _ => (p10 (by omega)).1⟩
  · rw [if_neg c]; exact ⟨fun z => absurd z (by decide), fun z => absurd z c⟩
theorem unT_s {d i : Nat} (h : d ≤ 10) (hi : i < d) : unT d i / 10 = unT d (i + 1) := by
  unfold unT
  rw [if_pos hi]
  by_cases c : i + 1 < d
  · rw [if_pos c, show d - 1 - i = d - 1 - (i + 1) + 1 by omega, Nat.pow_succ]
    exact Nat.mul_div_cancel _ (by decide)
  · rw [if_neg c, show d - 1 - i = 0 by omega]
theorem unT_0 {d : Nat} (h : 0 < d) : unT d 0 = 10 ^ (d - 1) := by unfold unT; rw [if_pos h, Nat.sub_zero]
theorem nx_div {x y : Int32} {a b : Nat} (hx : x = nI a) (hy : y = nI b) (ha : a < 2 ^ 31) (h0 : 0 < b) (hb : b < 2 ^ 31) : x / y = nI (a / b) := by subst hx; subst hy; exact pk_div ha h0 hb
theorem nI_n0 {b : Nat} (h0 : 0 < b) (hb : b < 2 ^ 31) : ¬ nI b = 0 := fun z => by have := (br_eq rfl (show (0 : Int32) = nI 0 from rfl) hb (by omega)).mp z; omega
theorem mw_neg {a : Nat} (h : 0 < a) (h2 : a < 2 ^ 31) : (if -nI a < 0 then -(-nI a) else -nI a) = nI a := by
  rw [if_pos (neg_lt0 h h2), Int32.neg_neg]
theorem mw_pos {a : Nat} (h2 : a < 2 ^ 31) : ¬ nI a < 0 := by
  rw [show (0 : Int32) = nI 0 from rfl, nI_ltI h2 (by omega)]; omega
/-- an hour of the model's schedule -/
def shV (w : Nat → Int32) (L T k : Nat) : Int32 := if hoF w L (nI (T + k)) = -1 then 46 else w (89 + 11 * ow w (hoF w L (nI (T + k))).toNatClampNeg + 5)
abbrev shW (w : Nat → Int32) (L T : Nat) : Nat → Int32 := fun i => wb (shV w L T i)
/-- a borrower's text, up to the credit -/
def wrA (ot w : Nat → Int32) (b : Nat) : Nat → Int32 := upd (cq ot (nmW w (89 + 11 * b + 5)) 0 (nlM w (89 + 11 * b + 5))) (nlM w (89 + 11 * b + 5)) (wb 64)
def wrn (w : Nat → Int32) (b : Nat) : Nat := nlM w (89 + 11 * b + 5) + 1 + nlM w (9 + 10 * hm w b + 4)
def wrB (ot w : Nat → Int32) (b : Nat) : Nat → Int32 := upd (cq (wrA ot w b) (nmW w (9 + 10 * hm w b + 4)) (nlM w (89 + 11 * b + 5) + 1) (nlM w (9 + 10 * hm w b + 4))) (wrn w b) (wb 32)
def wrC (ot w : Nat → Int32) (b il : Nat) : Nat → Int32 := upd (cq (wrB ot w b) (dgW il) (wrn w b + 1) (dgM il)) (wrn w b + 1 + dgM il) (wb 32)
def wrD (ot w : Nat → Int32) (b il cr : Nat) : Nat → Int32 := cq (wrC ot w b il) (dgW cr) (wrn w b + 1 + dgM il + 1) (dgM cr)
def wrE (ot w : Nat → Int32) (b il cr : Nat) : Nat → Int32 := cq (upd (wrC ot w b il) (wrn w b + 1 + dgM il + 1) (wb 45)) (dgW cr) (wrn w b + 1 + dgM il + 1 + 1) (dgM cr)
theorem nlM_b (w : Nat → Int32) (a : Nat) : nlM w a ≤ 6 := by unfold nlM; have := nlR_b w a 6 0; omega
theorem wrn_b (w : Nat → Int32) (b : Nat) : wrn w b ≤ 13 := by
  have h1 := nlM_b w (89 + 11 * b + 5)
  have h2 := nlM_b w (9 + 10 * hm w b + 4)
  unfold wrn; omega
theorem dg_9 {a : Nat} (h : a ≤ 9) : dgM a = 1 := by
  unfold dgM
  rw [tnR_f (r := 8) (e := 0) (by omega)]
