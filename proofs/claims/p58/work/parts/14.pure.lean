/-! ===== numbers, first places, branches ===== -/
theorem br_le {x y : Int32} {a b : Nat} (hx : x = nI a) (hy : y = nI b) (ha : a < 2 ^ 31) (hb : b < 2 ^ 31) : x ≤ y ↔ a ≤ b := by subst hx; subst hy; exact nI_leI ha hb
theorem br_lt {x y : Int32} {a b : Nat} (hx : x = nI a) (hy : y = nI b) (ha : a < 2 ^ 31) (hb : b < 2 ^ 31) : x < y ↔ a < b := by subst hx; subst hy; exact nI_ltI ha hb
theorem br_eq {x y : Int32} {a b : Nat} (hx : x = nI a) (hy : y = nI b) (ha : a < 2 ^ 31) (hb : b < 2 ^ 31) : x = y ↔ a = b := by subst hx; subst hy; exact nI_eq ha hb
theorem nx_add {x y : Int32} {a b : Nat} (hx : x = nI a) (hy : y = nI b) : x + y = nI (a + b) := by subst hx; subst hy; exact nI_add a b
theorem nx_mul {x y : Int32} {a b : Nat} (hx : x = nI a) (hy : y = nI b) : x * y = nI (a * b) := by subst hx; subst hy; exact pk_mul a b
theorem nx_sub {x y : Int32} {a b : Nat} (hx : x = nI a) (hy : y = nI b) (h : b ≤ a) : x - y = nI (a - b) := by subst hx; subst hy; exact pk_sub h
theorem nx_c (n : Nat) : (OfNat.ofNat n : Int32) = nI n := rfl
def b1 (P : Prop) [Decidable P] : Int32 := if P then 1 else 0
theorem b1_t {P : Prop} [Decidable P] (h : P) : (1 : Int32) = b1 P := by simp [b1, h]
theorem b1_f {P : Prop} [Decidable P] (h : ¬ P) : (0 : Int32) = b1 P := by simp [b1, h]
theorem b1_0 {P : Prop} [Decidable P] : b1 P = 0 ↔ ¬ P := by by_cases h : P <;> simp [b1, h]
theorem b1_n0 {P : Prop} [Decidable P] : ¬ b1 P = 0 ↔ P := by by_cases h : P <;> simp [b1, h]
theorem b1_01 (P : Prop) [Decidable P] : b1 P = 0 ∨ b1 P = 1 := by by_cases h : P <;> simp [b1, h]
/-- the first place from k on, among r, where P holds; -1 where none -/
def fi (P : Nat → Prop) [DecidablePred P] : Nat → Nat → Int32
  | 0, _ => -1
  | r + 1, k => if P k then nI k else fi P r (k + 1)
theorem fi_0 {P : Nat → Prop} [DecidablePred P] {k : Nat} : fi P 0 k = -1 := rfl
theorem fi_t {P : Nat → Prop} [DecidablePred P] {r k : Nat} (h : P k) : fi P (r + 1) k = nI k := by simp [fi, h]
theorem fi_f {P : Nat → Prop} [DecidablePred P] {r k : Nat} (h : ¬ P k) : fi P (r + 1) k = fi P r (k + 1) := by simp [fi, h]
/-- how many of r places from k on -/
def co (P : Nat → Prop) [DecidablePred P] : Nat → Nat → Nat
  | 0, _ => 0
  | r + 1, k => (if P k then 1 else 0) + co P r (k + 1)
theorem co_0r {P : Nat → Prop} [DecidablePred P] {k : Nat} : co P 0 k = 0 := rfl
theorem co_t {P : Nat → Prop} [DecidablePred P] {r k : Nat} (h : P k) : co P (r + 1) k = 1 + co P r (k + 1) := by simp [co, h]
theorem co_f {P : Nat → Prop} [DecidablePred P] {r k : Nat} (h : ¬ P k) : co P (r + 1) k = co P r (k + 1) := by simp [co, h]
theorem co_le (P : Nat → Prop) [DecidablePred P] : ∀ (r k : Nat), co P r k ≤ r
  | 0, _ => Nat.le_refl 0
  | r + 1, k => by
    have := co_le P r (k + 1)
    by_cases h : P k
    · rw [co_t h]; omega
    · rw [co_f h]; omega
section EV
variable {p : Program} {l : Launch} {e : Env} {R : Room} {s : State} {m : MethodId} {args : Array Value} {below : List Frame} {meth : Method} {c : Code} {H : Heap} {locs : List Loc} {cells slots : Nat} {Q : State → Prop} {pc : Nat} {ls : Array Slot} {rest : List Value}
theorem me_evi {x y : Int32} (h : x = y) (k : W p l e R s m args below meth c H locs cells slots Q (F0 m pc ls (.int y :: rest))) : W p l e R s m args below meth c H locs cells slots Q (F0 m pc ls (.int x :: rest)) := h ▸ k
end EV
