/-! ===== what the bureau becomes ===== -/
def wsG (k : Nat) (g : Nat → Int32) : Nat → Int32 := upd g (261 + 5 * k + 4) 3
def rvG (k : Nat) (g : Nat → Int32) : Nat → Int32 := upd g (221 + 4 * k + 3) 1
def pyG (b : Nat) (x : Int32) (g : Nat → Int32) : Nat → Int32 := upd (upd g (89 + 11 * b + 2) (g (89 + 11 * b + 2) + x)) 7 (g 7 + x)
def by8 (w s : Int32) : Int32 := vp_nar .byte ((w.toUInt32 >>> (s.toUInt32 &&& Int32.toUInt32 31)).toInt32.toInt8.toInt32)
/-- four bytes of a word, the most significant first, from place k on -/
def apW (inp : Nat → Int32) (k : Nat) (w : Int32) : Nat → Int32 := upd (upd (upd (upd inp k (by8 w 24)) (k + 1) (by8 w 16)) (k + 1 + 1) (by8 w 8)) (k + 1 + 1 + 1) (by8 w 0)
theorem nx_ct {x : Int32} {a : Nat} (hx : x = nI a) (h : 0 < a) : x - 1 = nI (a - 1) := by
  subst hx
  obtain ⟨k, rfl⟩ : ∃ k, a = k + 1 := ⟨a - 1, by omega⟩
  exact nI_pred k
