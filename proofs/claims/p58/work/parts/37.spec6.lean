/-! ===== what the bureau becomes ===== -/
def wsG (k : Nat) (g : Nat → Int32) : Nat → Int32 := upd g (261 + 5 * k + 4) 3
def rvG (k : Nat) (g : Nat → Int32) : Nat → Int32 := upd g (221 + 4 * k + 3) 1
def pyG (b : Nat) (x : Int32) (g : Nat → Int32) : Nat → Int32 := upd (upd g (89 + 11 * b + 2) (g (89 + 11 * b + 2) + x)) 7 (g 7 + x)
def by8 (w s : Int32) : Int32 := vp_nar .byte ((w.toUInt32 >>> (s.toUInt32 &&& Int32.toUInt32 31)).toInt32.toInt8.toInt32)
/-- four bytes of a word, the most significant first, from place k on -/
def apW (inp : Nat → Int32) (k : Nat) (w : Int32) : Nat → Int32 := upd (upd (upd (upd inp k (by8 w 24)) (k + 1) (by8 w 16)) (k + 1 + 1) (by8 w 8)) (k + 1 + 1 + 1) (by8 w 0)
theorem nx_ct {x : Int32} {a : Nat} (hx : x = nI a) (h : 0 < a) : x - 1 = nI (a - 1) := by
  subst hx
  obtain ⟨k, rfl⟩ : ∃ k, a = k + 1 := ⟨a - 1, by omega⟩
  exact nI_pred k
theorem upd_upd (f : Nat → Int32) (k : Nat) (a b : Int32) : upd (upd f k a) k b = upd f k b := by funext j; by_cases h : j = k <;> simp [upd, h]
/-- the first letter of a packed name -/
def flS : Nat → Int32 → Int32
  | 0, x => x
  | r + 1, x => if 31 < x then flS r (x >>> (5 &&& 31)) else x
def scB (g : Nat → Int32) (L k : Nat) : Int32 := if hoF g L (g 2 + nI k) = -1 then vp_nar .byte ((46 : Int32).toInt8.toInt32) else vp_nar .byte ((97 + flS 5 (g (89 + 11 * ow g (hoF g L (g 2 + nI k)).toNatClampNeg + 5)) - 1).toInt8.toInt32)
def scS (g : Nat → Int32) (L k : Nat) (o : Nat → Int32) : Nat → Int32 := upd o k (scB g L k)
/-- illness, rest and strain after one more hour of the forecast -/
def fcS (g : Nat → Int32) (L P s k : Nat) (t : Int32 × Int32 × Int32) : Int32 × Int32 × Int32 := (hrI (noF g L P s (g 2 + nI k)) t.1 t.2.1 t.2.2, hrR (noF g L P s (g 2 + nI k)) t.2.1, hrT (noF g L P s (g 2 + nI k)) t.2.2)
def fcF (g : Nat → Int32) (L P b h : Nat) : Int32 := (it (fcS g L P (hm g b)) h 0 (g (89 + 11 * b + 1), g (89 + 11 * b + 3), g (89 + 11 * b + 4))).1
def fcC (g : Nat → Int32) (L P b h : Nat) : List Value := [.int (g (89 + 11 * b + 5)), .int (g (89 + 11 * b)), .int ((it (fcS g L P (hm g b)) h 0 (g (89 + 11 * b + 1), g (89 + 11 * b + 3), g (89 + 11 * b + 4))).1), .int (g (89 + 11 * b + 2)), .int ((it (fcS g L P (hm g b)) h 0 (g (89 + 11 * b + 1), g (89 + 11 * b + 3), g (89 + 11 * b + 4))).2.1), .int ((it (fcS g L P (hm g b)) h 0 (g (89 + 11 * b + 1), g (89 + 11 * b + 3), g (89 + 11 * b + 4))).2.2)]
theorem sp_upn {tb : Nat → ClassId} {a n : Nat} {g : Nat → Int32} {M0 : me_M} {x : va_E} (h : a + 65 ≤ n) : me_up (sp tb a g M0) n x = sp tb a g (me_up M0 n x) := by
  funext q
  unfold me_up sp
  by_cases hq : q = n
  · subst hq; rw [if_pos rfl, if_neg (by omega)]; exact (if_pos rfl).symm
  · rw [if_neg hq]; show _ = (if a ≤ q ∧ q < a + 65 then _ else if q = n then some x else M0 q); rw [if_neg hq]
theorem sp_upo {tb : Nat → ClassId} {a n : Nat} {g : Nat → Int32} {M0 : me_M} {x y : va_E} (h : a + 65 ≤ n) : me_up (sp tb a g (me_up M0 n x)) n y = sp tb a g (me_up M0 n y) := by
  rw [sp_upn h, me_up_up]
theorem sp_lt {D : va_G} {tb : Nat → ClassId} {z0 n a : Nat} {g : Nat → Int32} {M0 : me_M} {s : State} {H : Heap} {locs : List Loc} (hM : me_at D z0 (sp tb a g M0) n s H locs) : a + 65 ≤ n := by
  have h := hM.1.lt (sp_in tb a g M0 (o := 64) (by omega))
  have := hM.2.1
  omega
theorem bq_fc {tb : Nat → ClassId} {bo n : Nat} {G : Nat → Nat → Int32} {F sf inp out g : Nat → Int32} {M0 : me_M} {x : va_E} (hn : bo + 919 ≤ n) : sp tb (bo + 722) g (me_up (bq tb bo G F sf inp out M0) n x) = sp tb (bo + 722) g (bq tb bo G F sf inp out (me_up M0 n x)) := by
  rw [← bq_new hn, sp_upn (by omega)]
