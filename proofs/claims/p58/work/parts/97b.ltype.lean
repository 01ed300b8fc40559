/-! ===== bytes packed in words, and taken out ===== -/
theorem by_low (x : Int32) : x.toInt8.toInt32 = sb_b (x.toBitVec.toNat % 256) := by
  have h1 : (x &&& 255).toInt8 = x.toInt8 := by
    apply Int8.toBitVec_inj.mp
    apply BitVec.eq_of_getLsbD_eq
    intro i hi
    have h2 : i = 0 ∨ i = 1 ∨ i = 2 ∨ i = 3 ∨ i = 4 ∨ i = 5 ∨ i = 6 ∨ i = 7 := by omega
    rcases h2 with rfl | rfl | rfl | rfl | rfl | rfl | rfl | rfl <;> simp
  have h3 := pk_and x (m := 255) 8 (by decide)
  rw [← h1, h3]
  rfl
def byN (w : Int32) (s : Nat) : Nat := w.toBitVec.toNat / 2 ^ (8 * s) % 256
theorem by8_n (w s : Int32) (k : Nat) (hs : ((s.toUInt32 &&& Int32.toUInt32 31).toBitVec % 32).toNat = 8 * k) : by8 w s = sb_b (byN w k) := by
  unfold by8
  rw [pk_vb, by_low, pk_ushr w s (8 * k) hs]
  rfl
theorem by_24n (w : Int32) : by8 w 24 = sb_b (byN w 3) := by8_n w 24 3 (by decide)
theorem by_16n (w : Int32) : by8 w 16 = sb_b (byN w 2) := by8_n w 16 2 (by decide)
theorem by_8n (w : Int32) : by8 w 8 = sb_b (byN w 1) := by8_n w 8 1 (by decide)
theorem by_0n (w : Int32) : by8 w 0 = sb_b (byN w 0) := by8_n w 0 0 (by decide)
/-- a byte pushed in -/
theorem sh_nat (x : Int32) {c : Nat} (hc : c < 256) : ((x <<< ((8 : Int32) &&& 31)) ||| nI c).toBitVec.toNat = x.toBitVec.toNat % 2 ^ 24 * 256 + c := by
  have h1 : ((x <<< ((8 : Int32) &&& 31)) ||| nI c).toBitVec = (x <<< ((8 : Int32) &&& 31)).toBitVec ||| (nI c).toBitVec := by first | rfl | simp
  rw [h1, BitVec.toNat_or, pk_shl x ((8 : Int32) &&& 31) 8 (by decide), pk_tn (by omega)]
  have hx := x.toBitVec.isLt
  have h2 : x.toBitVec.toNat * 2 ^ 8 % 2 ^ 32 = 2 ^ 8 * (x.toBitVec.toNat % 2 ^ 24) := by omega
  rw [h2, ← Nat.two_pow_add_eq_or_of_lt (i := 8) (by omega)]
  omega
theorem by_p0 (x : Int32) {c : Nat} (hc : c < 256) : byN ((x <<< ((8 : Int32) &&& 31)) ||| nI c) 0 = c := by
  unfold byN; rw [sh_nat x hc]; omega
theorem by_ps (x : Int32) {c s : Nat} (hc : c < 256) (hs : s ≤ 2) : byN ((x <<< ((8 : Int32) &&& 31)) ||| nI c) (s + 1) = byN x s := by
  unfold byN; rw [sh_nat x hc]
  have hx := x.toBitVec.isLt
  rcases (show s = 0 ∨ s = 1 ∨ s = 2 by omega) with rfl | rfl | rfl
  · show (x.toBitVec.toNat % 2 ^ 24 * 256 + c) / 2 ^ 8 % 256 = x.toBitVec.toNat / 2 ^ 0 % 256; omega
  · show (x.toBitVec.toNat % 2 ^ 24 * 256 + c) / 2 ^ 16 % 256 = x.toBitVec.toNat / 2 ^ 8 % 256; omega
  · show (x.toBitVec.toNat % 2 ^ 24 * 256 + c) / 2 ^ 24 % 256 = x.toBitVec.toNat / 2 ^ 16 % 256; omega
/-- j letters from il on lie in the words v -/
def inW (ch : Nat → Nat) (il : Nat) (v : Nat → Int32) (j : Nat) : Prop := ∀ p, p < j → byN (v (p / 4)) (min j (4 * (p / 4) + 4) - 1 - p) = ch (il + p)
theorem inW_s {ch : Nat → Nat} {il j : Nat} {v : Nat → Int32} (h : inW ch il v j) (hj : j < 20) (hc : ∀ p, ch p < 256) : inW ch il (upd v (j / 4) ((v (j / 4) <<< ((8 : Int32) &&& 31)) ||| nI (ch (il + j)))) (j + 1) := by
  intro p hp
  by_cases e : p / 4 = j / 4
  · rw [e, upd_s]
    by_cases e2 : p = j
    · subst e2
      rw [show min (p + 1) (4 * (p / 4) + 4) - 1 - p = 0 by omega]
      exact by_p0 _ (hc _)
    · have hh := h p (by omega)
      rw [e] at hh
      rw [show min (j + 1) (4 * (j / 4) + 4) - 1 - p = (min j (4 * (j / 4) + 4) - 1 - p) + 1 by omega, by_ps _ (hc _) (by omega)]
      exact hh
  · rw [upd_n e]
    have hh := h p (by omega)
    rw [show min (j + 1) (4 * (p / 4) + 4) = min j (4 * (p / 4) + 4) by omega]
    exact hh
theorem apW_at {inp : Nat → Int32} {k p : Nat} {w : Int32} : apW inp k w p = if p = k then sb_b (byN w 3) else if p = k + 1 then sb_b (byN w 2) else if p = k + 2 then sb_b (byN w 1) else if p = k + 3 then sb_b (byN w 0) else inp p := by
  unfold apW
  rw [by_24n, by_16n, by_8n, by_0n]
  by_cases h3 : p = k + 3
  · subst h3
    rw [if_neg (by omega), if_neg (by omega), if_neg (by omega), if_pos rfl]
    exact upd_s _ _ _
  rw [upd_n (show p ≠ k + 1 + 1 + 1 by omega)]
  by_cases h2 : p = k + 2
  · subst h2
    rw [if_neg (by omega), if_neg (by omega), if_pos rfl]
    exact upd_s _ _ _
  rw [upd_n (show p ≠ k + 1 + 1 by omega)]
  by_cases h1 : p = k + 1
  · subst h1
    rw [if_neg (by omega), if_pos rfl]
    exact upd_s _ _ _
  rw [upd_n h1]
  by_cases h0 : p = k
  · subst h0
    rw [if_pos rfl]
    exact upd_s _ _ _
  rw [upd_n h0, if_neg h0, if_neg h1, if_neg h2, if_neg h3]
theorem ap_one {ch : Nat → Nat} {inp : Nat → Int32} {k : Nat} {w : Int32} (h : ∀ p, p < k → inp p = sb_b (ch p)) (hw : byN w 3 = ch k ∧ byN w 2 = ch (k + 1) ∧ byN w 1 = ch (k + 2) ∧ byN w 0 = ch (k + 3)) : ∀ p, p < k + 4 → apW inp k w p = sb_b (ch p) := by
  intro p hp
  rw [apW_at]
  by_cases h0 : p = k
  · subst h0; rw [if_pos rfl, hw.1]
  rw [if_neg h0]
  by_cases h1 : p = k + 1
  · subst h1; rw [if_pos rfl, hw.2.1]
  rw [if_neg h1]
  by_cases h2 : p = k + 2
  · subst h2; rw [if_pos rfl, hw.2.2.1]
  rw [if_neg h2]
  by_cases h3 : p = k + 3
  · subst h3; rw [if_pos rfl, hw.2.2.2]
  rw [if_neg h3]
  exact h p (by omega)
theorem inW_w {ch : Nat → Nat} {il i : Nat} {v : Nat → Int32} (h : inW ch il v 20) (hi : i < 5) : byN (v i) 3 = ch (il + 4 * i) ∧ byN (v i) 2 = ch (il + 4 * i + 1) ∧ byN (v i) 1 = ch (il + 4 * i + 2) ∧ byN (v i) 0 = ch (il + 4 * i + 3) := by
  have a := h (4 * i) (by omega)
  have b := h (4 * i + 1) (by omega)
  have c := h (4 * i + 2) (by omega)
  have d := h (4 * i + 3) (by omega)
  rw [show 4 * i / 4 = i by omega, show min 20 (4 * i + 4) - 1 - 4 * i = 3 by omega] at a
  rw [show (4 * i + 1) / 4 = i by omega, show min 20 (4 * i + 4) - 1 - (4 * i + 1) = 2 by omega] at b
  rw [show (4 * i + 2) / 4 = i by omega, show min 20 (4 * i + 4) - 1 - (4 * i + 2) = 1 by omega] at c
  rw [show (4 * i + 3) / 4 = i by omega, show min 20 (4 * i + 4) - 1 - (4 * i + 3) = 0 by omega] at d
  exact ⟨a, b, c, d⟩
theorem ap_five {ch : Nat → Nat} {inp v : Nat → Int32} {il : Nat} (h : ∀ p, p < il → inp p = sb_b (ch p)) (hv : inW ch il v 20) : ∀ p, p < il + 4 + 4 + 4 + 4 + 4 → apW (apW (apW (apW (apW inp il (v 0)) (il + 4) (v 1)) (il + 4 + 4) (v 2)) (il + 4 + 4 + 4) (v 3)) (il + 4 + 4 + 4 + 4) (v 4) p = sb_b (ch p) :=
  ap_one (ap_one (ap_one (ap_one (ap_one h (inW_w hv (i := 0) (by omega))) (inW_w hv (i := 1) (by omega))) (inW_w hv (i := 2) (by omega))) (inW_w hv (i := 3) (by omega))) (inW_w hv (i := 4) (by omega))
/-- the letters of a text of len letters, blanks behind it -/
def chL (l : List Nat) (len p : Nat) : Nat := if p < len then l.getD p 0 else 32
theorem sb_asc {c : Nat} (h : c < 128) : sb_b c = nI c := (show ∀ c, c < 128 → sb_b c = nI c by decide +kernel) c h
theorem asc_ch : ∀ c, c < 128 → ((sb_b c &&& 255).toUInt32 % 65536).toInt32 = sb_b c ∧ narrow .char (.int (sb_b c)) = .int (sb_b c) := by decide +kernel
theorem upd_id {F : Nat → Int32} {k : Nat} {x : Int32} (h : F k = x) : upd F k x = F := by
  funext i
  by_cases e : i = k
  · subst e; rw [upd_s, h]
  · rw [upd_n e]
theorem nx_div {x y : Int32} {a b : Nat} (hx : x = nI a) (hy : y = nI b) (ha : a < 2 ^ 31) (h0 : 0 < b) (hb : b < 2 ^ 31) : x / y = nI (a / b) := by subst hx; subst hy; exact pk_div ha h0 hb
