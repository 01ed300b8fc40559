/-! ===== the ledger's sum; changes that keep the invariant ===== -/
theorem suF_add {F : Nat → Int32} : ∀ (r k : Nat) (x y : Int32), suF F r k (x + y) = suF F r k x + y
  | 0, _, _, _ => rfl
  | r + 1, k, x, y => by
    show suF F r (k + 1) (x + y + F k) = suF F r (k + 1) (x + F k) + y
    rw [Int32.add_assoc, Int32.add_comm y (F k), ← Int32.add_assoc, suF_add r (k + 1)]
theorem suF_one {F F' : Nat → Int32} {j : Nat} {d : Int32} : ∀ (r k : Nat) (x : Int32), k ≤ j → j < k + r → F' j = F j + d → (∀ i, k ≤ i → i < k + r → i ≠ j → F' i = F i) → suF F' r k x = suF F r k x + d
  | 0, _, _, h1, h2, _, _ => by omega
  | r + 1, k, x, h1, h2, e, h => by
    show suF F' r (k + 1) (x + F' k) = suF F r (k + 1) (x + F k) + d
    by_cases c : k = j
    · subst c
      rw [e, ← Int32.add_assoc, suF_add]
      rw [suF_eq (A := F') (C := F) r (k + 1) _ (fun i a b => h i (by omega) (by omega) (by omega))]
    · rw [h k (by omega) (by omega) c]
      exact suF_one r (k + 1) _ (by omega) (by omega) e (fun i a b z => h i (by omega) (by omega) z)
theorem suF_last {F : Nat → Int32} : ∀ (r k : Nat) (x : Int32), suF F (r + 1) k x = suF F r k x + F (k + r)
  | 0, _, _ => rfl
  | r + 1, k, x => by
    show suF F (r + 1) (k + 1) (x + F k) = suF F r (k + 1) (x + F k) + F (k + (r + 1))
    rw [suF_last r (k + 1), show k + 1 + r = k + (r + 1) by omega]
/-- what a loan counts for in the ledger -/
def prG (g : Nat → Int32) (k : Nat) : Int32 := if g (261 + 5 * k + 4) = 5 then 0 else g (261 + 5 * k + 3)
def crG (g : Nat → Int32) (k : Nat) : Int32 := g (89 + 11 * k + 2)
theorem suP_F {g : Nat → Int32} : ∀ (r k : Nat) (x : Int32), suP g r k x = suF (prG g) r k x
  | 0, _, _ => rfl
  | r + 1, k, x => by
    show suP g r (k + 1) (if g (261 + 5 * k + 4) = 5 then x else x + g (261 + 5 * k + 3)) = suF (prG g) r (k + 1) (x + prG g k)
    rw [suP_F r (k + 1)]
    unfold prG
    split
    · rw [Int32.add_zero]
    · rfl
theorem ac_d {g g' : Nat → Int32} {B L : Nat} {d0 d1 d2 : Int32} (h0 : g' 8 - g' 7 = g 8 - g 7 + d0) (h1 : ∀ x, suF (crG g') B 0 x = suF (crG g) B 0 x + d1) (h2 : ∀ x, suF (prG g') L 0 x = suF (prG g) L 0 x + d2) : acF g' B L = acF g B L + d0 + d1 + d2 := by
  show suP g' L 0 (suF (crG g') B 0 (g' 8 - g' 7)) = suP g L 0 (suF (crG g) B 0 (g 8 - g 7)) + d0 + d1 + d2
  rw [suP_F, suP_F, h2, h1, h0, suF_add, suF_add, suF_add]
theorem su_same {F F' : Nat → Int32} {r : Nat} (h : ∀ j, j < r → F' j = F j) : ∀ x, suF F' r 0 x = suF F r 0 x + 0 := by
  intro x
  rw [Int32.add_zero]
  exact suF_eq r 0 x (fun j _ hj => h j (by omega))
section IV3
variable {N N' T T' S B L P : Nat} {g g' w : Nat → Int32}
theorem iv_ag (h : ag S B L P g w) (hi : iv N T S B L P w) : iv N T S B L P g := by
  have hW := hi.1
  have hh : ∀ j, j < L → ow g j = ow w j := fun j hj => ag_ow h hj
  have hN : ivN g L = ivN w L := co_eq L 0 (fun k _ hk => by rw [h.2.2.2.2 k 4 (by omega) (by decide)])
  refine ⟨ag_wf h hW, (h.1 2 (by decide)).trans hi.2.1, fun b hb => ?_, (ag_ac h).trans hi.2.2.2.1, ?_, fun k hk => ?_, fun b hb => ?_, fun k hk => ?_, fun k hk => ?_, fun j k x hj hk h1 h2 a b => ?_, fun j k x hj hk h1 h2 a b => ?_⟩
  · obtain ⟨a, r, t, z1, z2, z3, e1, e2, e3⟩ := hi.2.2.1 b hb
    exact ⟨a, r, t, z1, z2, z3, (h.2.2.1 b 1 hb (by decide)).trans e1, (h.2.2.1 b 3 hb (by decide)).trans e2, (h.2.2.1 b 4 hb (by decide)).trans e3⟩
  · obtain ⟨f, hf, e⟩ := hi.2.2.2.2.1
    exact ⟨f, hf, (h.1 1 (by decide)).trans e⟩
  · obtain ⟨d, n, t, z1, z2, z3, e1, e2, e3⟩ := hi.2.2.2.2.2.1 k hk
    exact ⟨d, n, t, z1, z2, z3, (h.2.1 k 0 hk (by decide)).trans e1, (h.2.1 k 1 hk (by decide)).trans e2, (h.2.1 k 2 hk (by decide)).trans e3⟩
  · rw [hN, h.2.2.1 b 2 hb (by decide)]
    exact hi.2.2.2.2.2.2.1 b hb
  · obtain ⟨s, n, q, c, z1, z2, z3, z4, z5, e1, e2, e3, e4⟩ := hi.2.2.2.2.2.2.2.1 k hk
    exact ⟨s, n, q, c, z1, z2, z3, z4, z5, (h.2.2.2.2 k 1 hk (by decide)).trans e1, (h.2.2.2.2 k 2 hk (by decide)).trans e2, (h.2.2.2.2 k 3 hk (by decide)).trans e3, (h.2.2.2.2 k 4 hk (by decide)).trans e4⟩
  · rw [h.2.2.2.1 k 3 hk (by decide)]
    exact hi.2.2.2.2.2.2.2.2.1 k hk
  · exact hi.2.2.2.2.2.2.2.2.2.1 j k x hj hk h1 h2 ((ag_hd h hj _ _).mp a) ((ag_hd h hk _ _).mp b)
  · refine hi.2.2.2.2.2.2.2.2.2.2 j k x hj hk h1 h2 ((ag_hd h hj _ _).mp a) ?_
    rw [hh j hj, ag_hm h (hW.2.2.2.2.2.2.2.2.2 j hj).2] at b
    obtain ⟨b1, b2, b3, b4⟩ := b
    rw [h.2.2.2.1 k 3 hk (by decide)] at b1
    rw [show g (221 + 4 * k) = w (221 + 4 * k) from h.2.2.2.1 k 0 hk (by decide)] at b2
    rw [h.2.2.2.1 k 1 hk (by decide)] at b3
    rw [h.2.2.2.1 k 1 hk (by decide), h.2.2.2.1 k 2 hk (by decide)] at b4
    exact ⟨b1, b2, b3, b4⟩
/-- a row that holds no more than another -/
theorem iv_sub (h : iv N T S B L P g) (hT : T ≤ T') (hW : wf g' S B L P) (h2 : g' 2 = nI T') (hb : bnd B g') (ha : acF g' B L = 0) (h1 : g' 1 = g 1) (hs : ∀ k, k < S → ∃ d n t : Nat, t ≤ 139 * T' ∧ ivS g' k d n t)
    (hc : ∀ b, b < B → -((99 * ivN g' L : Nat) : Int) ≤ (g' (89 + 11 * b + 2)).toInt ∧ (g' (89 + 11 * b + 2)).toInt ≤ (N' : Int)) (hl : ∀ k, k < L → ∃ s n q c : Nat, ivL g' k s n q c) (hz : ∀ k, k < P → bz (g' (221 + 4 * k + 3)) = g' (221 + 4 * k + 3))
    (ho : ∀ k, k < L → ow g' k = ow g k) (hm9 : ∀ b, b < B → hm g' b = hm g b) (hd : ∀ k x, k < L → T' ≤ x → x ≤ 20000 → hdK g' k (nI x) 1 → hdK g k (nI x) 1) (hp : ∀ k x y, k < P → cvK g' k x y → cvK g k x y) : iv N' T' S B L P g' := by
  refine ⟨hW, h2, hb, ha, ?_, hs, hc, hl, hz, fun j k x hj hk x1 x2 a b => ?_, fun j k x hj hk x1 x2 a b => ?_⟩
  · rw [h1]; exact h.2.2.2.2.1
  · exact h.2.2.2.2.2.2.2.2.2.1 j k x hj hk (by omega) x2 (hd j x hj x1 x2 a) (hd k x hk x1 x2 b)
  · rw [ho j hj, hm9 _ (h.1.2.2.2.2.2.2.2.2.2 j hj).2] at b
    exact h.2.2.2.2.2.2.2.2.2.2 j k x hj hk (by omega) x2 (hd j x hj x1 x2 a) (hp k _ _ hk b)
theorem iv_mono (h : iv N T S B L P g) (hN : N ≤ N') : iv N' T S B L P g := by
  refine ⟨h.1, h.2.1, h.2.2.1, h.2.2.2.1, h.2.2.2.2.1, h.2.2.2.2.2.1, fun b hb => ?_, h.2.2.2.2.2.2.2⟩
  have z := h.2.2.2.2.2.2.1 b hb
  omega
/-- one loan's status, one credit, and the cash -/
theorem iv_c1 (h : iv N T S B L P g) {k0 b0 : Nat} (hk30 : k0 < 30) (hb12 : b0 < 12) (hW : wf g' S B L P) (e : ∀ q, q ≠ 261 + 5 * k0 + 4 → q ≠ 89 + 11 * b0 + 2 → q ≠ 7 → q ≠ 8 → g' q = g q)
    (e4 : k0 < L → ∃ c, c ≤ 5 ∧ g' (261 + 5 * k0 + 4) = nI c ∧ ((c = 0 ∨ c = 1) → g (261 + 5 * k0 + 4) = 0 ∨ g (261 + 5 * k0 + 4) = 1)) (cr : b0 < B → -((99 * ivN g' L : Nat) : Int) ≤ (g' (89 + 11 * b0 + 2)).toInt ∧ (g' (89 + 11 * b0 + 2)).toInt ≤ (N' : Int)) (hN : N ≤ N') (hI : ivN g L ≤ ivN g' L) (ha : acF g' B L = 0) : iv N' T S B L P g' := by
  have hS := h.1.2.1
  have hB := h.1.2.2.2.1
  have hL := h.1.2.2.2.2.2.1
  have hP := h.1.2.2.2.2.2.2.2.1
  have oL : ∀ k j, k < L → k ≠ k0 → j < 5 → g' (261 + 5 * k + j) = g (261 + 5 * k + j) := fun k j _ hk hj => e _ (by omega) (by omega) (by omega) (by omega)
  have oL' : ∀ k j, j < 4 → g' (261 + 5 * k + j) = g (261 + 5 * k + j) := fun k j hj => e _ (by omega) (by omega) (by omega) (by omega)
  have oB : ∀ b j, b < B → j < 11 → j ≠ 2 → g' (89 + 11 * b + j) = g (89 + 11 * b + j) := fun b j hb hj hj2 => e _ (by omega) (by omega) (by omega) (by omega)
  refine iv_sub h (Nat.le_refl T) hW ((e 2 (by omega) (by omega) (by omega) (by omega)).trans h.2.1) (fun b hb => ?_) ha (e 1 (by omega) (by omega) (by omega) (by omega)) (fun k hk => ?_) (fun b hb => ?_) (fun k hk => ?_) (fun k hk => ?_) (fun k hk => ?_) (fun b hb => ?_) (fun k x hk _ _ => ?_) (fun k x y hk => ?_)
  · obtain ⟨a, r, t, z1, z2, z3, e1, e2, e3⟩ := h.2.2.1 b hb
    exact ⟨a, r, t, z1, z2, z3, (oB b 1 hb (by omega) (by omega)).trans e1, (oB b 3 hb (by omega) (by omega)).trans e2, (oB b 4 hb (by omega) (by omega)).trans e3⟩
  · obtain ⟨d, n, t, z1, z2, z3, e1, e2, e3⟩ := h.2.2.2.2.2.1 k hk
    exact ⟨d, n, t, z1, z2, z3, (e _ (by omega) (by omega) (by omega) (by omega)).trans e1, (e _ (by omega) (by omega) (by omega) (by omega)).trans e2, (e _ (by omega) (by omega) (by omega) (by omega)).trans e3⟩
  · by_cases c : b = b0
    · subst c; exact cr hb
    · rw [e _ (by omega) (by omega) (by omega) (by omega)]
      have z := h.2.2.2.2.2.2.1 b hb
      omega
  · obtain ⟨s, n, q, c, z1, z2, z3, z4, z5, e1, e2, e3, e5⟩ := h.2.2.2.2.2.2.2.1 k hk
    by_cases x : k = k0
    · subst x
      obtain ⟨c', hc', e6, -⟩ := e4 hk
      exact ⟨s, n, q, c', z1, z2, z3, z4, hc', (oL' k 1 (by omega)).trans e1, (oL' k 2 (by omega)).trans e2, (oL' k 3 (by omega)).trans e3, e6⟩
    · exact ⟨s, n, q, c, z1, z2, z3, z4, z5, (oL' k 1 (by omega)).trans e1, (oL' k 2 (by omega)).trans e2, (oL' k 3 (by omega)).trans e3, (oL k 4 hk x (by omega)).trans e5⟩
  · rw [e _ (by omega) (by omega) (by omega) (by omega)]
    exact h.2.2.2.2.2.2.2.2.1 k hk
  · exact congrArg Int32.toNatClampNeg (oL' k 0 (by omega))
  · exact congrArg Int32.toNatClampNeg (oB b 0 hb (by omega) (by omega))
  · rintro ⟨a1, a2, a3⟩
    rw [oL' k 1 (by omega)] at a2
    rw [oL' k 1 (by omega), oL' k 2 (by omega)] at a3
    refine ⟨?_, a2, a3⟩
    by_cases x : k = k0
    · subst x
      obtain ⟨c', hc', e6, z⟩ := e4 hk
      rw [e6, nIc hc'] at a1
      exact z a1
    · rw [oL k 4 hk x (by omega)] at a1
      exact a1
  · rintro ⟨a1, a2, a3, a4⟩
    have o : ∀ j, j < 4 → g' (221 + 4 * k + j) = g (221 + 4 * k + j) := fun j hj => e _ (by omega) (by omega) (by omega) (by omega)
    rw [o 3 (by omega)] at a1
    rw [show g' (221 + 4 * k) = g (221 + 4 * k) from o 0 (by omega)] at a2
    rw [o 1 (by omega)] at a3
    rw [o 1 (by omega), o 2 (by omega)] at a4
    exact ⟨a1, a2, a3, a4⟩
end IV3
