/-! ===== cancel, whistle, pay, revoke, permit ===== -/
theorem i3_a (a b x : Int32) : a - (b + x) + x = a - b := by grind
theorem i3_b (a b x : Int32) : a + x - b = a - b + x := by grind
theorem co_le2 {P Q : Nat → Prop} [DecidablePred P] [DecidablePred Q] : ∀ (r k : Nat), (∀ j, k ≤ j → j < k + r → P j → Q j) → co P r k ≤ co Q r k
  | 0, _, _ => Nat.le_refl _
  | r + 1, k, h => by
    have ih := co_le2 (P := P) (Q := Q) r (k + 1) (fun j a b => h j (by omega) (by omega))
    by_cases c : P k
    · rw [co_t c, co_t (h k (Nat.le_refl _) (by omega) c)]; omega
    · rw [co_f c]
      by_cases d : Q k
      · rw [co_t d]; omega
      · rw [co_f d]; exact ih
section IV4
variable {N N' T T' S B L P : Nat} {g g' w : Nat → Int32}
theorem ac_r {p : Int32} (h0 : g' 8 - g' 7 = g 8 - g 7) (h1 : ∀ x, suF (crG g') B 0 x = suF (crG g) B 0 x + p) (h2 : ∀ x, suF (prG g) L 0 x = suF (prG g') L 0 x + p) : acF g' B L = acF g B L := by
  show suP g' L 0 (suF (crG g') B 0 (g' 8 - g' 7)) = suP g L 0 (suF (crG g) B 0 (g 8 - g 7))
  rw [suP_F, suP_F, h2, h1, h0, suF_add]
theorem iv_ca (h : iv N T S B L P g) {k : Nat} (hk : k < L) (h0 : g (261 + 5 * k + 4) = 0) (hN : N ≤ 1000000) : iv (N + 60) T S B L P (caS k g) := by
  have hB := h.1.2.2.2.1
  have hL := h.1.2.2.2.2.2.1
  have ho := (h.1.2.2.2.2.2.2.2.2.2 k hk).2
  obtain ⟨s, n, q, c, z1, z2, z3, z4, z5, e1, e2, e3, e5⟩ := h.2.2.2.2.2.2.2.1 k hk
  have c1 : ∀ i, i ≠ 261 + 5 * k + 4 → i ≠ 89 + 11 * ow g k + 2 → caS k g i = g i := fun i a b => by unfold caS; rw [upd_n b, upd_n a]
  have c4 : caS k g (261 + 5 * k + 4) = 5 := by unfold caS; rw [upd_n (by omega), upd_s]
  have cc : caS k g (89 + 11 * ow g k + 2) = g (89 + 11 * ow g k + 2) + nI q := by unfold caS; rw [upd_s, e3]
  have hI : ivN (caS k g) L = ivN g L := co_eq L 0 (fun j _ hj => by
    by_cases x : j = k
    · subst x
      rw [c4, h0]
      decide
    · rw [c1 _ (by omega) (by omega)])
  refine iv_c1 h (k0 := k) (b0 := ow g k) (by omega) (by omega) (wf_ca h.1 hk) (fun i a b _ _ => c1 i a b) (fun _ => ⟨5, by omega, c4, by omega⟩) (fun hb => ?_) (by omega) (Nat.le_of_eq hI.symm) ?_
  · have z := h.2.2.2.2.2.2.1 _ ho
    have y := iv_cr h ho
    rw [hI, cc, ti_add (N := N + 2970) (by omega) (by omega) (by omega) (by omega)]
    omega
  · rw [← h.2.2.2.1]
    refine ac_r (p := nI q) (by rw [c1 8 (by omega) (by omega), c1 7 (by omega) (by omega)]) (fun x => suF_one B 0 x (by omega) (by omega : ow g k < 0 + B) cc (fun i _ _ hi => c1 _ (by omega) (by omega))) (fun x => suF_one L 0 x (by omega) (by omega : k < 0 + L) ?_ (fun i _ hi9 hi => ?_))
    · unfold prG
      rw [h0, if_neg (by decide), c4, if_pos rfl, e3, Int32.zero_add]
    · unfold prG
      rw [c1 _ (by omega) (by omega), c1 _ (by omega) (by omega)]
theorem iv_ws (h : iv N T S B L P g) {k : Nat} (hk : k < L) (h0 : g (261 + 5 * k + 4) = 2 ∨ g (261 + 5 * k + 4) = 4) : iv N T S B L P (wsG k g) := by
  have hB := h.1.2.2.2.1
  have hL := h.1.2.2.2.2.2.1
  have c1 : ∀ i, i ≠ 261 + 5 * k + 4 → wsG k g i = g i := fun i a => by unfold wsG; rw [upd_n a]
  have c4 : wsG k g (261 + 5 * k + 4) = 3 := by unfold wsG; rw [upd_s]
  have hI : ivN g L ≤ ivN (wsG k g) L := co_le2 L 0 (fun j _ hj z => by
    by_cases x : j = k
    · subst x; exact Or.inl c4
    · rw [c1 _ (by omega)]; exact z)
  by_cases hb : 0 < B
  · refine iv_c1 h (k0 := k) (b0 := 0) (by omega) (by omega) (wf_ws h.1 hk) (fun i a _ _ _ => c1 i a) (fun _ => ⟨3, by omega, c4, by omega⟩) (fun hb => ?_) (Nat.le_refl _) hI ?_
    · have z := h.2.2.2.2.2.2.1 0 hb
      rw [c1 _ (by omega)]
      omega
    · rw [← h.2.2.2.1]
      refine ac_r (p := 0) (by rw [c1 8 (by omega), c1 7 (by omega)]) (su_same (fun j hj => c1 _ (by omega))) (su_same (fun j hj => ?_))
      unfold prG
      by_cases x : j = k
      · subst x
        rw [c4, if_neg (by decide : ¬ (3 : Int32) = 5), c1 (261 + 5 * j + 3) (by omega)]
        rcases h0 with e | e
        · rw [e, if_neg (by decide)]
        · rw [e, if_neg (by decide)]
      · rw [c1 _ (by omega), c1 _ (by omega)]
  · have := (h.1.2.2.2.2.2.2.2.2.2 k hk).2
    omega
theorem iv_py (h : iv N T S B L P g) {b n : Nat} (hb : b < B) (hn : n ≤ 5) (hN : N ≤ 1000000) : iv (N + 60) T S B L P (pyG b (nI n) g) := by
  have hB := h.1.2.2.2.1
  have hL := h.1.2.2.2.2.2.1
  have c1 : ∀ i, i ≠ 89 + 11 * b + 2 → i ≠ 7 → pyG b (nI n) g i = g i := fun i a c => by unfold pyG; rw [upd_n c, upd_n a]
  have cc : pyG b (nI n) g (89 + 11 * b + 2) = g (89 + 11 * b + 2) + nI n := by unfold pyG; rw [upd_n (by omega), upd_s]
  have c7 : pyG b (nI n) g 7 = g 7 + nI n := by unfold pyG; rw [upd_s]
  have hI : ivN (pyG b (nI n) g) L = ivN g L := co_eq L 0 (fun j _ hj => by rw [c1 _ (by omega) (by omega)])
  refine iv_c1 h (k0 := 0) (b0 := b) (by omega) (by omega) (wf_py h.1 hb) (fun i _ a c _ => c1 i a c) (fun h0 => ?_) (fun _ => ?_) (by omega) (Nat.le_of_eq hI.symm) ?_
  · obtain ⟨s, m, q, c, z1, z2, z3, z4, z5, e1, e2, e3, e5⟩ := h.2.2.2.2.2.2.2.1 0 h0
    refine ⟨c, z5, (c1 _ (by omega) (by omega)).trans e5, fun z => ?_⟩
    rw [e5]
    exact (nIc z5).mpr z
  · have z := h.2.2.2.2.2.2.1 b hb
    have y := iv_cr h hb
    rw [hI, cc, ti_add (N := N + 2970) (by omega) (by omega) (by omega) (by omega)]
    omega
  · rw [← h.2.2.2.1]
    show suP (pyG b (nI n) g) L 0 (suF (crG (pyG b (nI n) g)) B 0 (pyG b (nI n) g 8 - pyG b (nI n) g 7)) = suP g L 0 (suF (crG g) B 0 (g 8 - g 7))
    rw [suP_F, suP_F, suF_one (F := crG g) (F' := crG (pyG b (nI n) g)) B 0 _ (by omega) (by omega : b < 0 + B) cc (fun i _ _ hi => c1 _ (by omega) (by omega)), ← suF_add, c7, c1 8 (by omega) (by omega), i3_a]
    refine suF_eq L 0 _ (fun j _ hj => ?_)
    unfold prG
    rw [c1 _ (by omega) (by omega), c1 _ (by omega) (by omega)]
theorem iv_rv (h : iv N T S B L P g) {k : Nat} (hk : k < P) : iv N T S B L P (rvG k g) := by
  have hS := h.1.2.1
  have hB := h.1.2.2.2.1
  have hL := h.1.2.2.2.2.2.1
  have hP := h.1.2.2.2.2.2.2.2.1
  have c1 : ∀ i, i ≠ 221 + 4 * k + 3 → rvG k g i = g i := fun i a => by unfold rvG; rw [upd_n a]
  have c3 : rvG k g (221 + 4 * k + 3) = 1 := by unfold rvG; rw [upd_s]
  have hI : ivN (rvG k g) L = ivN g L := co_eq L 0 (fun j _ hj => by rw [c1 _ (by omega)])
  refine iv_sub h (Nat.le_refl T) (wf_rv h.1 hk) ((c1 2 (by omega)).trans h.2.1) (fun b hb => ?_) ?_ (c1 1 (by omega)) (fun j hj => ?_) (fun b hb => ?_) (fun j hj => ?_) (fun j hj => ?_) (fun j hj => ?_) (fun b hb => ?_) (fun j x hj _ _ z => ?_) (fun j x y hj z => ?_)
  · obtain ⟨a, r, t, z1, z2, z3, e1, e2, e3⟩ := h.2.2.1 b hb
    exact ⟨a, r, t, z1, z2, z3, (c1 _ (by omega)).trans e1, (c1 _ (by omega)).trans e2, (c1 _ (by omega)).trans e3⟩
  · rw [← h.2.2.2.1]
    refine ac_r (p := 0) (by rw [c1 8 (by omega), c1 7 (by omega)]) (su_same (fun j hj => c1 _ (by omega))) (su_same (fun j hj => ?_))
    unfold prG
    rw [c1 _ (by omega), c1 _ (by omega)]
  · obtain ⟨d, n, t, z1, z2, z3, e1, e2, e3⟩ := h.2.2.2.2.2.1 j hj
    exact ⟨d, n, t, z1, z2, z3, (c1 _ (by omega)).trans e1, (c1 _ (by omega)).trans e2, (c1 _ (by omega)).trans e3⟩
  · rw [hI, c1 _ (by omega)]
    exact h.2.2.2.2.2.2.1 b hb
  · obtain ⟨s, n, q, c, z1, z2, z3, z4, z5, e1, e2, e3, e5⟩ := h.2.2.2.2.2.2.2.1 j hj
    exact ⟨s, n, q, c, z1, z2, z3, z4, z5, (c1 _ (by omega)).trans e1, (c1 _ (by omega)).trans e2, (c1 _ (by omega)).trans e3, (c1 _ (by omega)).trans e5⟩
  · by_cases x : j = k
    · subst x; rw [c3]; decide
    · rw [c1 _ (by omega)]; exact h.2.2.2.2.2.2.2.2.1 j hj
  · exact congrArg Int32.toNatClampNeg (c1 _ (by omega))
  · exact congrArg Int32.toNatClampNeg (c1 _ (by omega))
  · obtain ⟨a1, a2, a3⟩ := z
    rw [c1 _ (by omega)] at a1 a2
    rw [c1 _ (by omega), c1 _ (by omega)] at a3
    exact ⟨a1, a2, a3⟩
  · obtain ⟨a1, a2, a3, a4⟩ := z
    by_cases x1 : j = k
    · subst x1
      rw [c3] at a1
      exact absurd a1 (by decide)
    · rw [c1 _ (by omega)] at a1 a2 a3
      rw [c1 _ (by omega), c1 _ (by omega)] at a4
      exact ⟨a1, a2, a3, a4⟩
end IV4
