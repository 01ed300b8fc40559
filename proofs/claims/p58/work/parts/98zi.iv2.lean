/-! ===== what the row's invariant gives: noise, runs of holders, permits ===== -/
section IV2
variable {N T S B L P : Nat} {g : Nat → Int32}
theorem iv_no0 (h : iv N T S B L P g) {x : Int32} {j : Nat} (hj : j < L) (e : hoF g L x = nI j) : noF g L P (hm g (ow g j)) x = 0 := by
  have hL := h.1.2.2.2.2.2.1
  unfold noF
  rw [e, nI_clamp (by omega)]
  exact if_pos ⟨nI_nm1 (by omega), (h.1.2.2.2.2.2.2.2.2.1 _ (h.1.2.2.2.2.2.2.2.2.2 j hj).2).1⟩
theorem iv_pe0 (h : iv N T S B L P g) {x j : Nat} (hj : j < L) (h1 : T ≤ x) (h2 : x ≤ 20000) (e : hoF g L (nI x) = nI j) : peF g P (nI (hm g (ow g j))) (nI x) = -1 :=
  fi_no P 0 (fun k _ hk => h.2.2.2.2.2.2.2.2.2.2 j k x hj (by omega) h1 h2 (ho_hd h.1 hj e))
theorem iv_not (h : iv N T S B L P g) {x : Int32} {k : Nat} (hk : k < S) (hn : ¬ ∃ j, j < L ∧ hoF g L x = nI j ∧ hm g (ow g j) = k) : ¬ (¬ hoF g L x = -1 ∧ g (89 + 11 * ow g (hoF g L x).toNatClampNeg) = nI k) := by
  rintro ⟨c, e⟩
  have hL := h.1.2.2.2.2.2.1
  have hS := h.1.2.1
  obtain ⟨j, hj, e2, -⟩ := hoF_le g L x (by omega) c
  rw [e2, nI_clamp (by omega)] at e
  have z := h.1.2.2.2.2.2.2.2.2.1 _ (h.1.2.2.2.2.2.2.2.2.2 j hj).2
  exact hn ⟨j, hj, e2, (nI_eq (by omega) (by omega)).mp (z.1.symm.trans e)⟩
theorem iv_dn (h : iv N T S B L P g) {k : Nat} (hk : k < S) (x : Int32) : ∃ d : Nat, d ≤ 99 ∧ (if nh x then g (9 + 10 * k + 1) else g (9 + 10 * k)) = nI d := by
  obtain ⟨d, n, t, -, h1, h2, e1, e2, -⟩ := h.2.2.2.2.2.1 k hk
  by_cases c : nh x
  · exact ⟨n, h2, (if_pos c).trans e2⟩
  · exact ⟨d, h1, (if_neg c).trans e1⟩
/-- a street's noise -/
theorem iv_no (h : iv N T S B L P g) {k : Nat} (hk : k < S) (x : Int32) : ∃ d : Nat, d ≤ 139 ∧ noF g L P k x = nI d := by
  obtain ⟨d, hd9, e⟩ := iv_dn h hk x
  unfold noF
  split
  · exact ⟨0, by omega, rfl⟩
  split
  · exact ⟨d, by omega, e⟩
  · exact ⟨d + 40, by omega, by rw [e]; exact nI_add d 40⟩
theorem iv_hN1 (h : iv N T S B L P g) (hT : T ≤ 10000) : ∀ i k j, i < 48 → k < S → j < L → hoF g L (nI (T + i)) = nI j → hm g (ow g j) = k → noF g L P k (nI (T + i)) = 0 ∧ peF g P (nI k) (nI (T + i)) < 0 := by
  intro i k j hi hk hj e e2
  subst e2
  refine ⟨iv_no0 h hj e, ?_⟩
  rw [iv_pe0 h hj (by omega) (by omega) e]
  decide
theorem iv_hN2 (h : iv N T S B L P g) : ∀ i k, i < 48 → k < S → (¬ ∃ j, j < L ∧ hoF g L (nI (T + i)) = nI j ∧ hm g (ow g j) = k) → ¬ peF g P (nI k) (nI (T + i)) < 0 → ¬ noF g L P k (nI (T + i)) < 40 := by
  intro i k _ hk hn hp
  obtain ⟨d, hd9, e⟩ := iv_dn h hk (nI (T + i))
  unfold noF
  rw [if_neg (iv_not h hk hn), if_neg (fun z => hp (by rw [z]; decide)), e, show (40 : Int32) = nI 40 from rfl, nI_add, nI_ltI (by omega) (by omega)]
  omega
theorem iv_hN3 (h : iv N T S B L P g) : ∀ i k, i < 48 → k < S → (¬ ∃ j, j < L ∧ hoF g L (nI (T + i)) = nI j ∧ hm g (ow g j) = k) → peF g P (nI k) (nI (T + i)) < 0 → ¬ 99 < noF g L P k (nI (T + i)) := by
  intro i k _ hk hn hp
  obtain ⟨d, hd9, e⟩ := iv_dn h hk (nI (T + i))
  have hp2 : peF g P (nI k) (nI (T + i)) = -1 := by
    rcases peO (g := g) (f := nI k) (h := nI (T + i)) h.1.2.2.2.2.2.2.2.1 with z | z
    · exact z
    · exact absurd hp z
  unfold noF
  rw [if_neg (iv_not h hk hn), if_pos hp2, e, show (99 : Int32) = nI 99 from rfl, nI_ltI (by omega) (by omega)]
  omega
theorem co_0 {P : Nat → Prop} [DecidablePred P] : ∀ (r k : Nat), (∀ j, k ≤ j → j < k + r → ¬ P j) → co P r k = 0
  | 0, _, _ => rfl
  | r + 1, k, h => by rw [co_f (h k (Nat.le_refl _) (by omega))]; exact co_0 r (k + 1) (fun j a b => h j (by omega) (by omega))
theorem co_one {P Q : Nat → Prop} [DecidablePred P] [DecidablePred Q] {m : Nat} : ∀ (r k : Nat), k ≤ m → m < k + r → P m → ¬ Q m → (∀ j, k ≤ j → j < k + r → j ≠ m → (P j ↔ Q j)) → co P r k = co Q r k + 1
  | 0, k, h1, h2, _, _, _ => by omega
  | r + 1, k, h1, h2, hp, hq, h => by
    by_cases c : k = m
    · subst c
      rw [co_t hp, co_f hq, co_eq (P := P) (Q := Q) r (k + 1) (fun j a b => h j (by omega) (by omega) (by omega))]
      omega
    · have ih := co_one r (k + 1) (by omega) (by omega) hp hq (fun j a b d => h j (by omega) (by omega) d)
      by_cases d : P k
      · rw [co_t d, co_t ((h k (by omega) (by omega) c).mp d), ih]; omega
      · rw [co_f d, co_f (fun z => d ((h k (by omega) (by omega) c).mpr z)), ih]
/-- does a loan hold one of r hours from s + k on -/
abbrev ovl (g : Nat → Int32) (s r k l : Nat) : Prop := ¬ fi (fun j => hdK g l (nI (s + j)) 1) r k = -1
theorem ovl_iff {s r k l : Nat} (hb : k + r < 2 ^ 31) : ovl g s r k l ↔ ∃ j, k ≤ j ∧ j < k + r ∧ hdK g l (nI (s + j)) 1 := by
  constructor
  · intro h
    obtain ⟨j, h1, h2, -, h3⟩ := fi_some h hb
    exact ⟨j, h1, h2, h3⟩
  · rintro ⟨j, h1, h2, h3⟩
    exact fi_hit r k j hb h1 h2 h3
/-- as many runs of holders as loans in the span -/
theorem rn_co (h : iv N T S B L P g) {s : Nat} (hs : T ≤ s) : ∀ (r k : Nat), s + k + r ≤ 20000 → rnF g L s r k = co (ovl g s r k) L 0
  | 0, k, _ => by
    rw [co_0 L 0 (fun j _ _ z => z rfl)]; rfl
  | r + 1, k, hk => by
    have hL := h.1.2.2.2.2.2.1
    have ih := rn_co h hs r (k + 1) (by omega)
    by_cases c : hoF g L (nI (s + k)) = -1
    · rw [rn_f (fun z => z.1 c), ih]
      refine co_eq L 0 (fun l _ hl => ?_)
      rw [ovl_iff (by omega), ovl_iff (by omega)]
      constructor
      · rintro ⟨j, h1, h2, h3⟩; exact ⟨j, by omega, by omega, h3⟩
      · rintro ⟨j, h1, h2, h3⟩
        by_cases e : j = k
        · subst e
          exact absurd c (fi_hit L 0 l (by omega) (by omega) (by omega) h3)
        · exact ⟨j, by omega, by omega, h3⟩
    · obtain ⟨m, hm9, e, em⟩ := hoF_le g L (nI (s + k)) (by omega) c
      have uq : ∀ l, l < L → hdK g l (nI (s + k)) 1 → l = m := fun l hl hh => h.2.2.2.2.2.2.2.2.2.1 l m (s + k) hl hm9 (by omega) (by omega) hh em
      have oth9 : ∀ l, l < L → l ≠ m → (ovl g s (r + 1) k l ↔ ovl g s r (k + 1) l) := by
        intro l hl hlm
        rw [ovl_iff (by omega), ovl_iff (by omega)]
        constructor
        · rintro ⟨j, h1, h2, h3⟩
          by_cases e : j = k
          · subst e; exact absurd (uq l hl h3) hlm
          · exact ⟨j, by omega, by omega, h3⟩
        · rintro ⟨j, h1, h2, h3⟩; exact ⟨j, by omega, by omega, h3⟩
      have in1 : ovl g s (r + 1) k m := (ovl_iff (by omega)).mpr ⟨k, by omega, by omega, em⟩
      by_cases d : hoF g L (nI (s + k)) = bfF g L s r (k + 1)
      · rw [rn_f (fun z => z.2 d), ih]
        have in2 : ovl g s r (k + 1) m := by
          cases r with
          | zero => exact absurd d c
          | succ r =>
            rw [ovl_iff (by omega)]
            refine ⟨k + 1, by omega, by omega, ho_hd h.1 hm9 ?_⟩
            exact (d.symm.trans e)
        refine co_eq L 0 (fun l _ hl => ?_)
        by_cases x : l = m
        · subst x; exact ⟨fun _ => in1, fun _ => in2⟩
        · exact (oth9 l (by omega) x).symm
      · rw [rn_t ⟨c, d⟩, ih]
        have in2 : ¬ ovl g s r (k + 1) m := by
          rw [ovl_iff (by omega)]
          rintro ⟨j, h1, h2, h3⟩
          obtain ⟨s0, n0, q0, c0, z⟩ := h.2.2.2.2.2.2.2.1 m hm9
          have y1 := (hd_at (m := 1) z (by omega) (by omega)).mp em
          have y2 := (hd_at (m := 1) z (by omega) (by omega)).mp h3
          cases r with
          | zero => omega
          | succ r =>
            have y3 : hdK g m (nI (s + (k + 1))) 1 := (hd_at (m := 1) z (by omega) (by omega)).mpr ⟨y1.1, by omega, by omega⟩
            have y4 := iv_ho h hm9 (by omega) (by omega) y3
            exact d (e.trans y4.symm)
        exact (co_one L 0 (m := m) (by omega) (by omega) in1 in2 (fun l _ hl hlm => oth9 l (by omega) hlm)).symm
theorem iv_rn (h : iv N T S B L P g) (hT : T ≤ 10000) {n : Nat} (hn1 : 1 ≤ n) : ∀ i, i + n ≤ 48 → rnF g L (T + i) n 0 = loF g L (nI (T + i)) (nI n) := by
  intro i hi
  rw [rn_co h (by omega) n 0 (by omega)]
  refine co_eq L 0 (fun l _ hl => ?_)
  obtain ⟨s0, n0, q0, c0, z⟩ := h.2.2.2.2.2.2.2.1 l (by omega)
  rw [ovl_iff (by omega), hd_sp z (by omega) (by omega) hn1]
  constructor
  · rintro ⟨j, h1, h2, h3⟩; exact ⟨j, by omega, h3⟩
  · rintro ⟨j, h1, h3⟩; exact ⟨j, by omega, by omega, h3⟩
theorem iv_pr (h : iv N T S B L P g) {b : Nat} (hb : b < B) {n : Nat} (hn : n ≤ 6) : ∃ q : Nat, q ≤ 60 ∧ prF g b (nI n) = nI q := by
  obtain ⟨d, -, -, -, hd9, -, e, -⟩ := h.2.2.2.2.2.1 (hm g b) (h.1.2.2.2.2.2.2.2.2.1 b hb).2
  refine ⟨n * (d / 10 + 1), ?_, ?_⟩
  · have : d / 10 + 1 ≤ 10 := by omega
    exact (Nat.mul_le_mul hn this)
  · unfold prF
    rw [e, show (10 : Int32) = nI 10 from rfl, pk_div (by omega) (by omega) (by omega), show (1 : Int32) = nI 1 from rfl, nI_add, pk_mul]
theorem iv_cr (h : iv N T S B L P g) {b : Nat} (hb : b < B) : -2970 ≤ (g (89 + 11 * b + 2)).toInt ∧ (g (89 + 11 * b + 2)).toInt ≤ N := by
  have z := h.2.2.2.2.2.2.1 b hb
  have y : ivN g L ≤ L := co_le _ L 0
  have hL := h.1.2.2.2.2.2.1
  exact ⟨by omega, z.2⟩
theorem iv_hlka (h : iv N T S B L P g) (hN : N ≤ 1000000) {b : Nat} (hb : b < B) {n : Nat} (hn : n ≤ 6) : g (89 + 11 * b + 2) < prF g b (nI n) ↔ 0 < prF g b (nI n) - g (89 + 11 * b + 2) := by
  obtain ⟨q, hq, e⟩ := iv_pr h hb hn
  have z := iv_cr h hb
  rw [e, Int32.lt_iff_toInt_lt, Int32.lt_iff_toInt_lt, Int32.toInt_sub, nI_toInt (by omega), ti_bm (by omega) (by omega), show (0 : Int32).toInt = 0 from by decide]
  omega
theorem iv_a3 (h : iv N T S B L P g) (hN : N ≤ 1000000) : ∀ b n, b < B → n ≤ 5 → ¬ g (89 + 11 * b + 2) + nI n ≤ -9999 := by
  intro b n hb hn
  have z := iv_cr h hb
  rw [Int32.le_iff_toInt_le, Int32.toInt_add, nI_toInt (by omega), ti_bm (by omega) (by omega), show (-9999 : Int32).toInt = -9999 from by decide]
  omega
theorem iv_a4 (h : iv N T S B L P g) : ∀ k, k < L → ∃ j, j ≤ 5 ∧ g (261 + 5 * k + 4) = nI j := by
  intro k hk
  obtain ⟨s, n, q, c, -, -, -, -, h5, -, -, -, e⟩ := h.2.2.2.2.2.2.2.1 k hk
  exact ⟨c, h5, e⟩
theorem iv_a5 (h : iv N T S B L P g) (hT : T ≤ 10000) : ∀ s1 s n, s1 < S → 1 ≤ n → n ≤ 12 → T ≤ s → s + n ≤ T + 48 → (fi (fun k => cpP g L (nI s1) (nI s) (nI n) k) L 0 = -1 ↔ ∀ j, j < n → ¬ hbS g L s1 s j) := by
  intro s1 s n hs1 hn1 hn hs hsn
  have hL := h.1.2.2.2.2.2.1
  have hS := h.1.2.1
  constructor
  · rintro e j hj ⟨l, hl, e1, e2⟩
    obtain ⟨s0, n0, q0, c0, z⟩ := h.2.2.2.2.2.2.2.1 l hl
    refine fi_hit L 0 l (by omega) (by omega) (by omega) ⟨(hd_sp z (by omega) (by omega) hn1).mpr ⟨j, hj, ho_hd h.1 hl e1⟩, ?_⟩ e
    rw [(h.1.2.2.2.2.2.2.2.2.1 _ (h.1.2.2.2.2.2.2.2.2.2 l hl).2).1, e2]
  · intro e
    refine fi_no L 0 (fun l _ hl => ?_)
    rintro ⟨h1, h2⟩
    obtain ⟨s0, n0, q0, c0, z⟩ := h.2.2.2.2.2.2.2.1 l (by omega)
    obtain ⟨j, hj, hh⟩ := (hd_sp z (by omega) (by omega) hn1).mp h1
    have w := h.1.2.2.2.2.2.2.2.2.1 _ (h.1.2.2.2.2.2.2.2.2.2 l (by omega)).2
    exact e j hj ⟨l, by omega, iv_ho h (by omega) (by omega) (by omega) hh, (nI_eq (by omega) (by omega)).mp (w.1.symm.trans h2)⟩
theorem iv_a6 (hT : T ≤ 10000) : ∀ s1 s n, s1 < S → 1 ≤ n → n ≤ 12 → T ≤ s → s + n ≤ T + 48 → P < 10 → ¬ peF (apF g P (nI s1) (nI s) (nI n)) (P + 1) (nI s1) (nI s) < 0 := by
  intro s1 s n _ hn1 hn hs hsn hP
  have hit : ¬ peF (apF g P (nI s1) (nI s) (nI n)) (P + 1) (nI s1) (nI s) = -1 := by
    refine fi_hit (P + 1) 0 P (by omega) (by omega) (by omega) ?_
    have e0 : apF g P (nI s1) (nI s) (nI n) (221 + 4 * P) = nI s1 := by unfold apF; rw [upd_n (by omega), upd_n (by omega), upd_n (by omega), upd_n (by omega), upd_s]
    have e1 : apF g P (nI s1) (nI s) (nI n) (221 + 4 * P + 1) = nI s := by unfold apF; rw [upd_n (by omega), upd_n (by omega), upd_n (by omega), upd_s]
    have e2 : apF g P (nI s1) (nI s) (nI n) (221 + 4 * P + 2) = nI n := by unfold apF; rw [upd_n (by omega), upd_n (by omega), upd_s]
    have e3 : apF g P (nI s1) (nI s) (nI n) (221 + 4 * P + 3) = 0 := by unfold apF; rw [upd_n (by omega), upd_s]
    show bz (apF g P (nI s1) (nI s) (nI n) (221 + 4 * P + 3)) = 0 ∧ apF g P (nI s1) (nI s) (nI n) (221 + 4 * P) = nI s1 ∧ apF g P (nI s1) (nI s) (nI n) (221 + 4 * P + 1) ≤ nI s ∧ nI s < apF g P (nI s1) (nI s) (nI n) (221 + 4 * P + 1) + apF g P (nI s1) (nI s) (nI n) (221 + 4 * P + 2)
    rw [e0, e1, e2, e3, nI_add]
    exact ⟨by decide, rfl, Int32.le_refl _, (nI_ltI (by omega) (by omega)).mpr (by omega)⟩
  rcases peO (g := apF g P (nI s1) (nI s) (nI n)) (P := P + 1) (f := nI s1) (h := nI s) (by omega) with z | z
  · exact absurd z hit
  · exact z
end IV2
