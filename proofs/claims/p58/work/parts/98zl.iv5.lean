/-! ===== a permit, a loan ===== -/
theorem fv_none {F : Nat → Int32} : ∀ (r k : Nat), fv F r k = -1 → ∀ j, k ≤ j → j < k + r → F j = -1
  | 0, _, _, j, h1, h2 => by omega
  | r + 1, k, h, j, h1, h2 => by
    by_cases c : F k = -1
    · rw [fv_f c] at h
      by_cases e : j = k
      · subst e; exact c
      · exact fv_none r (k + 1) h j (by omega) (by omega)
    · rw [fv_t c] at h; exact absurd h c
theorem co_last {P : Nat → Prop} [DecidablePred P] : ∀ (r k : Nat), co P (r + 1) k = co P r k + (if P (k + r) then 1 else 0)
  | 0, k => by show (if P k then 1 else 0) + co P 0 (k + 1) = 0 + (if P k then 1 else 0); show (if P k then 1 else 0) + 0 = _; omega
  | r + 1, k => by
    have ih := co_last (P := P) r (k + 1)
    show (if P k then 1 else 0) + co P (r + 1) (k + 1) = (if P k then 1 else 0) + co P r (k + 1) + _
    rw [ih, show k + 1 + r = k + (r + 1) by omega]
    omega
theorem re_0 {g : Nat → Int32} {L P b s n : Nat} (h : reF g L P b s n = 0) : fpF g P b s n = -1 ∧ foF g L b s n = -1 ∧ ¬ g (89 + 11 * b + 2) < prF g b (nI n) := by
  unfold reF at h
  by_cases c1 : ovF g L (nI b) = -1
  · rw [if_neg (fun z => z c1)] at h
    by_cases c2 : fpF g P b s n = -1
    · rw [if_neg (fun z => z c2)] at h
      by_cases c3 : foF g L b s n = -1
      · rw [if_neg (fun z => z c3)] at h
        by_cases c4 : g (89 + 11 * b + 2) < prF g b (nI n)
        · rw [if_pos c4] at h; exact absurd h (by decide)
        · exact ⟨c2, c3, c4⟩
      · rw [if_pos c3] at h; exact absurd h (by decide)
    · rw [if_pos c2] at h; exact absurd h (by decide)
  · rw [if_pos c1] at h; exact absurd h (by decide)
section IV5
variable {N N' T T' S B L P : Nat} {g g' w : Nat → Int32}
theorem iv_ap (h : iv N T S B L P g) (hT : T ≤ 10000) {s1 s n : Nat} (hs1 : s1 < S) (hn1 : 1 ≤ n) (hn : n ≤ 12) (hs : T ≤ s) (hsn : s + n ≤ T + 48) (hcp : fi (fun k => cpP g L (nI s1) (nI s) (nI n) k) L 0 = -1) (hP : P < 10) : iv N T S B L (P + 1) (apF g P (nI s1) (nI s) (nI n)) := by
  have hS := h.1.2.1
  have hB := h.1.2.2.2.1
  have hL := h.1.2.2.2.2.2.1
  have c1 : ∀ i, i ≠ 5 → (i < 221 + 4 * P ∨ 221 + 4 * P + 4 ≤ i) → apF g P (nI s1) (nI s) (nI n) i = g i := fun i a c => by unfold apF; rw [upd_n a, upd_n (by omega), upd_n (by omega), upd_n (by omega), upd_n (by omega)]
  have e0 : apF g P (nI s1) (nI s) (nI n) (221 + 4 * P) = nI s1 := by unfold apF; rw [upd_n (by omega), upd_n (by omega), upd_n (by omega), upd_n (by omega), upd_s]
  have e1 : apF g P (nI s1) (nI s) (nI n) (221 + 4 * P + 1) = nI s := by unfold apF; rw [upd_n (by omega), upd_n (by omega), upd_n (by omega), upd_s]
  have e2 : apF g P (nI s1) (nI s) (nI n) (221 + 4 * P + 2) = nI n := by unfold apF; rw [upd_n (by omega), upd_n (by omega), upd_s]
  have e3 : apF g P (nI s1) (nI s) (nI n) (221 + 4 * P + 3) = 0 := by unfold apF; rw [upd_n (by omega), upd_s]
  have hA : ag S B L P (apF g P (nI s1) (nI s) (nI n)) g ∨ True := Or.inr trivial
  have hI : ivN (apF g P (nI s1) (nI s) (nI n)) L = ivN g L := co_eq L 0 (fun j _ hj => by rw [c1 _ (by omega) (by omega)])
  have hdq9 : ∀ j x, j < L → (hdK (apF g P (nI s1) (nI s) (nI n)) j x 1 ↔ hdK g j x 1) := fun j x hj => by
    show ((apF g P (nI s1) (nI s) (nI n) (261 + 5 * j + 4) = 0 ∨ apF g P (nI s1) (nI s) (nI n) (261 + 5 * j + 4) = 1) ∧ apF g P (nI s1) (nI s) (nI n) (261 + 5 * j + 1) < x + 1 ∧ x < apF g P (nI s1) (nI s) (nI n) (261 + 5 * j + 1) + apF g P (nI s1) (nI s) (nI n) (261 + 5 * j + 2)) ↔ _
    rw [c1 _ (by omega) (by omega), c1 _ (by omega) (by omega), c1 _ (by omega) (by omega)]
  have ho : ∀ j, j < L → ow (apF g P (nI s1) (nI s) (nI n)) j = ow g j := fun j hj => congrArg Int32.toNatClampNeg (c1 _ (by omega) (by omega))
  have hh : ∀ b, b < B → hm (apF g P (nI s1) (nI s) (nI n)) b = hm g b := fun b hb => congrArg Int32.toNatClampNeg (c1 _ (by omega) (by omega))
  refine ⟨wf_ap h.1 hP, (c1 2 (by omega) (by omega)).trans h.2.1, fun b hb => ?_, ?_, ?_, fun j hj => ?_, fun b hb => ?_, fun j hj => ?_, fun j hj => ?_, fun j k x hj hk x1 x2 a b => ?_, fun j k x hj hk x1 x2 a b => ?_⟩
  · obtain ⟨a, r, t, z1, z2, z3, e1, e2, e3⟩ := h.2.2.1 b hb
    exact ⟨a, r, t, z1, z2, z3, (c1 _ (by omega) (by omega)).trans e1, (c1 _ (by omega) (by omega)).trans e2, (c1 _ (by omega) (by omega)).trans e3⟩
  · rw [← h.2.2.2.1]
    refine ac_r (p := 0) (by rw [c1 8 (by omega) (by omega), c1 7 (by omega) (by omega)]) (su_same (fun j hj => c1 _ (by omega) (by omega))) (su_same (fun j hj => ?_))
    unfold prG
    rw [c1 _ (by omega) (by omega), c1 _ (by omega) (by omega)]
  · rw [c1 1 (by omega) (by omega)]; exact h.2.2.2.2.1
  · obtain ⟨d, n, t, z1, z2, z3, e1, e2, e3⟩ := h.2.2.2.2.2.1 j hj
    exact ⟨d, n, t, z1, z2, z3, (c1 _ (by omega) (by omega)).trans e1, (c1 _ (by omega) (by omega)).trans e2, (c1 _ (by omega) (by omega)).trans e3⟩
  · rw [hI, c1 _ (by omega) (by omega)]
    exact h.2.2.2.2.2.2.1 b hb
  · obtain ⟨s, n, q, c, z1, z2, z3, z4, z5, e1, e2, e3, e5⟩ := h.2.2.2.2.2.2.2.1 j hj
    exact ⟨s, n, q, c, z1, z2, z3, z4, z5, (c1 _ (by omega) (by omega)).trans e1, (c1 _ (by omega) (by omega)).trans e2, (c1 _ (by omega) (by omega)).trans e3, (c1 _ (by omega) (by omega)).trans e5⟩
  · by_cases x : j = P
    · subst x; rw [e3]; decide
    · rw [c1 _ (by omega) (by omega)]; exact h.2.2.2.2.2.2.2.2.1 j (by omega)
  · exact h.2.2.2.2.2.2.2.2.2.1 j k x hj hk x1 x2 ((hdq9 j _ hj).mp a) ((hdq9 k _ hk).mp b)
  · have a' := (hdq9 j _ hj).mp a
    rw [ho j hj, hh _ (h.1.2.2.2.2.2.2.2.2.2 j hj).2] at b
    obtain ⟨b1, b2, b3, b4⟩ := b
    have w9 := h.1.2.2.2.2.2.2.2.2.1 _ (h.1.2.2.2.2.2.2.2.2.2 j hj).2
    by_cases y : k = P
    · subst y
      rw [e0] at b2
      rw [e1, nI_leI (by omega) (by omega)] at b3
      rw [e1, e2, nI_add, nI_ltI (by omega) (by omega)] at b4
      obtain ⟨s0, n0, q0, c0, z⟩ := h.2.2.2.2.2.2.2.1 j hj
      refine fi_hit L 0 j (by omega) (by omega) (by omega) ⟨(hd_sp z (by omega) (by omega) hn1).mpr ⟨x - s, by omega, ?_⟩, ?_⟩ hcp
      · rw [show s + (x - s) = x by omega]; exact a'
      · rw [w9.1, b2]
    · rw [c1 _ (by omega) (by omega)] at b1 b2 b3
      rw [c1 _ (by omega) (by omega), c1 _ (by omega) (by omega)] at b4
      exact h.2.2.2.2.2.2.2.2.2.2 j k x hj (by omega) x1 x2 a' ⟨b1, b2, b3, b4⟩
/-- who is displaced -/
theorem ad_hd (h : iv N T S B L P g) (hT : T ≤ 10000) {b s n : Nat} (hn1 : 1 ≤ n) (hn : n ≤ 6) (hs : T ≤ s) (hsn : s + n ≤ T + 48) (hr : reF g L P b s n = 0) : ∀ k, k < L → hdK g k (nI s) (nI n) → g (261 + 5 * k + 4) = 0 ∧ ow g k ≠ b := by
  intro k hk hd
  have hL := h.1.2.2.2.2.2.1
  obtain ⟨s0, n0, q0, c0, z⟩ := h.2.2.2.2.2.2.2.1 k hk
  obtain ⟨j, hj, hh⟩ := (hd_sp z (by omega) (by omega) hn1).mp hd
  have e := iv_ho h hk (by omega) (by omega) hh
  have o : obF g L b (nI (s + j)) = -1 := fv_none n 0 (re_0 hr).2.1 j (by omega) (by omega)
  by_cases c : cdF g b k
  · refine ⟨c.1, fun x => ?_⟩
    have c2 := c.2
    rw [x] at c2
    exact Int32.lt_irrefl c2
  · rw [ob_t hL hk e c] at o
    exact absurd o (nI_nm1 (by omega))
/-- the loans displaced, one by one -/
theorem adA_it (h : iv N T S B L P g) {b : Nat} (hb : b < B) {f m : Int32} (hN : N ≤ 500000) (hd : ∀ k, k < L → hdK g k f m → g (261 + 5 * k + 4) = 0 ∧ ow g k ≠ b) : ∀ (r i : Nat) (w : Nat → Int32), i + r = L → iv (N + 60 * i) T S B L P w → (∀ q, (∀ k, k < L → q ≠ 261 + 5 * k + 4) → (∀ c, c < B → q ≠ 89 + 11 * c + 2) → w q = g q) → (∀ k, i ≤ k → k < L → w (261 + 5 * k + 4) = g (261 + 5 * k + 4)) → (∀ k, k < i → ¬ hdK w k f m) → w (89 + 11 * b + 2) = g (89 + 11 * b + 2) →
    iv (N + 60 * L) T S B L P (it (alS f m) r i w) ∧ (∀ q, (∀ k, k < L → q ≠ 261 + 5 * k + 4) → (∀ c, c < B → q ≠ 89 + 11 * c + 2) → it (alS f m) r i w q = g q) ∧ (∀ k, k < L → ¬ hdK (it (alS f m) r i w) k f m) ∧ it (alS f m) r i w (89 + 11 * b + 2) = g (89 + 11 * b + 2)
  | 0, i, w, hi, h1, h2, h3, h4, h5 => by
    have : i = L := by omega
    subst this
    exact ⟨h1, h2, h4, h5⟩
  | r + 1, i, w, hi, h1, h2, h3, h4, h5 => by
    have hB := h.1.2.2.2.1
    have hL := h.1.2.2.2.2.2.1
    have cell : ∀ k j, k < L → 1 ≤ j → j < 4 → w (261 + 5 * k + j) = g (261 + 5 * k + j) := fun k j hk hj1 hj => h2 _ (fun k' hk' => by omega) (fun c hc => by omega)
    have own : ow w i = ow g i := congrArg Int32.toNatClampNeg (h2 (261 + 5 * i) (fun k' hk' => by omega) (fun c hc => by omega))
    have e : hdK w i f m ↔ hdK g i f m := by
      show ((w (261 + 5 * i + 4) = 0 ∨ w (261 + 5 * i + 4) = 1) ∧ w (261 + 5 * i + 1) < f + m ∧ f < w (261 + 5 * i + 1) + w (261 + 5 * i + 2)) ↔ _
      rw [h3 i (by omega) (by omega), cell i 1 (by omega) (by omega) (by omega), cell i 2 (by omega) (by omega) (by omega)]
    show iv (N + 60 * L) T S B L P (it (alS f m) r (i + 1) (alS f m i w)) ∧ (∀ q, (∀ k, k < L → q ≠ 261 + 5 * k + 4) → (∀ c, c < B → q ≠ 89 + 11 * c + 2) → it (alS f m) r (i + 1) (alS f m i w) q = g q) ∧ (∀ k, k < L → ¬ hdK (it (alS f m) r (i + 1) (alS f m i w)) k f m) ∧ it (alS f m) r (i + 1) (alS f m i w) (89 + 11 * b + 2) = g (89 + 11 * b + 2)
    by_cases c : hdK w i f m
    · have a : alS f m i w = caS i w := if_pos c
      obtain ⟨d1, d2⟩ := hd i (by omega) (e.mp c)
      have ho := (h.1.2.2.2.2.2.2.2.2.2 i (by omega)).2
      have c1 : ∀ q, q ≠ 261 + 5 * i + 4 → q ≠ 89 + 11 * ow g i + 2 → caS i w q = w q := fun q a b => by unfold caS; rw [own, upd_n b, upd_n a]
      have c4 : caS i w (261 + 5 * i + 4) = 5 := by unfold caS; rw [own, upd_n (by omega), upd_s]
      rw [a]
      refine adA_it h hb hN hd r (i + 1) (caS i w) (by omega) (iv_mono (iv_ca h1 (by omega) ((h3 i (by omega) (by omega)).trans d1) (by omega)) (by omega)) (fun q q1 q2 => ?_) (fun k k1 k2 => ?_) (fun k k1 z => ?_) ?_
      · rw [c1 q (q1 i (by omega)) (q2 _ ho)]; exact h2 q q1 q2
      · rw [c1 _ (by omega) (by omega)]; exact h3 k (by omega) k2
      · obtain ⟨z1, z2, z3⟩ := z
        by_cases x : k = i
        · subst x
          rw [c4] at z1
          exact absurd z1 (by decide)
        · rw [c1 _ (by omega) (by omega)] at z1 z2
          rw [c1 _ (by omega) (by omega), c1 _ (by omega) (by omega)] at z3
          exact h4 k (by omega) ⟨z1, z2, z3⟩
      · rw [c1 _ (by omega) (by omega)]; exact h5
    · have a : alS f m i w = w := if_neg c
      rw [a]
      refine adA_it h hb hN hd r (i + 1) w (by omega) (iv_mono h1 (by omega)) h2 (fun k k1 k2 => h3 k (by omega) k2) (fun k k1 => ?_) h5
      by_cases x : k = i
      · subst x; exact c
      · exact h4 k (by omega)
theorem iv_a0 (h : iv N T S B L P g) : ∀ b s n, b < B → n ≤ 6 → adF g L b s n 2 = g 2 := by
  intro b s n hb _
  unfold adF
  rw [upd_n (by omega), upd_n (by omega), upd_n (by omega), upd_n (by omega), upd_n (by omega), upd_n (by omega), upd_n (by omega)]
  exact it_keep (fun k w => c2_al (nI s) (nI n) k w) L 0 g
/-- a loan lent -/
theorem iv_ad (h : iv N T S B L P g) (hT : T ≤ 10000) (hN : N ≤ 500000) {b s n : Nat} (hb : b < B) (hn1 : 1 ≤ n) (hn : n ≤ 6) (hs : T ≤ s) (hsn : s + n ≤ T + 48) (hr : reF g L P b s n = 0) : iv (N + 1800) T S B (L + 1) P (adF g L b s n) ∧ adF g L b s n (89 + 11 * b + 2) = g (89 + 11 * b + 2) - prF g b (nI n) ∧ ∀ x, s ≤ x → x < s + n → hdK (adF g L b s n) L (nI x) 1 := by
  have hS := h.1.2.1
  have hB := h.1.2.2.2.1
  have hL30 : L < 30 := reF_L h.1 hr
  have hP := h.1.2.2.2.2.2.2.2.1
  obtain ⟨iA, oA, nA, cA⟩ := adA_it h hb (f := nI s) (m := nI n) hN (ad_hd h hT hn1 hn hs hsn hr) L 0 g (by omega) h (fun _ _ _ => rfl) (fun _ _ _ => rfl) (fun k hk => by omega) rfl
  have wA : ∃ A, A = adA g L s n := ⟨_, rfl⟩
  obtain ⟨A, hA⟩ := wA
  have hA' : it (alS (nI s) (nI n)) L 0 g = A := hA.symm
  rw [hA'] at iA nA cA
  have oA : ∀ q, (∀ k, k < L → q ≠ 261 + 5 * k + 4) → (∀ c, c < B → q ≠ 89 + 11 * c + 2) → A q = g q := fun q a c => by rw [hA]; exact oA q a c
  have hm9 := (h.1.2.2.2.2.2.2.2.2.1 b hb).2
  have hmA : hm A b = hm g b := congrArg Int32.toNatClampNeg (oA (89 + 11 * b) (fun k hk => by omega) (fun c hc => by omega))
  have hpr : prF A b (nI n) = prF g b (nI n) := by
    unfold prF
    rw [hmA, oA _ (fun k hk => by omega) (fun c hc => by omega)]
  obtain ⟨q, hq, ep⟩ := iv_pr h hb hn
  have X : adF g L b s n = upd (upd (upd (upd (upd (upd (upd A (261 + 5 * L) (nI b)) (261 + 5 * L + 1) (nI s)) (261 + 5 * L + 2) (nI n)) (261 + 5 * L + 3) (nI q)) (261 + 5 * L + 4) 0) (89 + 11 * b + 2) (A (89 + 11 * b + 2) - nI q)) 6 (A 6 + 1) := by
    unfold adF
    rw [← hA, hpr, ep]
  have wf9 := wf_ad (s := s) (n := n) h.1 hb hL30
  rw [X] at wf9 ⊢
  obtain ⟨D, hD⟩ : ∃ D, D = upd (upd (upd (upd (upd (upd (upd A (261 + 5 * L) (nI b)) (261 + 5 * L + 1) (nI s)) (261 + 5 * L + 2) (nI n)) (261 + 5 * L + 3) (nI q)) (261 + 5 * L + 4) 0) (89 + 11 * b + 2) (A (89 + 11 * b + 2) - nI q)) 6 (A 6 + 1) := ⟨_, rfl⟩
  rw [← hD] at wf9 ⊢
  have c1 : ∀ i, i ≠ 6 → i ≠ 89 + 11 * b + 2 → (i < 261 + 5 * L ∨ 261 + 5 * L + 5 ≤ i) → D i = A i := fun i a c d => by rw [hD, upd_n a, upd_n c, upd_n (by omega), upd_n (by omega), upd_n (by omega), upd_n (by omega), upd_n (by omega)]
  have d0 : D (261 + 5 * L) = nI b := by rw [hD, upd_n (by omega), upd_n (by omega), upd_n (by omega), upd_n (by omega), upd_n (by omega), upd_n (by omega), upd_s]
  have d1 : D (261 + 5 * L + 1) = nI s := by rw [hD, upd_n (by omega), upd_n (by omega), upd_n (by omega), upd_n (by omega), upd_n (by omega), upd_s]
  have d2 : D (261 + 5 * L + 2) = nI n := by rw [hD, upd_n (by omega), upd_n (by omega), upd_n (by omega), upd_n (by omega), upd_s]
  have d3 : D (261 + 5 * L + 3) = nI q := by rw [hD, upd_n (by omega), upd_n (by omega), upd_n (by omega), upd_s]
  have d4 : D (261 + 5 * L + 4) = 0 := by rw [hD, upd_n (by omega), upd_n (by omega), upd_s]
  have d5 : D (89 + 11 * b + 2) = A (89 + 11 * b + 2) - nI q := by rw [hD, upd_n (by omega), upd_s]
  have sl : ∀ k j, k < L → j < 5 → D (261 + 5 * k + j) = A (261 + 5 * k + j) := fun k j hk hj => c1 _ (by omega) (by omega) (by omega)
  have zL : ivL D L s n q 0 := ⟨by omega, hn1, hn, hq, by omega, d1, d2, d3, d4⟩
  have hdL : ∀ x, x ≤ 20000 → (hdK D L (nI x) 1 ↔ s ≤ x ∧ x < s + n) := fun x hx => by
    refine (hd_at (m := 1) zL hx (by omega)).trans ?_
    omega
  have hdk : ∀ k x, k < L → (hdK D k x 1 ↔ hdK A k x 1) := fun k x hk => by
    show ((D (261 + 5 * k + 4) = 0 ∨ D (261 + 5 * k + 4) = 1) ∧ D (261 + 5 * k + 1) < x + 1 ∧ x < D (261 + 5 * k + 1) + D (261 + 5 * k + 2)) ↔ _
    rw [sl k 4 hk (by omega), sl k 1 hk (by omega), sl k 2 hk (by omega)]
  have hno : ∀ k x, k < L → s ≤ x → x < s + n → ¬ hdK A k (nI x) 1 := fun k x hk x1 x2 z => by
    obtain ⟨s0, n0, q0, c0, y⟩ := iA.2.2.2.2.2.2.2.1 k hk
    exact nA k hk ((hd_sp y (by omega) (by omega) hn1).mpr ⟨x - s, by omega, by rw [show s + (x - s) = x by omega]; exact z⟩)
  have hmD : ∀ c, c < B → hm D c = hm A c := fun c hc => congrArg Int32.toNatClampNeg (c1 _ (by omega) (by omega) (by omega))
  have owD : ∀ k, k < L → ow D k = ow A k := fun k hk => congrArg Int32.toNatClampNeg (sl k 0 hk (by omega))
  have owL : ow D L = b := by show (D (261 + 5 * L)).toNatClampNeg = b; rw [d0, nI_clamp (by omega)]
  have cvD : ∀ k x y, k < P → cvK D k x y → cvK A k x y := fun k x y hk => by
    rintro ⟨a1, a2, a3, a4⟩
    rw [c1 _ (by omega) (by omega) (by omega)] at a1 a2 a3
    rw [c1 _ (by omega) (by omega) (by omega), c1 _ (by omega) (by omega) (by omega)] at a4
    exact ⟨a1, a2, a3, a4⟩
  have hI : ivN A L ≤ ivN D (L + 1) := by
    unfold ivN
    rw [co_last]
    have : co (fun k => A (261 + 5 * k + 4) = 3 ∨ A (261 + 5 * k + 4) = 4) L 0 ≤ co (fun k => D (261 + 5 * k + 4) = 3 ∨ D (261 + 5 * k + 4) = 4) L 0 := co_le2 L 0 (fun j _ hj z => by rw [sl j 4 (by omega) (by omega)]; exact z)
    omega
  refine ⟨⟨wf9, (c1 2 (by omega) (by omega) (by omega)).trans iA.2.1, fun c hc => ?_, ?_, ?_, fun j hj => ?_, fun c hc => ?_, fun j hj => ?_, fun j hj => ?_, fun j k x hj hk x1 x2 y1 y2 => ?_, fun j k x hj hk x1 x2 y1 y2 => ?_⟩, ?_, fun x x1 x2 => (hdL x (by omega)).mpr ⟨x1, x2⟩⟩
  · obtain ⟨a, r, t, z1, z2, z3, e1, e2, e3⟩ := iA.2.2.1 c hc
    exact ⟨a, r, t, z1, z2, z3, (c1 _ (by omega) (by omega) (by omega)).trans e1, (c1 _ (by omega) (by omega) (by omega)).trans e2, (c1 _ (by omega) (by omega) (by omega)).trans e3⟩
  · rw [← iA.2.2.2.1]
    show suP D (L + 1) 0 (suF (crG D) B 0 (D 8 - D 7)) = suP A L 0 (suF (crG A) B 0 (A 8 - A 7))
    rw [suP_F, suP_F, suF_last, Nat.zero_add]
    have pL : prG D L = nI q := by unfold prG; rw [d4, if_neg (by decide), d3]
    have cS : ∀ x, suF (crG A) B 0 x = suF (crG D) B 0 x + nI q := fun x => suF_one B 0 x (by omega) (by omega : b < 0 + B) (by show A (89 + 11 * b + 2) = D (89 + 11 * b + 2) + nI q; rw [d5, Int32.sub_add_cancel]) (fun i _ hi hib => (c1 _ (by omega) (by omega) (by omega)).symm)
    rw [pL, cS, suF_add, c1 8 (by omega) (by omega) (by omega), c1 7 (by omega) (by omega) (by omega)]
    congr 1
    refine suF_eq L 0 _ (fun j _ hj => ?_)
    unfold prG
    rw [sl j 4 (by omega) (by omega), sl j 3 (by omega) (by omega)]
  · rw [c1 1 (by omega) (by omega) (by omega)]; exact iA.2.2.2.2.1
  · obtain ⟨d, m, t, z1, z2, z3, e1, e2, e3⟩ := iA.2.2.2.2.2.1 j hj
    exact ⟨d, m, t, z1, z2, z3, (c1 _ (by omega) (by omega) (by omega)).trans e1, (c1 _ (by omega) (by omega) (by omega)).trans e2, (c1 _ (by omega) (by omega) (by omega)).trans e3⟩
  · by_cases y : c = b
    · subst y
      have y := iv_cr h hb
      have z := (re_0 hr).2.2
      rw [ep, Int32.lt_iff_toInt_lt, nI_toInt (by omega)] at z
      rw [d5, cA, ti_sub (N := N + 2970) (by omega) (by omega) (by omega) (by omega)]
      omega
    · rw [c1 _ (by omega) (by omega) (by omega)]
      have z := iA.2.2.2.2.2.2.1 c hc
      omega
  · by_cases y : j = L
    · subst y; exact ⟨s, n, q, 0, zL⟩
    · obtain ⟨s, n, q, c, z1, z2, z3, z4, z5, e1, e2, e3, e5⟩ := iA.2.2.2.2.2.2.2.1 j (by omega)
      exact ⟨s, n, q, c, z1, z2, z3, z4, z5, (sl j 1 (by omega) (by omega)).trans e1, (sl j 2 (by omega) (by omega)).trans e2, (sl j 3 (by omega) (by omega)).trans e3, (sl j 4 (by omega) (by omega)).trans e5⟩
  · rw [c1 _ (by omega) (by omega) (by omega)]; exact iA.2.2.2.2.2.2.2.2.1 j hj
  · by_cases u1 : j = L
    · by_cases u2 : k = L
      · omega
      · subst u1
        have v := (hdL x x2).mp y1
        exact absurd ((hdk k _ (by omega)).mp y2) (hno k x (by omega) v.1 v.2)
    · by_cases u2 : k = L
      · subst u2
        have v := (hdL x x2).mp y2
        exact absurd ((hdk j _ (by omega)).mp y1) (hno j x (by omega) v.1 v.2)
      · exact iA.2.2.2.2.2.2.2.2.2.1 j k x (by omega) (by omega) x1 x2 ((hdk j _ (by omega)).mp y1) ((hdk k _ (by omega)).mp y2)
  · by_cases u1 : j = L
    · subst u1
      have v := (hdL x x2).mp y1
      rw [owL, hmD b hb, hmA] at y2
      have y3 := cvD k _ _ hk y2
      have p0 : peF g P (g (89 + 11 * b)) (nI (s + (x - s))) = -1 := fv_none n 0 (re_0 hr).1 (x - s) (by omega) (by omega)
      rw [show s + (x - s) = x by omega] at p0
      refine fi_hit P 0 k (by omega) (by omega) (by omega) ?_ p0
      obtain ⟨a1, a2, a3, a4⟩ := y3
      have o : ∀ i, i < 4 → A (221 + 4 * k + i) = g (221 + 4 * k + i) := fun i hi => oA _ (fun k' hk' => by omega) (fun c hc => by omega)
      rw [o 3 (by omega)] at a1
      rw [show A (221 + 4 * k) = g (221 + 4 * k) from o 0 (by omega), ← (h.1.2.2.2.2.2.2.2.2.1 b hb).1] at a2
      rw [o 1 (by omega)] at a3
      rw [o 1 (by omega), o 2 (by omega)] at a4
      exact ⟨a1, a2, a3, a4⟩
    · rw [owD j (by omega), hmD _ (iA.1.2.2.2.2.2.2.2.2.2 j (by omega)).2] at y2
      exact iA.2.2.2.2.2.2.2.2.2.2 j k x (by omega) hk x1 x2 ((hdk j _ (by omega)).mp y1) (cvD k _ _ hk y2)
  · rw [d5, cA, ep]
theorem iv_a1 (h : iv N T S B L P g) (hT : T ≤ 10000) (hN : N ≤ 500000) : ∀ b s n, b < B → 1 ≤ n → n ≤ 6 → T ≤ s → s + n ≤ T + 48 → reF g L P b s n = 0 → adF g L b s n (89 + 11 * b + 2) = g (89 + 11 * b + 2) - prF g b (nI n) ∧ ∀ x, s ≤ x → x < s + n → hoF (adF g L b s n) (L + 1) (nI x) = nI L := by
  intro b s n hb hn1 hn hs hsn hr
  obtain ⟨a1, a2, a3⟩ := iv_ad h hT hN hb hn1 hn hs hsn hr
  exact ⟨a2, fun x x1 x2 => iv_ho a1 (by omega) (by omega) (by omega) (a3 x x1 x2)⟩
end IV5
