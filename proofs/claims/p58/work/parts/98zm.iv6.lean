/-! ===== an hour ===== -/
section IV6
variable {N N' T T' S B L P : Nat} {g g' w : Nat → Int32}
theorem ag_rf (w : Nat → Int32) : ag S B L P w w := ⟨fun _ _ => rfl, fun _ _ _ _ => rfl, fun _ _ _ _ => rfl, fun _ _ _ _ => rfl, fun _ _ _ _ => rfl⟩
theorem bg_st {k : Nat} : ∀ (r i : Nat) (w : Nat → Int32), it bgS r i w (261 + 5 * k + 4) = w (261 + 5 * k + 4) ∨ (w (261 + 5 * k + 4) = 0 ∧ it bgS r i w (261 + 5 * k + 4) = 1)
  | 0, _, _ => Or.inl rfl
  | r + 1, i, w => by
    show it bgS r (i + 1) (bgS i w) (261 + 5 * k + 4) = _ ∨ (_ ∧ it bgS r (i + 1) (bgS i w) (261 + 5 * k + 4) = 1)
    have ih := bg_st (k := k) r (i + 1) (bgS i w)
    by_cases e : bgS i w (261 + 5 * k + 4) = w (261 + 5 * k + 4)
    · rw [e] at ih; exact ih
    · by_cases x : k = i
      · subst x
        by_cases c : bgP w k
        · have z : bgS k w (261 + 5 * k + 4) = 1 := by unfold bgS; rw [if_pos c, upd_s]
          rw [z] at ih
          rcases ih with y | ⟨y, -⟩
          · exact Or.inr ⟨c.1, y⟩
          · exact absurd y (by decide)
        · exact absurd (by unfold bgS; rw [if_neg c]) e
      · exact absurd (bg_cell (by omega)) e
theorem sm_tot {h0 c : Int32} {s : Nat} : ∀ (r k : Nat) (z : WN), k ≤ s → s < k + r → k + r ≤ S → wf z.1 S B L P → (it (smZ L P h0 c) r k z).1 (9 + 10 * s + 2) = z.1 (9 + 10 * s + 2) + noF z.1 L P s c
  | 0, _, _, _, _, _, _ => by omega
  | r + 1, k, z, h1, h2, h3, hW => by
    have hS := hW.2.1
    have hB := hW.2.2.2.1
    by_cases e : s = k
    · subst e
      show (it (smZ L P h0 c) r (s + 1) (smZ L P h0 c s z)).1 _ = _
      rw [sm_it4 r (s + 1) _ _ (fun j a b => by omega)]
      show smW L P h0 c s z.1 (9 + 10 * s + 2) = _
      unfold smW
      rw [upd_n (by omega), upd_s]
    · refine (sm_tot (h0 := h0) (c := c) r (k + 1) (smZ L P h0 c k z) (by omega) (by omega) (by omega) (wf_sm hW (by omega))).trans ?_
      have e1 : (smZ L P h0 c k z).1 (9 + 10 * s + 2) = z.1 (9 + 10 * s + 2) := sm_o (by omega) (by omega)
      rw [e1]
      congr 1
      exact fx_no (c := c) (w' := smW L P h0 c k z.1) (fx_cell hB hS (fun q h => sm_o (by omega) (by omega)) (fun b _ => sm_o (by omega) (by omega)) (fun s hs => ⟨sm_o (by omega) (by omega), sm_o (by omega) (by omega)⟩)) hW (by omega) (Int32.le_refl _)
/-- the hour up to its last loop: statuses, noise, what later hours read -/
theorem hA_st (nz : Nat → Int32) (hW : wf w S B L P) {k : Nat} : hmA S B L P w nz (261 + 5 * k + 4) = it bgS L 0 w (261 + 5 * k + 4) := by
  have hS := hW.2.1
  have hB := hW.2.2.2.1
  unfold hmA
  rw [upd_n (by omega)]
  unfold hmF
  rw [fe_o B 0 _ _ (fun j _ hj => by omega)]
  unfold soM
  rw [sm_it4 S 0 _ _ (fun j _ hj => by omega)]
theorem hA_tot (nz : Nat → Int32) (hW : wf w S B L P) {s : Nat} (hs : s < S) : hmA S B L P w nz (9 + 10 * s + 2) = w (9 + 10 * s + 2) + noF w L P s (w 2) := by
  have hS := hW.2.1
  have hB := hW.2.2.2.1
  have hL := hW.2.2.2.2.2.1
  have hP := hW.2.2.2.2.2.2.2.1
  have w1W : wf (it bgS L 0 w) S B L P := (ag_bgI (ag_rf w) hW).2
  unfold hmA
  rw [upd_n (by omega)]
  unfold hmF
  rw [fe_o B 0 _ _ (fun j _ hj => by omega)]
  unfold soM
  rw [sm_tot S 0 (it bgS L 0 w, nz) (by omega) (by omega) (by omega) w1W]
  show it bgS L 0 w (9 + 10 * s + 2) + noF (it bgS L 0 w) L P s (it bgS L 0 w 2) = _
  rw [bg_o L 0 w _ (by omega), bg_o L 0 w 2 (by omega)]
  congr 1
  exact fx_no (fx_bgI hP hB hS L 0 w) hW hs (Int32.le_refl _)
theorem hA_2 (nz : Nat → Int32) (hW : wf w S B L P) : hmA S B L P w nz 2 = w 2 + 1 := by
  have hS := hW.2.1
  have g2 : hmF S B L P w nz 2 = w 2 := (fe_o B 0 _ 2 (fun j _ _ => by omega)).trans ((sm_it2 S 0 _).trans (bg_o L 0 w 2 (by omega)))
  unfold hmA
  rw [upd_s, g2]
theorem hA_fx (nz : Nat → Int32) (hW : wf w S B L P) (c : Int32) : fx S B L P c w (hmA S B L P w nz) := by
  have hS := hW.2.1
  have hB := hW.2.2.2.1
  have hL := hW.2.2.2.2.2.1
  have hP := hW.2.2.2.2.2.2.2.1
  have x1 : fx S B L P c w (it bgS L 0 w) := fx_bgI hP hB hS L 0 w
  have x2 : fx S B L P c (it bgS L 0 w) (soM S L P (it bgS L 0 w) nz).1 := fx_smI hB hS S 0 (it bgS L 0 w, nz) (by omega)
  have x3 : fx S B L P c (soM S L P (it bgS L 0 w) nz).1 (hmF S B L P w nz) := fx_feI hB hS B 0 _ (by omega)
  have x4 : fx S B L P c (hmF S B L P w nz) (hmA S B L P w nz) := fx_cell hB hS (fun q h => upd_n (by omega)) (fun b _ => upd_n (by omega)) (fun s hs => ⟨upd_n (by omega), upd_n (by omega)⟩)
  exact ((x1.tr x2).tr x3).tr x4
theorem iv_hA (nz : Nat → Int32) (h : iv N T S B L P g) (hT : T ≤ 10000) : iv N (T + 1) S B L P (hmA S B L P g nz) := by
  have hS := h.1.2.1
  have hB := h.1.2.2.2.1
  have hL := h.1.2.2.2.2.2.1
  have hP := h.1.2.2.2.2.2.2.2.1
  obtain ⟨-, -, aW, ab⟩ := hour_ag (g := g) nz (ag_rf g) h.1 h.2.2.1
  have hX := hA_fx nz h.1 (nI (T + 1))
  have X2 := hA_2 nz h.1
  have Xt := fun s (hs : s < S) => hA_tot nz h.1 hs
  have Xs : ∀ k, hmA S B L P g nz (261 + 5 * k + 4) = g (261 + 5 * k + 4) ∨ (g (261 + 5 * k + 4) = 0 ∧ hmA S B L P g nz (261 + 5 * k + 4) = 1) := fun k => by
    rw [hA_st nz h.1]; exact bg_st L 0 g
  have Xo : ∀ q, q ≠ 2 → (∀ j, q ≠ 261 + 5 * j + 4) → (∀ j, j < 8 → q ≠ 9 + 10 * j + 2 ∧ q ≠ 9 + 10 * j + 3) → (∀ j, j < 12 → q ≠ 89 + 11 * j + 1 ∧ q ≠ 89 + 11 * j + 3 ∧ q ≠ 89 + 11 * j + 4) → hmA S B L P g nz q = g q := fun q a b c d => hA_o nz hS hB a b c d
  obtain ⟨X, hX9⟩ : ∃ X, X = hmA S B L P g nz := ⟨_, rfl⟩
  rw [← hX9] at aW ab hX X2 Xt Xs Xo ⊢
  have oL : ∀ k j, j < 4 → X (261 + 5 * k + j) = g (261 + 5 * k + j) := fun k j hj => Xo _ (by omega) (fun i => by omega) (fun i hi => by omega) (fun i hi => by omega)
  have oC : ∀ b, b < B → X (89 + 11 * b + 2) = g (89 + 11 * b + 2) := fun b hb => Xo _ (by omega) (fun i => by omega) (fun i hi => by omega) (fun i hi => by omega)
  have o9 : ∀ q, q < 9 → q ≠ 2 → X q = g q := fun q hq h2 => Xo _ h2 (fun i => by omega) (fun i hi => by omega) (fun i hi => by omega)
  have hI : ivN X L = ivN g L := co_eq L 0 (fun j _ hj => by
    rcases Xs j with e | ⟨e1, e2⟩
    · rw [e]
    · rw [e1, e2]; decide)
  refine iv_sub h (by omega) aW ?_ ab ?_ (o9 1 (by omega) (by omega)) (fun k hk => ?_) (fun b hb => ?_) (fun k hk => ?_) (fun k hk => ?_) (fun k hk => ?_) (fun b hb => ?_) (fun k x hk x1 x2 z => ?_) (fun k x y hk z => ?_)
  · rw [X2, h.2.1]; exact nI_add T 1
  · rw [← h.2.2.2.1]
    refine ac_r (p := 0) (by rw [o9 8 (by omega) (by omega), o9 7 (by omega) (by omega)]) (su_same (fun j hj => oC j hj)) (su_same (fun j hj => ?_))
    unfold prG
    rw [oL j 3 (by omega)]
    rcases Xs j with e | ⟨e1, e2⟩
    · rw [e]
    · rw [e1, e2]; rfl
  · obtain ⟨d, n, t, z1, z2, z3, e1, e2, e3⟩ := h.2.2.2.2.2.1 k hk
    obtain ⟨m, hm9, em⟩ := iv_no h hk (g 2)
    refine ⟨d, n, t + m, by omega, z2, z3, ((hX.2.2.2.2 k hk).1).trans e1, ((hX.2.2.2.2 k hk).2).trans e2, ?_⟩
    rw [Xt k hk, e3, em, nI_add]
  · rw [hI, oC b hb]
    exact h.2.2.2.2.2.2.1 b hb
  · obtain ⟨s, n, q, c, z1, z2, z3, z4, z5, e1, e2, e3, e5⟩ := h.2.2.2.2.2.2.2.1 k hk
    rcases Xs k with e | ⟨y1, y2⟩
    · exact ⟨s, n, q, c, z1, z2, z3, z4, z5, (oL k 1 (by omega)).trans e1, (oL k 2 (by omega)).trans e2, (oL k 3 (by omega)).trans e3, e.trans e5⟩
    · exact ⟨s, n, q, 1, z1, z2, z3, z4, by omega, (oL k 1 (by omega)).trans e1, (oL k 2 (by omega)).trans e2, (oL k 3 (by omega)).trans e3, y2⟩
  · rw [hX.2.2.2.1 _ (by omega) (by omega)]
    exact h.2.2.2.2.2.2.2.2.1 k hk
  · exact congrArg Int32.toNatClampNeg (hX.2.1 k hk)
  · exact congrArg Int32.toNatClampNeg (hX.2.2.1 b hb)
  · exact (hX.1 k hk (nI x) ((nI_leI (by omega) (by omega)).mpr x1)).mp z
  · obtain ⟨a1, a2, a3, a4⟩ := z
    have o : ∀ i, i < 4 → X (221 + 4 * k + i) = g (221 + 4 * k + i) := fun i hi => hX.2.2.2.1 _ (by omega) (by omega)
    rw [o 3 (by omega)] at a1
    rw [show X (221 + 4 * k) = g (221 + 4 * k) from o 0 (by omega)] at a2
    rw [o 1 (by omega)] at a3
    rw [o 1 (by omega), o 2 (by omega)] at a4
    exact ⟨a1, a2, a3, a4⟩
theorem iv_en (h : iv N T S B L P g) {k : Nat} (hk : k < L) (hB1 : 1 ≤ B) : iv N T S B L P (enS k g) := by
  by_cases c : enP g k
  · have hB := h.1.2.2.2.1
    have hL := h.1.2.2.2.2.2.1
    have X : enS k g = upd g (261 + 5 * k + 4) 2 := if_pos c
    have c4 : enS k g (261 + 5 * k + 4) = 2 := by rw [X, upd_s]
    have c1 : ∀ q, q ≠ 261 + 5 * k + 4 → enS k g q = g q := fun q a => en_cell a
    have hI : ivN (enS k g) L = ivN g L := co_eq L 0 (fun j _ hj => by
      by_cases x : j = k
      · subst x; rw [c4, c.1]; decide
      · rw [c1 _ (by omega)])
    refine iv_c1 h (k0 := k) (b0 := 0) (by omega) (by omega) (wf_en h.1 (by omega)) (fun i a _ _ _ => c1 i a) (fun _ => ⟨2, by omega, c4, by omega⟩) (fun hb => ?_) (Nat.le_refl _) (Nat.le_of_eq hI.symm) ?_
    · rw [hI, c1 _ (by omega)]; exact h.2.2.2.2.2.2.1 0 hb
    · rw [← h.2.2.2.1]
      refine ac_r (p := 0) (by rw [c1 8 (by omega), c1 7 (by omega)]) (su_same (fun j hj => c1 _ (by omega))) (su_same (fun j hj => ?_))
      unfold prG
      by_cases x : j = k
      · subst x
        rw [c4, c.1, if_neg (by decide), if_neg (by decide), c1 _ (by omega)]
      · rw [c1 _ (by omega), c1 _ (by omega)]
  · have X : enS k g = g := if_neg c
    rw [X]; exact h
theorem iv_ch (h : iv N T S B L P g) {k : Nat} (hk : k < L) (hN : N ≤ 1000000) : iv N T S B L P (chS k g) := by
  by_cases c : laP g k
  · have hB := h.1.2.2.2.1
    have hL := h.1.2.2.2.2.2.1
    have ho := (h.1.2.2.2.2.2.2.2.2.2 k hk).2
    obtain ⟨f, hf, ef⟩ := h.2.2.2.2.1
    have X : chS k g = upd (upd (upd g (261 + 5 * k + 4) 4) (89 + 11 * ow g k + 2) (g (89 + 11 * ow g k + 2) - g 1)) 8 (g 8 + g 1) := if_pos c
    have c1 : ∀ q, q ≠ 261 + 5 * k + 4 → q ≠ 89 + 11 * ow g k + 2 → q ≠ 8 → chS k g q = g q := fun q a b d => ch_cell a b d
    have c4 : chS k g (261 + 5 * k + 4) = 4 := by rw [X, upd_n (by omega), upd_n (by omega), upd_s]
    have cc : chS k g (89 + 11 * ow g k + 2) = g (89 + 11 * ow g k + 2) - nI f := by rw [X, upd_n (by omega), upd_s, ef]
    have c8 : chS k g 8 = g 8 + nI f := by rw [X, upd_s, ef]
    have hI : ivN (chS k g) L = ivN g L + 1 := co_one L 0 (m := k) (by omega) (by omega) (Or.inr c4) (by rw [c.1]; decide) (fun j _ hj hjk => by rw [c1 _ (by omega) (by omega) (by omega)])
    refine iv_c1 h (k0 := k) (b0 := ow g k) (by omega) (by omega) (wf_ch h.1 hk) (fun i a b _ d => c1 i a b d) (fun _ => ⟨4, by omega, c4, by omega⟩) (fun hb => ?_) (Nat.le_refl _) (by omega) ?_
    · have y := iv_cr h ho
      have z := h.2.2.2.2.2.2.1 _ ho
      rw [hI, cc, ti_sub (N := N + 2970) (by omega) (by omega) (by omega) (by omega)]
      omega
    · rw [← h.2.2.2.1]
      show suP (chS k g) L 0 (suF (crG (chS k g)) B 0 (chS k g 8 - chS k g 7)) = suP g L 0 (suF (crG g) B 0 (g 8 - g 7))
      have cS : ∀ x, suF (crG g) B 0 x = suF (crG (chS k g)) B 0 x + nI f := fun x => suF_one B 0 x (by omega) (by omega : ow g k < 0 + B) (by show g (89 + 11 * ow g k + 2) = chS k g (89 + 11 * ow g k + 2) + nI f; rw [cc, Int32.sub_add_cancel]) (fun i _ hi hib => (c1 _ (by omega) (by omega) (by omega)).symm)
      rw [suP_F, suP_F, cS, c8, c1 7 (by omega) (by omega) (by omega), i3_b, suF_add]
      refine suF_eq L 0 _ (fun j _ hj => ?_)
      unfold prG
      by_cases x : j = k
      · subst x
        rw [c4, c.1, if_neg (by decide), if_neg (by decide), c1 _ (by omega) (by omega) (by omega)]
      · rw [c1 _ (by omega) (by omega) (by omega), c1 _ (by omega) (by omega) (by omega)]
  · have X : chS k g = g := if_neg c
    rw [X]; exact h
theorem iv_clI (hN : N ≤ 1000000) (hB1 : 1 ≤ B) : ∀ (r k : Nat) (g : Nat → Int32), k + r ≤ L → iv N T S B L P g → iv N T S B L P (it clS r k g)
  | 0, _, _, _, h => h
  | r + 1, k, g, hk, h => iv_clI hN hB1 r (k + 1) (clS k g) (by omega) (iv_ch (iv_en h (by omega) hB1) (by omega) hN)
/-- one hour of the bureau -/
theorem iv_ho1 (h : iv N T S B L P g) (hT : T ≤ 10000) (hN : N ≤ 1000000) (hB1 : 1 ≤ B) : iv N (T + 1) S B L P (hoS S B L P g) ∧ ∀ s, s < S → hoS S B L P g (9 + 10 * s + 2) = g (9 + 10 * s + 2) + noF g L P s (g 2) := by
  obtain ⟨a1, -, aW, -⟩ := hour_ag (g := g) (fun _ => 0) (ag_rf g) h.1 h.2.2.1
  have y := iv_clI (L := L) (P := P) hN hB1 L 0 _ (by omega) (iv_hA (fun _ => 0) h hT)
  refine ⟨iv_ag a1 y, fun s hs => ?_⟩
  have hS := h.1.2.1
  rw [a1.2.1 s 2 hs (by decide), ← hA_tot (fun _ => 0) h.1 hs]
  show it clS L 0 (hmA S B L P g (fun _ => 0)) (9 + 10 * s + 2) = _
  exact it_kb L 0 _ (fun j w _ _ => (ch_cell (by omega) (by omega) (by omega)).trans (en_cell (by omega)))
theorem iv_pa (hN : N ≤ 1000000) (hB1 : 1 ≤ B) : ∀ (n : Nat) (T : Nat) (g : Nat → Int32), iv N T S B L P g → T + n ≤ 10000 → iv N (T + n) S B L P (paG S B L P n g)
  | 0, _, _, h, _ => h
  | n + 1, T, g, h, hT => by
    have z := iv_pa hN hB1 n (T + 1) (hoS S B L P g) (iv_ho1 h (by omega) hN hB1).1 (by omega)
    rw [show T + 1 + n = T + (n + 1) by omega] at z
    exact z
theorem iv_tot (hN : N ≤ 1000000) (hB1 : 1 ≤ B) {s : Nat} (hs : s < S) : ∀ (n : Nat) (T : Nat) (g : Nat → Int32), iv N T S B L P g → T + n ≤ 10000 → ¬ paG S B L P n g (9 + 10 * s + 2) < g (9 + 10 * s + 2)
  | 0, _, _, _, _ => Int32.lt_irrefl
  | n + 1, T, g, h, hT => by
    obtain ⟨y, z⟩ := iv_ho1 h (by omega) hN hB1
    have ih := iv_tot hN hB1 hs n (T + 1) (hoS S B L P g) y (by omega)
    obtain ⟨d, m, t, t9, -, -, -, -, e3⟩ := h.2.2.2.2.2.1 s hs
    obtain ⟨q, hq, eq9⟩ := iv_no h hs (g 2)
    have e5 := z s hs
    rw [e3, eq9, nI_add] at e5
    intro x
    refine ih (Int32.lt_of_lt_of_le x ?_)
    rw [e5, e3]
    exact (nI_leI (by omega) (by omega)).mpr (by omega)
theorem iv_a10 (h : iv N T S B L P g) (hT : T + 12 ≤ 10000) (hN : N ≤ 1000000) (hB1 : 1 ≤ B) : ∀ n s, 1 ≤ n → n ≤ 12 → s < S → ¬ paG S B L P n g (9 + 10 * s + 2) < g (9 + 10 * s + 2) + noF g L P s (g 2) := by
  intro n s hn1 hn hs
  obtain ⟨m, rfl⟩ : ∃ m, n = m + 1 := ⟨n - 1, by omega⟩
  obtain ⟨y, z⟩ := iv_ho1 h (by omega) hN hB1
  rw [← z s hs]
  exact iv_tot hN hB1 hs m (T + 1) _ y (by omega)
theorem iv_a8 (h : iv N T S B L P g) (hT : T ≤ 9900) : ∀ n b, 1 ≤ n → n ≤ 12 → b < B → paG S B L P n g (89 + 11 * b + 1) = fcF g L P b n := by
  intro n b hn1 hn hb
  obtain ⟨z, -, -⟩ := hours_ag n g (g, fun _ => 0) (ag_rf g) h.1 h.2.2.1
  rw [z.2.2.1 b 1 hb (by decide)]
  exact (fc_eq (fun _ => 0) (ag_rf g) h.1 h.2.2.1 h.2.1 (by omega) hb (by omega)).symm
/-- how many loans are overdue -/
def iv4 (g : Nat → Int32) (L : Nat) : Nat := co (fun k => g (261 + 5 * k + 4) = nI 4) L 0
theorem en_4 {k : Nat} : iv4 (enS k g) L = iv4 g L := co_eq L 0 (fun j _ hj => by
  by_cases x : j = k
  · subst x
    by_cases c : enP g j
    · have X : enS j g (261 + 5 * j + 4) = 2 := by unfold enS; rw [if_pos c, upd_s]
      rw [X, c.1]; decide
    · have X : enS j g = g := if_neg c
      rw [X]
  · rw [en_cell (by omega)])
theorem ch_4 (hW : wf g S B L P) {k : Nat} (hk : k < L) : iv4 (chS k g) L = iv4 g L + (if laP g k then 1 else 0) := by
  have hB := hW.2.2.2.1
  have ho := (hW.2.2.2.2.2.2.2.2.2 k hk).2
  by_cases c : laP g k
  · rw [if_pos c]
    have c4 : chS k g (261 + 5 * k + 4) = nI 4 := by unfold chS; rw [if_pos c, upd_n (by omega), upd_n (by omega), upd_s]; rfl
    exact co_one L 0 (m := k) (by omega) (by omega) c4 (by rw [c.1]; decide) (fun j _ hj hjk => by rw [ch_cell (by omega) (by omega) (by omega)])
  · rw [if_neg c]
    have X : chS k g = g := if_neg c
    rw [X]; rfl
theorem cl_4 : ∀ (r k : Nat) (g : Nat → Int32), k + r ≤ L → wf g S B L P → iv4 (it clS r k g) L = iv4 g L + clN r k g
  | 0, _, _, _, _ => rfl
  | r + 1, k, g, hk, hW => by
    have hL := hW.2.2.2.2.2.1
    have eW := wf_en (k := k) hW (by omega)
    refine (cl_4 r (k + 1) (clS k g) (by omega) (wf_ch eW (by omega))).trans ?_
    show iv4 (chS k (enS k g)) L + clN r (k + 1) (clS k g) = iv4 g L + ((if laP (enS k g) k then 1 else 0) + clN r (k + 1) (clS k g))
    rw [ch_4 eW (by omega), en_4]
    omega
theorem pa_4 (hB1 : 1 ≤ B) (hN : N ≤ 1000000) : ∀ (n T : Nat) (g : Nat → Int32), iv N T S B L P g → T + n ≤ 10000 → iv4 (paG S B L P n g) L = iv4 g L + paN S B L P n g
  | 0, _, _, _, _ => rfl
  | n + 1, T, g, h, hT => by
    obtain ⟨a1, a2, aW, -⟩ := hour_ag (g := g) (fun _ => 0) (ag_rf g) h.1 h.2.2.1
    refine (pa_4 hB1 hN n (T + 1) (hoS S B L P g) (iv_ho1 h (by omega) hN hB1).1 (by omega)).trans ?_
    show iv4 (hoS S B L P g) L + paN S B L P n (hoS S B L P g) = iv4 g L + (chN L 0 (hoA S B L P g) + paN S B L P n (hoS S B L P g))
    have e1 : iv4 (hoS S B L P g) L = iv4 (hmS S B L P (g, fun _ => 0)).1 L := co_eq L 0 (fun j _ hj => by rw [a1.2.2.2.2 j 4 (by omega) (by decide)])
    have e2 : iv4 (hmS S B L P (g, fun _ => 0)).1 L = iv4 (hmA S B L P g (fun _ => 0)) L + clN L 0 (hmA S B L P g (fun _ => 0)) := cl_4 L 0 _ (by omega) aW
    have e3 : iv4 (hmA S B L P g (fun _ => 0)) L = iv4 g L := co_eq L 0 (fun j _ hj => by
      rw [hA_st _ h.1]
      rcases bg_st (k := j) L 0 g with e | ⟨y1, y2⟩
      · rw [e]
      · rw [y1, y2]; decide)
    rw [e1, e2, e3, a2]
    omega
end IV6
