/-! ===== what holds of two rows all along ===== -/
/-- numbers that are bounded: fee, day noise, prices, credits -/
def crB (N S B L : Nat) (w : Nat → Int32) : Prop := (∃ f : Nat, f ≤ 99 ∧ w 1 = nI f) ∧ (∀ k, k < S → ∃ d : Nat, d ≤ 99 ∧ w (9 + 10 * k) = nI d) ∧ (∀ k, k < L → ∃ q : Nat, q ≤ 60 ∧ w (261 + 5 * k + 3) = nI q) ∧ ∀ b, b < B → -(N : Int) ≤ (w (89 + 11 * b + 2)).toInt ∧ (w (89 + 11 * b + 2)).toInt ≤ N
/-- the cells that crB reads -/
def kc (q : Nat) : Prop := q = 1 ∨ (9 ≤ q ∧ q < 89 ∧ (q - 9) % 10 = 0) ∨ (89 ≤ q ∧ q < 221 ∧ (q - 89) % 11 = 2) ∨ (261 ≤ q ∧ q < 411 ∧ (q - 261) % 5 = 3)
/-- the cells of names, packed and in letters -/
def nc (q : Nat) : Prop := (9 ≤ q ∧ q < 89 ∧ 4 ≤ (q - 9) % 10) ∨ (89 ≤ q ∧ q < 221 ∧ 5 ≤ (q - 89) % 11)
def cc (q : Nat) : Prop := (9 ≤ q ∧ q < 89 ∧ (q - 9) % 10 = 4) ∨ (89 ≤ q ∧ q < 221 ∧ (q - 89) % 11 = 5)
theorem ti_bm {x : Int} (h1 : -2147483648 ≤ x) (h2 : x < 2147483648) : x.bmod (2 ^ 32) = x := by
  apply Int.bmod_eq_of_le
  · have : (((2 ^ 32 : Nat) : Int) / 2) = 2147483648 := by decide
    omega
  · have : ((((2 ^ 32 : Nat) : Int) + 1) / 2) = 2147483648 := by decide
    omega
theorem ti_sub {x : Int32} {N f : Nat} (hN : N ≤ 2000000000) (h1 : -(N : Int) ≤ x.toInt) (h2 : x.toInt ≤ N) (hf : f ≤ 1000) : (x - nI f).toInt = x.toInt - f := by
  rw [Int32.toInt_sub, nI_toInt (by omega)]
  exact ti_bm (by omega) (by omega)
theorem ti_add {x : Int32} {N f : Nat} (hN : N ≤ 2000000000) (h1 : -(N : Int) ≤ x.toInt) (h2 : x.toInt ≤ N) (hf : f ≤ 1000) : (x + nI f).toInt = x.toInt + f := by
  rw [Int32.toInt_add, nI_toInt (by omega)]
  exact ti_bm (by omega) (by omega)
/-- what a walk leaves alone, in its range -/
theorem it_kb {f : Nat → (Nat → Int32) → (Nat → Int32)} {i : Nat} : ∀ (r k : Nat) (g : Nat → Int32), (∀ j g, k ≤ j → j < k + r → f j g i = g i) → it f r k g i = g i
  | 0, _, _, _ => rfl
  | r + 1, k, g, h => (it_kb r (k + 1) (f k g) (fun j g a b => h j g (by omega) (by omega))).trans (h k g (Nat.le_refl _) (by omega))
theorem ar_1 {N a b M : Nat} (h : N + (a + b) ≤ M) : N + b ≤ M ∧ N + b + a ≤ M ∧ N + b + a = N + (a + b) := by omega
section RV0
variable {N N' S B L P k b : Nat} {g g' w w' sl : Nat → Int32} {v : Int32}
theorem cr_mono (h : crB N S B L w) (hN : N ≤ N') : crB N' S B L w := ⟨h.1, h.2.1, h.2.2.1, fun b hb => by have := h.2.2.2 b hb; omega⟩
theorem cr_keep (h : crB N S B L w) (hS : S ≤ 8) (hB : B ≤ 12) (hL : L ≤ 30) (e : ∀ q, kc q → w' q = w q) : crB N S B L w' := by
  obtain ⟨⟨f, h1, h2⟩, h3, h4, h5⟩ := h
  refine ⟨⟨f, h1, (e 1 (Or.inl rfl)).trans h2⟩, fun k hk => ?_, fun k hk => ?_, fun b hb => ?_⟩
  · rw [e (9 + 10 * k) (by unfold kc; omega)]; exact h3 k hk
  · rw [e (261 + 5 * k + 3) (by unfold kc; omega)]; exact h4 k hk
  · rw [e (89 + 11 * b + 2) (by unfold kc; omega)]; exact h5 b hb
theorem cr_cr (h : crB N S B L w) (hS : S ≤ 8) (hb : b < 12) (hN : N ≤ N') (h1 : -(N' : Int) ≤ v.toInt) (h2 : v.toInt ≤ N') : crB N' S B L (upd w (89 + 11 * b + 2) v) := by
  obtain ⟨⟨f, a1, a2⟩, h3, h4, h5⟩ := h
  refine ⟨⟨f, a1, by rw [upd_n (by omega)]; exact a2⟩, fun k hk => ?_, fun k hk => ?_, fun j hj => ?_⟩
  · rw [upd_n (by omega)]; exact h3 k hk
  · rw [upd_n (by omega)]; exact h4 k hk
  · by_cases c : j = b
    · subst c; rw [upd_s]; exact ⟨h1, h2⟩
    · rw [upd_n (by omega)]
      have := h5 j hj
      omega
theorem nm_keep (h : nmA S B g w) (hS : S ≤ 8) (hB : B ≤ 12) (e : ∀ q, cc q → g' q = g q) (e' : ∀ q, nc q → w' q = w q) : nmA S B g' w' := by
  refine ⟨fun k hk => ?_, fun k hk => ?_⟩
  · rw [e (9 + 10 * k + 4) (by unfold cc; omega)]
    exact nmR_cg (h.1 k hk) (fun i hi => e' _ (by unfold nc; omega))
  · rw [e (89 + 11 * k + 5) (by unfold cc; omega)]
    exact nmR_cg (h.2 k hk) (fun i hi => e' _ (by unfold nc; omega))
theorem bn_keep (h : bnd B w) (hB : B ≤ 12) (e : ∀ q, 89 ≤ q → q < 221 → ((q - 89) % 11 = 1 ∨ (q - 89) % 11 = 3 ∨ (q - 89) % 11 = 4) → w' q = w q) : bnd B w' := by
  intro b hb
  obtain ⟨a, r, t, z⟩ := h b hb
  refine ⟨a, r, t, ?_⟩
  rw [e (89 + 11 * b + 1) (by omega) (by omega) (by omega), e (89 + 11 * b + 3) (by omega) (by omega) (by omega), e (89 + 11 * b + 4) (by omega) (by omega) (by omega)]
  exact z
theorem cr_fee (h : crB N S B L w) (hb : b < B) (hN : N ≤ 2000000000) : -((N + 99 : Nat) : Int) ≤ (w (89 + 11 * b + 2) - w 1).toInt ∧ (w (89 + 11 * b + 2) - w 1).toInt ≤ ((N + 99 : Nat) : Int) := by
  obtain ⟨⟨f, a1, a2⟩, -, -, h5⟩ := h
  have z := h5 b hb
  rw [a2, ti_sub hN z.1 z.2 (by omega)]
  omega
theorem cr_ch (h : crB N S B L w) (hW : wf w S B L P) (hk : k < L) (hN : N ≤ 2000000000) : crB (N + 99) S B L (chS k w) := by
  have ho := (hW.2.2.2.2.2.2.2.2.2 k hk).2
  have hS := hW.2.1
  have hB := hW.2.2.2.1
  have hL := hW.2.2.2.2.2.1
  unfold chS
  split
  · have f := cr_fee h ho hN
    have z : crB (N + 99) S B L (upd w (89 + 11 * ow w k + 2) (w (89 + 11 * ow w k + 2) - w 1)) := cr_cr h hS (by omega) (by omega) f.1 f.2
    refine cr_keep z hS hB hL (fun q hq => ?_)
    unfold kc at hq
    rw [upd_n (by omega)]
    by_cases c : q = 89 + 11 * ow w k + 2
    · subst c; rw [upd_s, upd_s]
    · rw [upd_n c, upd_n c, upd_n (by omega)]
  · exact cr_mono h (by omega)
theorem cr_en (h : crB N S B L w) (hW : wf w S B L P) : crB N S B L (enS k w) := by
  refine cr_keep h hW.2.1 hW.2.2.2.1 hW.2.2.2.2.2.1 (fun q hq => ?_)
  unfold kc at hq
  exact en_cell (by omega)
theorem cr_clI : ∀ (r k N : Nat) (w : Nat → Int32), k + r ≤ L → wf w S B L P → crB N S B L w → N + 99 * r ≤ 2000000000 → crB (N + 99 * r) S B L (it clS r k w)
  | 0, _, _, _, _, _, h, _ => h
  | r + 1, k, N, w, hr, hW, h, hN => by
    have z := cr_ch (cr_en (k := k) h hW) (wf_en hW (by have := hW.2.2.2.2.2.1; omega)) (show k < L by omega) (by omega)
    have y := cr_clI r (k + 1) (N + 99) (clS k w) (by omega) (wf_cl2 hW (by omega)) z (by omega)
    rw [show N + 99 + 99 * r = N + 99 * (r + 1) by omega] at y
    exact y
theorem sm_it4 {h0 c : Int32} : ∀ (r k : Nat) (x : WN) (q : Nat), (∀ j, k ≤ j → j < k + r → q ≠ 9 + 10 * j + 2 ∧ q ≠ 9 + 10 * j + 3) → (it (smS L P h0 c) r k x).1 q = x.1 q
  | 0, _, _, _, _ => rfl
  | r + 1, k, x, q, h => by
    have z := h k (by omega) (by omega)
    have e : smW L P h0 c k x.1 q = x.1 q := sm_o z.1 z.2
    exact (sm_it4 r (k + 1) (smS L P h0 c k x) q (fun j a b => h j (by omega) (by omega))).trans e
theorem bg_cell {j q : Nat} (h : q ≠ 261 + 5 * j + 4) : bgS j w q = w q := by
  unfold bgS; split
  · exact upd_n h
  · rfl
/-- the model's hour, before its last loop -/
theorem hA_o (nz : Nat → Int32) {q : Nat} (hS : S ≤ 8) (hB : B ≤ 12) (h2 : q ≠ 2) (hb : ∀ j, q ≠ 261 + 5 * j + 4) (hs : ∀ j, j < 8 → q ≠ 9 + 10 * j + 2 ∧ q ≠ 9 + 10 * j + 3) (hf : ∀ j, j < 12 → q ≠ 89 + 11 * j + 1 ∧ q ≠ 89 + 11 * j + 3 ∧ q ≠ 89 + 11 * j + 4) : hmA S B L P w nz q = w q := by
  unfold hmA
  rw [upd_n h2]
  unfold hmF
  rw [fe_o B 0 _ q (fun j _ hj => hf j (by omega))]
  unfold soM
  rw [sm_it4 S 0 _ q (fun j _ hj => hs j (by omega))]
  exact it_kb L 0 w (fun j g _ _ => bg_cell (hb j))
theorem hour_cr (nz : Nat → Int32) (h : crB N S B L w) (hW : wf w S B L P) (hb : bnd B w) (hN : N + 2970 ≤ 2000000000) : crB (N + 2970) S B L (hmS S B L P (w, nz)).1 := by
  have hS := hW.2.1
  have hB := hW.2.2.2.1
  have hL := hW.2.2.2.2.2.1
  obtain ⟨-, -, aW, -⟩ := hour_ag (g := w) nz ⟨fun _ _ => rfl, fun _ _ _ _ => rfl, fun _ _ _ _ => rfl, fun _ _ _ _ => rfl, fun _ _ _ _ => rfl⟩ hW hb
  have z : crB N S B L (hmA S B L P w nz) := cr_keep h hS hB hL (fun q hq => by
    unfold kc at hq
    exact hA_o nz hS hB (by omega) (fun j => by omega) (fun j _ => by omega) (fun j _ => by omega))
  exact cr_mono (cr_clI L 0 N _ (by omega) aW z (by omega)) (by omega)
theorem hours_cr : ∀ (n N : Nat) (x : WN), crB N S B L x.1 → wf x.1 S B L P → bnd B x.1 → N + 2970 * n ≤ 2000000000 → crB (N + 2970 * n) S B L (mpS S B L P n x).1
  | 0, _, _, h, _, _, _ => h
  | n + 1, N, x, h, hW, hb, hN => by
    have e : 2970 * (n + 1) = 2970 * n + 2970 := Nat.mul_succ _ _
    rw [e] at hN ⊢
    obtain ⟨h1, h2, h3⟩ := ar_1 hN
    have z := hour_cr x.2 h hW hb h1
    obtain ⟨qW, qb⟩ := hmS_wf hW hb x.2
    have y := hours_cr n (N + 2970) (hmS S B L P x) z qW qb h2
    rw [h3] at y
    exact y
theorem cl_nc {q : Nat} (h : nc q) : clS k w q = w q := by
  unfold nc at h
  exact (ch_cell (by omega) (by omega) (by omega)).trans (en_cell (by omega))
theorem hour_nc (nz : Nat → Int32) {q : Nat} (hS : S ≤ 8) (hB : B ≤ 12) (h : nc q) : (hmS S B L P (w, nz)).1 q = w q := by
  have e : it clS L 0 (hmA S B L P w nz) q = hmA S B L P w nz q := it_kb L 0 _ (fun j g _ _ => cl_nc h)
  unfold nc at h
  exact e.trans (hA_o nz hS hB (by omega) (fun j => by omega) (fun j _ => by omega) (fun j _ => by omega))
theorem hours_nc {q : Nat} (hS : S ≤ 8) (hB : B ≤ 12) (h : nc q) : ∀ (n : Nat) (x : WN), (mpS S B L P n x).1 q = x.1 q
  | 0, _ => rfl
  | n + 1, x => (hours_nc hS hB h n (hmS S B L P x)).trans (hour_nc x.2 hS hB h)
theorem hour_cc {q : Nat} (hS : S ≤ 8) (hB : B ≤ 12) (h : cc q) : hoS S B L P g q = g q := by
  unfold cc at h
  unfold hoS
  rw [it_kb L 0 _ (fun j g _ _ => ch_cell (by omega) (by omega) (by omega))]
  unfold hoA
  rw [it_kb L 0 _ (fun j g _ _ => en_cell (by omega)), upd_n (by omega)]
  rw [it_kb B 0 _ (fun j g _ _ => by unfold heS; rw [upd_n (by omega), upd_n (by omega), upd_n (by omega)])]
  unfold soF
  rw [it_kb S 0 _ (fun j g _ hj => by
    unfold soS; split
    · rw [upd_n (by omega), upd_n (by omega), upd_n (by omega)]
    · rw [upd_n (by omega), upd_n (by omega)])]
  exact it_kb L 0 g (fun j g _ _ => bg_cell (by omega))
theorem hours_cc {q : Nat} (hS : S ≤ 8) (hB : B ≤ 12) (h : cc q) : ∀ (n : Nat) (g : Nat → Int32), paG S B L P n g q = g q
  | 0, _ => rfl
  | n + 1, g => (hours_cc hS hB h n (hoS S B L P g)).trans (hour_cc hS hB h)
end RV0
