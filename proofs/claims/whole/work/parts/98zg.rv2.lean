/-! ===== each change keeps what holds of two rows ===== -/
def RV (N S B L P : Nat) (g w : Nat → Int32) : Prop := ag S B L P g w ∧ bnd B w ∧ nmA S B g w ∧ crB N S B L w
section RV1
variable {N N' S B L P T k b : Nat} {g g' w w' sl nz X Y : Nat → Int32} {v : Int32}
theorem rv_mono (h : RV N S B L P g w) (hN : N ≤ N') : RV N' S B L P g w := ⟨h.1, h.2.1, h.2.2.1, cr_mono h.2.2.2 hN⟩
theorem rv_hours (h : RV N S B L P g w) (hW : wf w S B L P) (n : Nat) (hN : N + 2970 * n ≤ 2000000000) : RV (N + 2970 * n) S B L P (paG S B L P n g) (mpS S B L P n (w, nz)).1 := by
  obtain ⟨h1, h2, h3, h4⟩ := h
  have hS := hW.2.1
  have hB := hW.2.2.2.1
  obtain ⟨a1, -, a3⟩ := hours_ag n g (w, nz) h1 hW h2
  exact ⟨a1, a3, nm_keep h3 hS hB (fun q hq => hours_cc hS hB hq n g) (fun q hq => hours_nc hS hB hq n (w, nz)), hours_cr n N (w, nz) h4 hW h2 hN⟩
theorem rv_ws (h : RV N S B L P g w) (hW : wf w S B L P) : RV N S B L P (wsG k g) (wsG k w) := by
  obtain ⟨h1, h2, h3, h4⟩ := h
  have hS := hW.2.1
  have hB := hW.2.2.2.1
  have hL := hW.2.2.2.2.2.1
  exact ⟨ag_ws h1 k, bn_keep h2 hB (fun q _ _ _ => upd_n (by omega)), nm_keep h3 hS hB (fun q hq => upd_n (by unfold cc at hq; omega)) (fun q hq => upd_n (by unfold nc at hq; omega)), cr_keep h4 hS hB hL (fun q hq => upd_n (by unfold kc at hq; omega))⟩
theorem rv_rv (h : RV N S B L P g w) (hW : wf w S B L P) (hk : k < 10) : RV N S B L P (rvG k g) (rvG k w) := by
  obtain ⟨h1, h2, h3, h4⟩ := h
  have hS := hW.2.1
  have hB := hW.2.2.2.1
  have hL := hW.2.2.2.2.2.1
  exact ⟨ag_rv h1 k, bn_keep h2 hB (fun q _ _ _ => upd_n (by omega)), nm_keep h3 hS hB (fun q hq => upd_n (by unfold cc at hq; omega)) (fun q hq => upd_n (by unfold nc at hq; omega)), cr_keep h4 hS hB hL (fun q hq => upd_n (by unfold kc at hq; omega))⟩
theorem rv_ap {st s n : Int32} (h : RV N S B L P g w) (hW : wf w S B L P) (hP : P < 10) : RV N S B L (P + 1) (apF g P st s n) (apF w P st s n) := by
  obtain ⟨h1, h2, h3, h4⟩ := h
  have hS := hW.2.1
  have hB := hW.2.2.2.1
  have hL := hW.2.2.2.2.2.1
  have o : ∀ (x : Nat → Int32) (q : Nat), q ≠ 5 → (q < 221 ∨ 261 ≤ q) → apF x P st s n q = x q := fun x q h5 hq => by
    unfold apF
    rw [upd_n h5, upd_n (by omega), upd_n (by omega), upd_n (by omega), upd_n (by omega)]
  exact ⟨ag_ap h1, bn_keep h2 hB (fun q _ _ _ => o w q (by omega) (by omega)), nm_keep h3 hS hB (fun q hq => o g q (by unfold cc at hq; omega) (by unfold cc at hq; omega)) (fun q hq => o w q (by unfold nc at hq; omega) (by unfold nc at hq; omega)), cr_keep h4 hS hB hL (fun q hq => o w q (by unfold kc at hq; omega) (by unfold kc at hq; omega))⟩
theorem cr_ca (h : crB N S B L w) (hW : wf w S B L P) (hk : k < L) (hN : N ≤ 2000000000) : crB (N + 60) S B L (caS k w) := by
  have ho := (hW.2.2.2.2.2.2.2.2.2 k hk).2
  have hS := hW.2.1
  have hB := hW.2.2.2.1
  have hL := hW.2.2.2.2.2.1
  obtain ⟨q, q1, q2⟩ := h.2.2.1 k hk
  have f := h.2.2.2 _ ho
  have e := ti_add hN f.1 f.2 (show q ≤ 1000 by omega)
  have z : crB (N + 60) S B L (upd w (89 + 11 * ow w k + 2) (w (89 + 11 * ow w k + 2) + w (261 + 5 * k + 3))) := cr_cr h hS (by omega) (by omega) (by rw [q2, e]; omega) (by rw [q2, e]; omega)
  refine cr_keep z hS hB hL (fun q hq => ?_)
  unfold kc at hq
  unfold caS
  by_cases c : q = 89 + 11 * ow w k + 2
  · subst c; rw [upd_s, upd_s]
  · rw [upd_n c, upd_n c, upd_n (by omega)]
theorem ca_cell {j q : Nat} (h : q ≠ 261 + 5 * j + 4) (h2 : q ≠ 89 + 11 * ow w j + 2) : caS j w q = w q := by
  unfold caS
  rw [upd_n h2, upd_n h]
theorem al_cell {j q : Nat} {f n : Int32} (h : q ≠ 261 + 5 * j + 4) (h2 : q ≠ 89 + 11 * ow w j + 2) : alS f n j w q = w q := by
  unfold alS; split
  · exact ca_cell h h2
  · rfl
theorem rv_ca (h : RV N S B L P g w) (hW : wf w S B L P) (hk : k < L) (hN : N ≤ 2000000000) : RV (N + 60) S B L P (caS k g) (caS k w) := by
  obtain ⟨h1, h2, h3, h4⟩ := h
  have hS := hW.2.1
  have hB := hW.2.2.2.1
  exact ⟨ag_ca h1 hW hk, bn_keep h2 hB (fun q _ _ _ => ca_cell (by omega) (by omega)), nm_keep h3 hS hB (fun q hq => ca_cell (by unfold cc at hq; omega) (by unfold cc at hq; omega)) (fun q hq => ca_cell (by unfold nc at hq; omega) (by unfold nc at hq; omega)), cr_ca h4 hW hk hN⟩
theorem rv_al {f n : Int32} (h : RV N S B L P g w) (hW : wf w S B L P) (hk : k < L) (hN : N ≤ 2000000000) : RV (N + 60) S B L P (alS f n k g) (alS f n k w) := by
  have e := ag_hd h.1 hk f n
  unfold alS
  by_cases c : hdK w k f n
  · rw [if_pos c, if_pos (e.mpr c)]; exact rv_ca h hW hk hN
  · rw [if_neg c, if_neg (fun q => c (e.mp q))]; exact rv_mono h (by omega)
theorem rv_alI {f n : Int32} : ∀ (r k N : Nat) (g w : Nat → Int32), k + r ≤ L → wf w S B L P → RV N S B L P g w → N + 60 * r ≤ 2000000000 → RV (N + 60 * r) S B L P (it (alS f n) r k g) (it (alS f n) r k w) ∧ wf (it (alS f n) r k w) S B L P
  | 0, _, _, _, _, _, hW, h, _ => ⟨h, hW⟩
  | r + 1, k, N, g, w, hr, hW, h, hN => by
    have z := rv_al (f := f) (n := n) h hW (show k < L by omega) (by omega)
    have y := rv_alI (f := f) (n := n) r (k + 1) (N + 60) (alS f n k g) (alS f n k w) (by omega) (wf_al hW (by omega)) z (by omega)
    rw [show N + 60 + 60 * r = N + 60 * (r + 1) by omega] at y
    exact y
theorem pr_b {A : Nat → Int32} (h : crB N S B L A) (hW : wf A S B L P) (hb : b < B) {n : Nat} (hn : n ≤ 6) : ∃ q : Nat, q ≤ 60 ∧ prF A b (nI n) = nI q := by
  obtain ⟨d, d1, d2⟩ := h.2.1 _ (hW.2.2.2.2.2.2.2.2.1 b hb).2
  refine ⟨n * (d / 10 + 1), ?_, ?_⟩
  · have : d / 10 + 1 ≤ 10 := by omega
    exact Nat.mul_le_mul hn this
  · unfold prF
    rw [d2]
    exact nx_mul rfl (nx_add (nx_div rfl (nx_c 10) (by omega) (by omega) (by omega)) (show (1 : Int32) = nI 1 from rfl))
theorem rv_ad {s n : Nat} (h : RV N S B L P g w) (hW : wf w S B L P) (hb : b < B) (hL : L < 30) (hn : n ≤ 6) (hN : N + 2000 ≤ 2000000000) : RV (N + 1860) S B (L + 1) P (adF g L b s n) (adF w L b s n) := by
  have hS := hW.2.1
  have hB := hW.2.2.2.1
  obtain ⟨⟨A1, A2, A3, A4⟩, AW⟩ := rv_alI (f := nI s) (n := nI n) L 0 N g w (by omega) hW h (by omega)
  have hag := ag_ad h.1 hW hb s n
  have oo : ∀ (x : Nat → Int32) (q : Nat), q ≠ 6 → q < 261 → q ≠ 89 + 11 * b + 2 → adF x L b s n q = it (alS (nI s) (nI n)) L 0 x q := fun x q h1 h2 h3 => by
    unfold adF adA
    rw [upd_n h1, upd_n h3, upd_n (by omega), upd_n (by omega), upd_n (by omega), upd_n (by omega), upd_n (by omega)]
  obtain ⟨p, p1, p2⟩ := pr_b A4 AW hb hn
  have hw : adF w L b s n = upd (upd (upd (upd (upd (upd (upd (it (alS (nI s) (nI n)) L 0 w) (261 + 5 * L) (nI b)) (261 + 5 * L + 1) (nI s)) (261 + 5 * L + 2) (nI n)) (261 + 5 * L + 3) (nI p)) (261 + 5 * L + 4) 0) (89 + 11 * b + 2) (it (alS (nI s) (nI n)) L 0 w (89 + 11 * b + 2) - nI p)) 6 (it (alS (nI s) (nI n)) L 0 w 6 + 1) := by
    rw [← p2]; rfl
  have f := A4.2.2.2 b hb
  have e := ti_sub (f := p) (show N + 60 * L ≤ 2000000000 by omega) f.1 f.2 (by omega)
  have z : crB (N + 1860) S B L (upd (it (alS (nI s) (nI n)) L 0 w) (89 + 11 * b + 2) (it (alS (nI s) (nI n)) L 0 w (89 + 11 * b + 2) - nI p)) := cr_cr A4 hS (by omega) (by omega) (by rw [e]; omega) (by rw [e]; omega)
  refine ⟨hag, bn_keep A2 hB (fun q _ _ _ => oo w q (by omega) (by omega) (by omega)), nm_keep A3 hS hB (fun q hq => oo g q (by unfold cc at hq; omega) (by unfold cc at hq; omega) (by unfold cc at hq; omega)) (fun q hq => oo w q (by unfold nc at hq; omega) (by unfold nc at hq; omega) (by unfold nc at hq; omega)), ?_⟩
  rw [hw]
  obtain ⟨⟨f9, z1, z2⟩, z3, z4, z5⟩ := z
  have o2 : ∀ q, q ≠ 6 → q < 261 + 5 * L → upd (upd (upd (upd (upd (upd (upd (it (alS (nI s) (nI n)) L 0 w) (261 + 5 * L) (nI b)) (261 + 5 * L + 1) (nI s)) (261 + 5 * L + 2) (nI n)) (261 + 5 * L + 3) (nI p)) (261 + 5 * L + 4) 0) (89 + 11 * b + 2) (it (alS (nI s) (nI n)) L 0 w (89 + 11 * b + 2) - nI p)) 6 (it (alS (nI s) (nI n)) L 0 w 6 + 1) q = upd (it (alS (nI s) (nI n)) L 0 w) (89 + 11 * b + 2) (it (alS (nI s) (nI n)) L 0 w (89 + 11 * b + 2) - nI p) q := fun q h6 hq => by
    rw [upd_n h6]
    by_cases c : q = 89 + 11 * b + 2
    · rw [c, upd_s, upd_s]
    · rw [upd_n c, upd_n c, upd_n (by omega), upd_n (by omega), upd_n (by omega), upd_n (by omega), upd_n (by omega)]
  refine ⟨⟨f9, z1, (o2 1 (by omega) (by omega)).trans z2⟩, fun k hk => ?_, fun k hk => ?_, fun j hj => ?_⟩
  · rw [o2 _ (by omega) (by omega)]; exact z3 k hk
  · by_cases c : k = L
    · subst c
      exact ⟨p, p1, by rw [upd_n (by omega), upd_n (by omega), upd_n (by omega), upd_s]⟩
    · rw [o2 _ (by omega) (by omega)]; exact z4 k (by omega)
  · rw [o2 _ (by omega) (by omega)]; exact z5 j hj
theorem rv_py {n : Nat} (h : RV N S B L P g w) (hW : wf w S B L P) (hb : b < B) (hn : n ≤ 999) (hN : N ≤ 2000000000) : RV (N + 999) S B L P (pyG b (nI n) g) (pyG b (nI n) w) := by
  obtain ⟨h1, h2, h3, h4⟩ := h
  have hS := hW.2.1
  have hB := hW.2.2.2.1
  have hL := hW.2.2.2.2.2.1
  have o : ∀ (x : Nat → Int32) (q : Nat), q ≠ 7 → q ≠ 89 + 11 * b + 2 → pyG b (nI n) x q = x q := fun x q h7 hq => by
    unfold pyG
    rw [upd_n h7, upd_n hq]
  have f := h4.2.2.2 b hb
  have e := ti_add hN f.1 f.2 (show n ≤ 1000 by omega)
  have z : crB (N + 999) S B L (upd w (89 + 11 * b + 2) (w (89 + 11 * b + 2) + nI n)) := cr_cr h4 hS (by omega) (by omega) (by rw [e]; omega) (by rw [e]; omega)
  exact ⟨ag_py h1 hb (nI n), bn_keep h2 hB (fun q _ _ _ => o w q (by omega) (by omega)), nm_keep h3 hS hB (fun q hq => o g q (by unfold cc at hq; omega) (by unfold cc at hq; omega)) (fun q hq => o w q (by unfold nc at hq; omega) (by unfold nc at hq; omega)), cr_keep z hS hB hL (fun q hq => by unfold kc at hq; unfold pyG; exact upd_n (by omega))⟩
theorem ag_o {lo hi : Nat} (h : ag S B L P g w) (hX : ∀ q, q < lo ∨ hi ≤ q → X q = g q) (hY : ∀ q, q < lo ∨ hi ≤ q → Y q = w q) (h9 : 9 ≤ lo) (hS : S ≤ 8) (c : (9 + 10 * S ≤ lo ∧ hi ≤ 89) ∨ (89 + 11 * B ≤ lo ∧ hi ≤ 221)) : ag S B L P X Y := by
  have o : ∀ q, q < lo ∨ hi ≤ q → g q = w q → X q = Y q := fun q hq e => (hX q hq).trans (e.trans (hY q hq).symm)
  exact ⟨fun i hi => o _ (by omega) (h.1 i hi), fun k j hk hj => o _ (by omega) (h.2.1 k j hk hj), fun k j hk hj => o _ (by omega) (h.2.2.1 k j hk hj), fun k j hk hj => o _ (by omega) (h.2.2.2.1 k j hk hj), fun k j hk hj => o _ (by omega) (h.2.2.2.2 k j hk hj)⟩
theorem ag_S (h : ag S B L P g w) (e : ∀ j, j < 4 → g (9 + 10 * S + j) = w (9 + 10 * S + j)) : ag (S + 1) B L P g w :=
  ⟨h.1, fun k j hk hj => by
    by_cases c : k = S
    · subst c; exact e j hj
    · exact h.2.1 k j (by omega) hj, h.2.2⟩
theorem ag_B (h : ag S B L P g w) (e : ∀ j, j < 5 → g (89 + 11 * B + j) = w (89 + 11 * B + j)) : ag S (B + 1) L P g w :=
  ⟨h.1, h.2.1, fun k j hk hj => by
    by_cases c : k = B
    · subst c; exact e j hj
    · exact h.2.2.1 k j (by omega) hj, h.2.2.2⟩
theorem rv_bd {d n : Int32} {dn : Nat} (h : RV N S B L P g w) (hW : wf w S B L P) (hS : S < 8) (hv : nmR v sl) (hd : d = nI dn) (hdn : dn ≤ 99) : RV N (S + 1) B L P (asF g S v d n) (bdW w sl S d n) := by
  obtain ⟨h1, h2, h3, h4⟩ := h
  have hB := hW.2.2.2.1
  have hL := hW.2.2.2.2.2.1
  have oX : ∀ q, q ≠ 3 → (q < 9 + 10 * S ∨ 9 + 10 * S + 10 ≤ q) → asF g S v d n q = g q := fun q h3 hq => by
    unfold asF
    rw [upd_n h3, upd_n (by omega), upd_n (by omega), upd_n (by omega), upd_n (by omega), upd_n (by omega)]
  have oA : ∀ q, (q < 9 + 10 * S ∨ 9 + 10 * S + 10 ≤ q) → bdA w sl S d n q = w q := fun q hq => by
    unfold bdA
    rw [cq_n (by omega), upd_n (by omega), upd_n (by omega), upd_n (by omega), upd_n (by omega)]
  have oY : ∀ q, q ≠ 3 → (q < 9 + 10 * S ∨ 9 + 10 * S + 10 ≤ q) → bdW w sl S d n q = w q := fun q h3 hq => by
    unfold bdW
    rw [upd_n h3, oA q hq]
  refine ⟨?_, bn_keep h2 hB (fun q _ _ _ => oY q (by omega) (by omega)), ⟨fun k hk => ?_, fun k hk => ?_⟩, ?_⟩
  · unfold asF bdW
    rw [oA 3 (by omega), ← ag_n h1 (by decide : 3 < 9)]
    refine ag_upd (ag_S (ag_o (lo := 9 + 10 * S) (hi := 9 + 10 * S + 10) h1 (fun q hq => ?_) oA (by omega) (by omega) (Or.inl (by omega))) (fun j hj => ?_)) rfl
    · rw [upd_n (by omega), upd_n (by omega), upd_n (by omega), upd_n (by omega), upd_n (by omega)]
    · unfold bdA
      rw [cq_n (by omega)]
      rcases (show j = 0 ∨ j = 1 ∨ j = 2 ∨ j = 3 by omega) with rfl | rfl | rfl | rfl <;> simp [upd]
  · by_cases c : k = S
    · subst c
      have e : asF g k v d n (9 + 10 * k + 4) = v := by
        unfold asF
        rw [upd_n (by omega), upd_n (by omega), upd_n (by omega), upd_n (by omega), upd_n (by omega), upd_s]
      rw [e]
      refine nmR_cg hv (fun i hi => ?_)
      unfold bdW bdA
      rw [upd_n (by omega), cq_i hi]
    · rw [oX _ (by omega) (by omega)]
      exact nmR_cg (h3.1 k (by omega)) (fun i hi => oY _ (by omega) (by omega))
  · rw [oX _ (by omega) (by omega)]
    exact nmR_cg (h3.2 k hk) (fun i hi => oY _ (by omega) (by omega))
  · obtain ⟨⟨f, f1, f2⟩, a3, a4, a5⟩ := h4
    refine ⟨⟨f, f1, (oY 1 (by omega) (by omega)).trans f2⟩, fun k hk => ?_, fun k hk => ?_, fun j hj => ?_⟩
    · by_cases c : k = S
      · subst c
        refine ⟨dn, hdn, ?_⟩
        unfold bdW bdA
        rw [upd_n (by omega), cq_n (by omega), upd_n (by omega), upd_n (by omega), upd_n (by omega), upd_s, hd]
      · rw [oY _ (by omega) (by omega)]; exact a3 k (by omega)
    · rw [oY _ (by omega) (by omega)]; exact a4 k hk
    · rw [oY _ (by omega) (by omega)]; exact a5 j hj
theorem rv_cm {st il cr : Int32} {iln crn : Nat} (h : RV N S B L P g w) (hW : wf w S B L P) (hB : B < 12) (hv : nmR v sl) (hil : il = nI iln) (hil0 : iln ≤ 9) (hcr : cr = nI crn) (hcr0 : crn ≤ 999) (hN : 999 ≤ N) : RV N S (B + 1) L P (abF g B v st il cr) (cmW w sl B st il cr) := by
  obtain ⟨h1, h2, h3, h4⟩ := h
  have hS := hW.2.1
  have hL := hW.2.2.2.2.2.1
  have oX : ∀ q, q ≠ 4 → q ≠ 7 → (q < 89 + 11 * B ∨ 89 + 11 * B + 11 ≤ q) → abF g B v st il cr q = g q := fun q h4 h7 hq => by
    unfold abF
    rw [upd_n h7, upd_n h4, upd_n (by omega), upd_n (by omega), upd_n (by omega), upd_n (by omega), upd_n (by omega), upd_n (by omega)]
  have oA : ∀ q, (q < 89 + 11 * B ∨ 89 + 11 * B + 11 ≤ q) → cmA w sl B st il cr q = w q := fun q hq => by
    unfold cmA
    rw [cq_n (by omega), upd_n (by omega), upd_n (by omega), upd_n (by omega), upd_n (by omega), upd_n (by omega)]
  have oY : ∀ q, q ≠ 4 → q ≠ 7 → (q < 89 + 11 * B ∨ 89 + 11 * B + 11 ≤ q) → cmW w sl B st il cr q = w q := fun q h4 h7 hq => by
    unfold cmW
    rw [upd_n h4, upd_n h7, oA q hq]
  have cB : ∀ j, j < 5 → cmW w sl B st il cr (89 + 11 * B + j) = (upd (upd (upd (upd (upd w (89 + 11 * B) st) (89 + 11 * B + 1) il) (89 + 11 * B + 2) cr) (89 + 11 * B + 3) 0) (89 + 11 * B + 4) 0) (89 + 11 * B + j) := fun j hj => by
    unfold cmW cmA
    rw [upd_n (by omega), upd_n (by omega), cq_n (by omega)]
  refine ⟨?_, fun b hb => ?_, ⟨fun k hk => ?_, fun k hk => ?_⟩, ?_⟩
  · unfold abF cmW
    rw [oA 7 (by omega), oA 4 (by omega), ← ag_n h1 (by decide : 4 < 9), ← ag_n h1 (by decide : 7 < 9), upd_cm (cmA w sl B st il cr) (by decide : (7 : Nat) ≠ 4)]
    refine ag_upd (ag_upd (ag_B (ag_o (lo := 89 + 11 * B) (hi := 89 + 11 * B + 11) h1 (fun q hq => ?_) oA (by omega) (by omega) (Or.inr (by omega))) (fun j hj => ?_)) rfl) rfl
    · rw [upd_n (by omega), upd_n (by omega), upd_n (by omega), upd_n (by omega), upd_n (by omega), upd_n (by omega)]
    · unfold cmA
      rw [cq_n (by omega)]
      rcases (show j = 0 ∨ j = 1 ∨ j = 2 ∨ j = 3 ∨ j = 4 by omega) with rfl | rfl | rfl | rfl | rfl <;> simp [upd]
  · by_cases c : b = B
    · subst c
      refine ⟨iln, 0, 0, by omega, by omega, by omega, ?_, ?_, ?_⟩
      · rw [cB 1 (by omega), upd_n (by omega), upd_n (by omega), upd_n (by omega), upd_s, hil]
      · rw [cB 3 (by omega), upd_n (by omega), upd_s]; rfl
      · rw [cB 4 (by omega), upd_s]; rfl
    · obtain ⟨a, r, t, z⟩ := h2 b (by omega)
      refine ⟨a, r, t, ?_⟩
      rw [oY _ (by omega) (by omega) (by omega), oY _ (by omega) (by omega) (by omega), oY _ (by omega) (by omega) (by omega)]
      exact z
  · rw [oX _ (by omega) (by omega) (by omega)]
    exact nmR_cg (h3.1 k hk) (fun i hi => oY _ (by omega) (by omega) (by omega))
  · by_cases c : k = B
    · subst c
      have e : abF g k v st il cr (89 + 11 * k + 5) = v := by
        unfold abF
        rw [upd_n (by omega), upd_n (by omega), upd_n (by omega), upd_n (by omega), upd_n (by omega), upd_n (by omega), upd_n (by omega), upd_s]
      rw [e]
      refine nmR_cg hv (fun i hi => ?_)
      unfold cmW cmA
      rw [upd_n (by omega), upd_n (by omega), cq_i hi]
    · rw [oX _ (by omega) (by omega) (by omega)]
      exact nmR_cg (h3.2 k (by omega)) (fun i hi => oY _ (by omega) (by omega) (by omega))
  · obtain ⟨⟨f, f1, f2⟩, a3, a4, a5⟩ := h4
    refine ⟨⟨f, f1, (oY 1 (by omega) (by omega) (by omega)).trans f2⟩, fun k hk => ?_, fun k hk => ?_, fun j hj => ?_⟩
    · rw [oY _ (by omega) (by omega) (by omega)]; exact a3 k hk
    · rw [oY _ (by omega) (by omega) (by omega)]; exact a4 k hk
    · by_cases c : j = B
      · subst c
        rw [cB 2 (by omega), upd_n (by omega), upd_n (by omega), upd_s, hcr, nI_toInt (by omega)]
        omega
      · rw [oY _ (by omega) (by omega) (by omega)]; exact a5 j (by omega)
end RV1
