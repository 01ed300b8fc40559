/-! ===== what the model becomes ===== -/
theorem cq_s0 (d s : Nat → Int32) (k : Nat) : upd (cq d s 0 k) k (s k) = cq d s 0 (k + 1) := by
  have h := cq_s d s 0 k
  rwa [Nat.zero_add] at h
def smW (L P : Nat) (h0 c : Int32) (k : Nat) (w : Nat → Int32) : Nat → Int32 := upd (upd w (9 + 10 * k + 2) (w (9 + 10 * k + 2) + noF w L P k c)) (9 + 10 * k + 3) (w (9 + 10 * k + 3) + (if ¬ h0 = -1 ∧ w (89 + 11 * ow w h0.toNatClampNeg) = nI k then 1 else 0))
def smN (L P : Nat) (c : Int32) (k : Nat) (w nz : Nat → Int32) : Nat → Int32 := upd nz k (noF w L P k c)
abbrev WN := (Nat → Int32) × (Nat → Int32)
def smS (L P : Nat) (h0 c : Int32) (k : Nat) (x : WN) : WN := (smW L P h0 c k x.1, smN L P c k x.1 x.2)
def fe1 (n : Int32) (k : Nat) (w : Nat → Int32) : Nat → Int32 := upd w (89 + 11 * k + 3) (w (89 + 11 * k + 3) + (if n = 0 then 1 else 0))
def fe2 (k : Nat) (w : Nat → Int32) : Nat → Int32 := if w (89 + 11 * k + 3) = 6 then upd (upd w (89 + 11 * k + 3) 0) (89 + 11 * k + 1) (w (89 + 11 * k + 1) - (if 0 < w (89 + 11 * k + 1) then 1 else 0)) else w
def fe3 (n : Int32) (k : Nat) (w : Nat → Int32) : Nat → Int32 := upd w (89 + 11 * k + 4) (w (89 + 11 * k + 4) + (if n < 80 then 0 else 1))
def fe4 (k : Nat) (w : Nat → Int32) : Nat → Int32 := if w (89 + 11 * k + 4) = 12 then upd (upd w (89 + 11 * k + 4) 0) (89 + 11 * k + 1) (w (89 + 11 * k + 1) + (if w (89 + 11 * k + 1) < 9 then 1 else 0)) else w
def feS (nz : Nat → Int32) (k : Nat) (w : Nat → Int32) : Nat → Int32 := fe4 k (fe3 (nz (hm w k)) k (fe2 k (fe1 (nz (hm w k)) k w)))
def clS (k : Nat) (w : Nat → Int32) : Nat → Int32 := chS k (enS k w)
def clN : Nat → Nat → (Nat → Int32) → Nat
  | 0, _, _ => 0
  | r + 1, k, w => (if laP (enS k w) k then 1 else 0) + clN r (k + 1) (clS k w)
/-- an hour of the model -/
def soM (S L P : Nat) (w nz : Nat → Int32) : WN := it (smS L P (hoF w L (w 2)) (w 2)) S 0 (w, nz)
def hmF (S B L P : Nat) (w nz : Nat → Int32) : Nat → Int32 := it (feS (soM S L P (it bgS L 0 w) nz).2) B 0 (soM S L P (it bgS L 0 w) nz).1
def hmA (S B L P : Nat) (w nz : Nat → Int32) : Nat → Int32 := upd (hmF S B L P w nz) 2 (hmF S B L P w nz 2 + 1)
def hmS (S B L P : Nat) (x : WN) : WN := (it clS L 0 (hmA S B L P x.1 x.2), (soM S L P (it bgS L 0 x.1) x.2).2)
def mpS (S B L P : Nat) : Nat → WN → WN
  | 0, x => x
  | r + 1, x => mpS S B L P r (hmS S B L P x)
def mpN (S B L P : Nat) : Nat → WN → Nat
  | 0, _ => 0
  | r + 1, x => clN L 0 (hmA S B L P x.1 x.2) + mpN S B L P r (hmS S B L P x)
theorem clN_le : ∀ (r k : Nat) (w : Nat → Int32), clN r k w ≤ r
  | 0, _, _ => Nat.le_refl 0
  | r + 1, k, w => by
    have := clN_le r (k + 1) (clS k w)
    unfold clN
    split <;> omega
-- orders kept
theorem wz_bg {w : Nat → Int32} {k : Nat} (h : wz w) (hk : k < 30) : wz (bgS k w) := by
  unfold bgS; split
  · exact wz_updL h hk (by omega) (fun _ => by decide)
  · exact h
theorem wz_en {w : Nat → Int32} {k : Nat} (h : wz w) (hk : k < 30) : wz (enS k w) := by
  unfold enS; split
  · exact wz_updL h hk (by omega) (fun _ => by decide)
  · exact h
theorem wz_ch {w : Nat → Int32} {k : Nat} (h : wz w) (hk : k < 30) (ho : ow w k < 12) : wz (chS k w) := by
  unfold chS; split
  · exact wz_upd (wz_upd (wz_updL h hk (by omega) (fun _ => by decide)) (by omega)) (by omega)
  · exact h
theorem wz_ca {w : Nat → Int32} {k : Nat} (h : wz w) (hk : k < 30) (ho : ow w k < 12) : wz (caS k w) := by
  unfold caS
  exact wz_upd (wz_updL h hk (by omega) (fun _ => by decide)) (by omega)
theorem wz_al {w : Nat → Int32} {k : Nat} {f n : Int32} (h : wz w) (hk : k < 30) (ho : ow w k < 12) : wz (alS f n k w) := by
  unfold alS; split
  · exact wz_ca h hk ho
  · exact h
theorem wz_sm {w : Nat → Int32} {L P k : Nat} {h0 c : Int32} (h : wz w) (hk : k < 8) : wz (smW L P h0 c k w) := by
  unfold smW
  exact wz_upd (wz_upd h (by omega)) (by omega)
theorem wz_fe {w nz : Nat → Int32} {k : Nat} (h : wz w) (hk : k < 12) : wz (feS nz k w) := by
  have h1 : ∀ n, wz (fe1 n k w) := fun n => wz_upd h (by omega)
  have h2 : ∀ x, wz x → wz (fe2 k x) := fun x hx => by
    unfold fe2; split
    · exact wz_upd (wz_upd hx (by omega)) (by omega)
    · exact hx
  have h3 : ∀ n x, wz x → wz (fe3 n k x) := fun n x hx => wz_upd hx (by omega)
  have h4 : ∀ x, wz x → wz (fe4 k x) := fun x hx => by
    unfold fe4; split
    · exact wz_upd (wz_upd hx (by omega)) (by omega)
    · exact hx
  exact h4 _ (h3 _ _ (h2 _ (h1 _)))
theorem wf_sm {w : Nat → Int32} {S B L P k : Nat} {h0 c : Int32} (h : wf w S B L P) (hk : k < 8) : wf (smW L P h0 c k w) S B L P := by
  have hB := h.2.2.2.1
  unfold smW
  exact wf_upd (wf_upd h (by omega) (fun b hb => by omega) (fun j hj => by omega)) (by omega) (fun b hb => by omega) (fun j hj => by omega)
theorem wf_fe {w nz : Nat → Int32} {S B L P k : Nat} (h : wf w S B L P) (hk : k < 12) : wf (feS nz k w) S B L P := by
  have hB := h.2.2.2.1
  have U : ∀ (f : Nat) (v : Int32) (x : Nat → Int32), f = 1 ∨ f = 3 ∨ f = 4 → wf x S B L P → wf (upd x (89 + 11 * k + f) v) S B L P := fun f v x hf hx => wf_upd hx (by omega) (fun b hb => by omega) (fun j hj => by omega)
  have h1 : ∀ n, wf (fe1 n k w) S B L P := fun n => U 3 _ _ (by omega) h
  have h2 : ∀ x, wf x S B L P → wf (fe2 k x) S B L P := fun x hx => by
    unfold fe2; split
    · exact U 1 _ _ (by omega) (U 3 _ _ (by omega) hx)
    · exact hx
  have h3 : ∀ n x, wf x S B L P → wf (fe3 n k x) S B L P := fun n x hx => U 4 _ _ (by omega) hx
  have h4 : ∀ x, wf x S B L P → wf (fe4 k x) S B L P := fun x hx => by
    unfold fe4; split
    · exact U 1 _ _ (by omega) (U 4 _ _ (by omega) hx)
    · exact hx
  exact h4 _ (h3 _ _ (h2 _ (h1 _)))
theorem wf_cl2 {w : Nat → Int32} {S B L P k : Nat} (h : wf w S B L P) (hk : k < L) : wf (clS k w) S B L P := wf_ch (wf_en h (by have := h.2.2.2.2.2.1; omega)) hk
/-- one step of the model's: all that is kept -/
def ok1 (S B L P T : Nat) (w : Nat → Int32) : Prop := wf w S B L P ∧ wz w ∧ w 2 = nI T
theorem ok_ho {w : Nat → Int32} {S B L P T k : Nat} (h : ok1 S B L P T w) (hk : k < L) : k < 30 ∧ ow w k < 12 ∧ B ≤ 12 ∧ S ≤ 8 := by
  obtain ⟨⟨a1, a2, a3, a4, a5, a6, a7, a8, a9, a10⟩, -, -⟩ := h
  have := (a10 k hk).2
  omega
theorem c2_bg (k : Nat) (w : Nat → Int32) : bgS k w 2 = w 2 := by
  unfold bgS; split
  · exact upd_n (by omega)
  · rfl
theorem c2_en (k : Nat) (w : Nat → Int32) : enS k w 2 = w 2 := by
  unfold enS; split
  · exact upd_n (by omega)
  · rfl
theorem c2_ch (k : Nat) (w : Nat → Int32) : chS k w 2 = w 2 := by
  unfold chS; split
  · rw [upd_n (by omega), upd_n (by omega), upd_n (by omega)]
  · rfl
theorem c2_ca (k : Nat) (w : Nat → Int32) : caS k w 2 = w 2 := by
  unfold caS; rw [upd_n (by omega), upd_n (by omega)]
theorem c2_al (f n : Int32) (k : Nat) (w : Nat → Int32) : alS f n k w 2 = w 2 := by
  unfold alS; split
  · exact c2_ca k w
  · rfl
theorem c2_sm (L P : Nat) (h0 c : Int32) (k : Nat) (w : Nat → Int32) : smW L P h0 c k w 2 = w 2 := by
  unfold smW; rw [upd_n (by omega), upd_n (by omega)]
theorem c2_fe (nz : Nat → Int32) (k : Nat) (w : Nat → Int32) : feS nz k w 2 = w 2 := by
  have h2 : ∀ x : Nat → Int32, fe2 k x 2 = x 2 := fun x => by
    unfold fe2; split
    · rw [upd_n (by omega), upd_n (by omega)]
    · rfl
  have h4 : ∀ x : Nat → Int32, fe4 k x 2 = x 2 := fun x => by
    unfold fe4; split
    · rw [upd_n (by omega), upd_n (by omega)]
    · rfl
  unfold feS
  rw [h4]
  unfold fe3
  rw [upd_n (by omega), h2]
  unfold fe1
  rw [upd_n (by omega)]
theorem ok_it {f : Nat → (Nat → Int32) → (Nat → Int32)} {S B L P T : Nat} : ∀ (r k : Nat) (g : Nat → Int32), ok1 S B L P T g → (∀ j g, k ≤ j → j < k + r → ok1 S B L P T g → ok1 S B L P T (f j g)) → ok1 S B L P T (it f r k g)
  | 0, _, _, h, _ => h
  | r + 1, k, g, h, hf => ok_it r (k + 1) (f k g) (hf k g (Nat.le_refl _) (by omega) h) (fun j g h1 h2 h3 => hf j g (by omega) (by omega) h3)
section OK1
variable {w nz : Nat → Int32} {S B L P T k : Nat}
theorem ok_bg (h : ok1 S B L P T w) (hk : k < L) : ok1 S B L P T (bgS k w) := ⟨wf_bg h.1 (ok_ho h hk).1, wz_bg h.2.1 (ok_ho h hk).1, (c2_bg k w).trans h.2.2⟩
theorem ok_en (h : ok1 S B L P T w) (hk : k < L) : ok1 S B L P T (enS k w) := ⟨wf_en h.1 (ok_ho h hk).1, wz_en h.2.1 (ok_ho h hk).1, (c2_en k w).trans h.2.2⟩
theorem ok_ch (h : ok1 S B L P T w) (hk : k < L) : ok1 S B L P T (chS k w) := ⟨wf_ch h.1 hk, wz_ch h.2.1 (ok_ho h hk).1 (ok_ho h hk).2.1, (c2_ch k w).trans h.2.2⟩
theorem ok_cl1 (h : ok1 S B L P T w) (hk : k < L) : ok1 S B L P T (clS k w) := ok_ch (ok_en h hk) hk
theorem ok_al {f n : Int32} (h : ok1 S B L P T w) (hk : k < L) : ok1 S B L P T (alS f n k w) := ⟨wf_al h.1 hk, wz_al h.2.1 (ok_ho h hk).1 (ok_ho h hk).2.1, (c2_al f n k w).trans h.2.2⟩
theorem ok_sm {h0 c : Int32} (h : ok1 S B L P T w) (hk : k < S) : ok1 S B L P T (smW L P h0 c k w) := ⟨wf_sm h.1 (by have := h.1.2.1; omega), wz_sm h.2.1 (by have := h.1.2.1; omega), (c2_sm L P h0 c k w).trans h.2.2⟩
theorem ok_fe (h : ok1 S B L P T w) (hk : k < B) : ok1 S B L P T (feS nz k w) := ⟨wf_fe h.1 (by have := h.1.2.2.2.1; omega), wz_fe h.2.1 (by have := h.1.2.2.2.1; omega), (c2_fe nz k w).trans h.2.2⟩
theorem ok_itb (h : ok1 S B L P T w) : ok1 S B L P T (it bgS L 0 w) := ok_it _ _ _ h (fun j g _ h2 h3 => ok_bg h3 (by omega))
end OK1
theorem ok_its {S B L P T : Nat} {h0 c : Int32} : ∀ (r k : Nat) (x : WN), k + r ≤ S → ok1 S B L P T x.1 → ok1 S B L P T (it (smS L P h0 c) r k x).1
  | 0, _, _, _, h => h
  | r + 1, k, x, hr, h => ok_its r (k + 1) (smS L P h0 c k x) (by omega) (ok_sm h (by omega))
theorem ok_so {S B L P T : Nat} {w nz : Nat → Int32} (h : ok1 S B L P T w) : ok1 S B L P T (soM S L P w nz).1 := by
  unfold soM
  exact ok_its _ _ _ (by omega) h
theorem ok_hF {S B L P T : Nat} {w nz : Nat → Int32} (h : ok1 S B L P T w) : ok1 S B L P T (hmF S B L P w nz) := by
  unfold hmF
  exact ok_it _ _ _ (ok_so (ok_itb h)) (fun j g _ h2 h3 => ok_fe h3 (by omega))
theorem ok_hA {S B L P T : Nat} {w nz : Nat → Int32} (h : ok1 S B L P T w) : ok1 S B L P (T + 1) (hmA S B L P w nz) := by
  have h1 := ok_hF (nz := nz) h
  have hB := h.1.2.2.2.1
  unfold hmA
  exact ⟨wf_upd h1.1 (by omega) (fun b hb => by omega) (fun j hj => by omega), wz_upd h1.2.1 (by omega), by rw [upd_s, h1.2.2]; exact nI_1 T⟩
theorem ok_hS {S B L P T : Nat} {x : WN} (h : ok1 S B L P T x.1) : ok1 S B L P (T + 1) (hmS S B L P x).1 := ok_it _ _ _ (ok_hA h) (fun j g _ h2 h3 => ok_cl1 h3 (by omega))
theorem ok_pS {S B L P : Nat} : ∀ (r T : Nat) (x : WN), ok1 S B L P T x.1 → ok1 S B L P (T + r) (mpS S B L P r x).1
  | 0, _, _, h => h
  | r + 1, T, x, h => by
    have := ok_pS r (T + 1) (hmS S B L P x) (ok_hS h)
    rw [show T + (r + 1) = T + 1 + r by omega]
    exact this
def frM (w : Nat → Int32) (L T : Nat) : Nat := co (fun i => hoF w L (nI (T + i)) = -1) 48 0
def twM (w : Nat → Int32) (L T : Nat) : Nat := co (fun i => (1 : Int32) < nI (loF w L (nI (T + i)) 1)) 48 0
/-- the history of the model -/
def shO (od : Nat → Int32) (k : Nat) : Nat → Int32 := fun q => if q + 411 < k then od (q + 411) else od q
theorem shO_0 (od : Nat → Int32) : shO od 411 = od := by funext q; unfold shO; rw [if_neg (by omega)]
theorem shO_r {od : Nat → Int32} {k : Nat} (h : 411 ≤ k) : shO od k k = od k := by unfold shO; rw [if_neg (by omega)]
theorem shO_s' (od : Nat → Int32) (j : Nat) : upd (shO od (j + 411)) j (od (j + 411)) = shO od (j + 411 + 1) := by
  funext q
  by_cases c : q = j
  · rw [c, upd_s]; unfold shO; rw [if_pos (by omega)]
  · rw [upd_n c]; unfold shO
    by_cases c2 : q + 411 < j + 411
    · rw [if_pos c2, if_pos (by omega)]
    · rw [if_neg c2, if_neg (by omega)]
theorem shO_s {od : Nat → Int32} {k : Nat} (h : 411 ≤ k) : upd (shO od k) (k - 411) (od k) = shO od (k + 1) := by
  have e : ∃ j, k = j + 411 := ⟨k - 411, (Nat.sub_add_cancel h).symm⟩
  obtain ⟨j, rfl⟩ := e
  rw [Nat.add_sub_cancel]
  exact shO_s' od j
def rmO (od w : Nat → Int32) (om : Nat) : Nat → Int32 := if om = 10 then cq (shO od 4110) w (9 * 411) 411 else cq od w (om * 411) 411
def rmF (F : Nat → Int32) (om : Nat) : Nat → Int32 := upd F 1 (nI (if om = 10 then 10 else om + 1))
