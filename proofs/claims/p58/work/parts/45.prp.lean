/-! ===== a State that grows: what stays true of it ===== -/
section WG
variable {g : Nat → Int32} {S B L P : Nat} {v : Int32}
theorem wf_S (h : wf g S B L P) (hS : S < 8) (hv : v = nI (S + 1)) : wf (upd g 3 v) (S + 1) B L P := by
  obtain ⟨a1, a2, a3, a4, a5, a6, a7, a8, a9, a10⟩ := h
  refine ⟨by rw [upd_s]; exact hv, by omega, (upd_n (by decide)).trans a3, a4, (upd_n (by decide)).trans a5, a6, (upd_n (by decide)).trans a7, a8, fun b hb => ?_, fun k hk => ?_⟩
  · have e : upd g 3 v (89 + 11 * b) = g (89 + 11 * b) := upd_n (by omega)
    have := a9 b hb
    unfold hm at *; rw [e]; exact ⟨this.1, by omega⟩
  · have e : upd g 3 v (261 + 5 * k) = g (261 + 5 * k) := upd_n (by omega)
    unfold ow; rw [e]; exact a10 k hk
theorem wf_B (h : wf g S B L P) (hB : B < 12) (hv : v = nI (B + 1)) (hb9 : g (89 + 11 * B) = nI (hm g B) ∧ hm g B < S) : wf (upd g 4 v) S (B + 1) L P := by
  obtain ⟨a1, a2, a3, a4, a5, a6, a7, a8, a9, a10⟩ := h
  refine ⟨(upd_n (by decide)).trans a1, a2, by rw [upd_s]; exact hv, by omega, (upd_n (by decide)).trans a5, a6, (upd_n (by decide)).trans a7, a8, fun b hb => ?_, fun k hk => ?_⟩
  · have e : upd g 4 v (89 + 11 * b) = g (89 + 11 * b) := upd_n (by omega)
    unfold hm; rw [e]
    rcases (show b = B ∨ b < B by omega) with rfl | hb2
    · exact hb9
    · exact a9 b hb2
  · have e : upd g 4 v (261 + 5 * k) = g (261 + 5 * k) := upd_n (by omega)
    have := a10 k hk
    unfold ow at *; rw [e]; exact ⟨this.1, by omega⟩
theorem wf_P (h : wf g S B L P) (hP : P < 10) (hv : v = nI (P + 1)) : wf (upd g 5 v) S B L (P + 1) := by
  obtain ⟨a1, a2, a3, a4, a5, a6, a7, a8, a9, a10⟩ := h
  refine ⟨(upd_n (by decide)).trans a1, a2, (upd_n (by decide)).trans a3, a4, (upd_n (by decide)).trans a5, a6, by rw [upd_s]; exact hv, by omega, fun b hb => ?_, fun k hk => ?_⟩
  · have e : upd g 5 v (89 + 11 * b) = g (89 + 11 * b) := upd_n (by omega)
    unfold hm; rw [e]; exact a9 b hb
  · have e : upd g 5 v (261 + 5 * k) = g (261 + 5 * k) := upd_n (by omega)
    unfold ow; rw [e]; exact a10 k hk
theorem wf_L (h : wf g S B L P) (hL : L < 30) (hv : v = nI (L + 1)) (hl9 : g (261 + 5 * L) = nI (ow g L) ∧ ow g L < B) : wf (upd g 6 v) S B (L + 1) P := by
  obtain ⟨a1, a2, a3, a4, a5, a6, a7, a8, a9, a10⟩ := h
  refine ⟨(upd_n (by decide)).trans a1, a2, (upd_n (by decide)).trans a3, a4, by rw [upd_s]; exact hv, by omega, (upd_n (by decide)).trans a7, a8, fun b hb => ?_, fun k hk => ?_⟩
  · have e : upd g 6 v (89 + 11 * b) = g (89 + 11 * b) := upd_n (by omega)
    unfold hm; rw [e]; exact a9 b hb
  · have e : upd g 6 v (261 + 5 * k) = g (261 + 5 * k) := upd_n (by omega)
    unfold ow; rw [e]
    rcases (show k = L ∨ k < L by omega) with rfl | hk2
    · exact hl9
    · exact a10 k hk2
theorem wf_as {nm d n : Int32} (h : wf g S B L P) (hS : S < 8) : wf (asF g S nm d n) (S + 1) B L P := by
  unfold asF
  exact wf_S (wf_upd (wf_upd (wf_upd (wf_upd (wf_upd h (by omega) (fun b hb => by omega) (fun j hj => by omega)) (by omega) (fun b hb => by omega) (fun j hj => by omega)) (by omega) (fun b hb => by omega) (fun j hj => by omega)) (by omega) (fun b hb => by omega) (fun j hj => by omega)) (by omega) (fun b hb => by omega) (fun j hj => by omega)) hS (nx_add h.1 (show (1 : Int32) = nI 1 from rfl))
theorem wf_ab {nm st il cr : Int32} {k : Nat} (h : wf g S B L P) (hB : B < 12) (hk : k < S) (hst : st = nI k) : wf (abF g B nm st il cr) S (B + 1) L P := by
  have hS := h.2.1
  unfold abF
  refine wf_upd (wf_B (wf_upd (wf_upd (wf_upd (wf_upd (wf_upd (wf_upd h (by omega) (fun b hb => by omega) (fun j hj => by omega)) (by omega) (fun b hb => by omega) (fun j hj => by omega)) (by omega) (fun b hb => by omega) (fun j hj => by omega)) (by omega) (fun b hb => by omega) (fun j hj => by omega)) (by omega) (fun b hb => by omega) (fun j hj => by omega)) (by omega) (fun b hb => by omega) (fun j hj => by omega)) hB (nx_add h.2.2.1 (show (1 : Int32) = nI 1 from rfl)) ?_) (by omega) (fun b hb => by omega) (fun j hj => by omega)
  have e : (upd (upd (upd (upd (upd (upd g (89 + 11 * B + 5) nm) (89 + 11 * B) st) (89 + 11 * B + 1) il) (89 + 11 * B + 2) cr) (89 + 11 * B + 3) 0) (89 + 11 * B + 4) 0) (89 + 11 * B) = nI k := by
    rw [upd_n (by omega), upd_n (by omega), upd_n (by omega), upd_n (by omega), upd_s]; exact hst
  unfold hm
  rw [e, nI_clamp (by omega)]
  exact ⟨rfl, hk⟩
theorem wf_ap {st s n : Int32} (h : wf g S B L P) (hP : P < 10) : wf (apF g P st s n) S B L (P + 1) := by
  unfold apF
  exact wf_P (wf_upd (wf_upd (wf_upd (wf_upd h (by omega) (fun b hb => by have := h.2.2.2.1; omega) (fun j hj => by omega)) (by omega) (fun b hb => by have := h.2.2.2.1; omega) (fun j hj => by omega)) (by omega) (fun b hb => by have := h.2.2.2.1; omega) (fun j hj => by omega)) (by omega) (fun b hb => by have := h.2.2.2.1; omega) (fun j hj => by omega)) hP (nx_add h.2.2.2.2.2.2.1 (show (1 : Int32) = nI 1 from rfl))
theorem wf_ad {b s n : Nat} (h : wf g S B L P) (hb : b < B) (hL : L < 30) : wf (adF g L b s n) S B (L + 1) P := by
  have hB := h.2.2.2.1
  have hA : wf (adA g L s n) S B L P := wf_it L 0 g h (fun j g' _ h2 h3 => wf_al h3 (by omega))
  unfold adF
  refine wf_L (wf_upd (wf_upd (wf_upd (wf_upd (wf_upd (wf_upd hA (by omega) (fun b hb => by omega) (fun j hj => by omega)) (by omega) (fun b hb => by omega) (fun j hj => by omega)) (by omega) (fun b hb => by omega) (fun j hj => by omega)) (by omega) (fun b hb => by omega) (fun j hj => by omega)) (by omega) (fun b hb => by omega) (fun j hj => by omega)) (by omega) (fun b hb => by omega) (fun j hj => by omega)) hL (nx_add hA.2.2.2.2.1 (show (1 : Int32) = nI 1 from rfl)) ?_
  have e : ∀ y y2 y3 y4 y5 y6 : Int32, (upd (upd (upd (upd (upd (upd (adA g L s n) (261 + 5 * L) y) (261 + 5 * L + 1) y2) (261 + 5 * L + 2) y3) (261 + 5 * L + 3) y4) (261 + 5 * L + 4) y5) (89 + 11 * b + 2) y6) (261 + 5 * L) = y := fun y y2 y3 y4 y5 y6 => by
    rw [upd_n (by omega), upd_n (by omega), upd_n (by omega), upd_n (by omega), upd_n (by omega), upd_s]
  unfold ow
  rw [e, nI_clamp (by omega)]
  exact ⟨rfl, hb⟩
end WG
/-- what a walk leaves alone -/
theorem it_keep {f : Nat → (Nat → Int32) → (Nat → Int32)} {i : Nat} (hf : ∀ k g, f k g i = g i) : ∀ (r k : Nat) (g : Nat → Int32), it f r k g i = g i
  | 0, _, _ => rfl
  | r + 1, k, g => (it_keep hf r (k + 1) (f k g)).trans (hf k g)
theorem ca_2 (k : Nat) (g : Nat → Int32) : caS k g 2 = g 2 := by unfold caS; rw [upd_n (by omega), upd_n (by omega)]
theorem al_2 (f n : Int32) (k : Nat) (g : Nat → Int32) : alS f n k g 2 = g 2 := by unfold alS; split; exact ca_2 k g; rfl
theorem bg_2 (k : Nat) (g : Nat → Int32) : bgS k g 2 = g 2 := by unfold bgS; split; exact upd_n (by omega); rfl
theorem en_2 (k : Nat) (g : Nat → Int32) : enS k g 2 = g 2 := by unfold enS; split; exact upd_n (by omega); rfl
theorem ch_2 (k : Nat) (g : Nat → Int32) : chS k g 2 = g 2 := by
  unfold chS; split
  · rw [upd_n (by omega), upd_n (by omega), upd_n (by omega)]
  · rfl
theorem so_2 (L P : Nat) (q : Int32) (k : Nat) (g : Nat → Int32) : soS L P q k g 2 = g 2 := by
  unfold soS; split
  · rw [upd_n (by omega), upd_n (by omega), upd_n (by omega)]
  · rw [upd_n (by omega), upd_n (by omega)]
theorem he_2 (k : Nat) (g : Nat → Int32) : heS k g 2 = g 2 := by unfold heS; rw [upd_n (by omega), upd_n (by omega), upd_n (by omega)]
theorem ho_2 (S B L P : Nat) (g : Nat → Int32) : hoS S B L P g 2 = g 2 + 1 := by
  unfold hoS hoA soF
  rw [it_keep (fun k g => ch_2 k g), it_keep (fun k g => en_2 k g), upd_s, it_keep (fun k g => he_2 k g), it_keep (fun k g => so_2 _ _ _ k g), it_keep (fun k g => bg_2 k g)]
theorem pa_2 (S B L P : Nat) : ∀ (h : Nat) (g : Nat → Int32) (T : Nat), g 2 = nI T → paG S B L P h g 2 = nI (T + h)
  | 0, _, _, e => e
  | h + 1, g, T, e => by
    show paG S B L P h (hoS S B L P g) 2 = _
    rw [pa_2 S B L P h _ (T + 1) (by rw [ho_2]; exact nx_add e (show (1 : Int32) = nI 1 from rfl))]
    congr 1; omega
theorem as_2 (g : Nat → Int32) (S : Nat) (nm d n : Int32) : asF g S nm d n 2 = g 2 := by unfold asF; rw [upd_n (by omega), upd_n (by omega), upd_n (by omega), upd_n (by omega), upd_n (by omega), upd_n (by omega)]
theorem ab_2 (g : Nat → Int32) (B : Nat) (nm st il cr : Int32) : abF g B nm st il cr 2 = g 2 := by unfold abF; rw [upd_n (by omega), upd_n (by omega), upd_n (by omega), upd_n (by omega), upd_n (by omega), upd_n (by omega), upd_n (by omega), upd_n (by omega)]
theorem ap_2 (g : Nat → Int32) (P : Nat) (st s n : Int32) : apF g P st s n 2 = g 2 := by unfold apF; rw [upd_n (by omega), upd_n (by omega), upd_n (by omega), upd_n (by omega), upd_n (by omega)]
theorem ad_2 (g : Nat → Int32) (L b s n : Nat) : adF g L b s n 2 = g 2 := by
  unfold adF adA
  rw [upd_n (by omega), upd_n (by omega), upd_n (by omega), upd_n (by omega), upd_n (by omega), upd_n (by omega), upd_n (by omega), it_keep (fun k g => al_2 _ _ k g)]
/-! ===== a text keeps a State in order ===== -/
section OK
variable {t : Nat → Int32} {len : Nat} {x : PR}
theorem okP_mk {g : Nat → Int32} {S B L P : Nat} {q : PS} (h1 : wf g S B L P) (h2 : ∃ T, g 2 = nI T ∧ T ≤ 9999) (h3 : pvP len q) : okP len (g, S, B, L, P, q) := ⟨h1, h2, h3⟩
theorem ok_W {q : PS} (h : okP len x) (hq : pvP len q) : okP len (rW x q) := ⟨h.1, h.2.1, hq⟩
theorem pv_st0 (h : okP len x) : pvP len (st0 x) := by unfold st0; exact pv_fc (by decide) h.2.2
theorem pv_st1 (h : okP len x) : pvP len (st1 t len x) := by unfold st1; exact pv_fc (by decide) (pv_nm (pv_st0 h))
theorem pv_st3 (h : okP len x) : pvP len (st3 t len x) := by unfold st3 st2; exact pv_nu (pv_nu (pv_st1 h))
theorem zk_st (h : pEk (st3 t len x) = 0) : (¬ ¬ smF (rG x) (rS x) (nmV t len (st0 x)) = -1) ∧ ¬ rS x = 8 := by
  unfold st3 at h
  have h2 := zk_nu0 h
  unfold st2 at h2
  have h3 := zk_nu0 h2
  unfold st1 at h3
  have h1 := zk_fc (by decide) h3
  have h4 := zk_nm0 h1.2
  unfold st0 at h4
  exact ⟨h1.1, (zk_fc (by decide) h4).1⟩
theorem ok_st (h : okP len x) : okP len (stL t len x) := by
  unfold stL; split
  · rename_i c
    have hS := h.1.2.1
    have h8 := (zk_st c).2
    obtain ⟨T, e, hT⟩ := h.2.1
    exact okP_mk (wf_as h.1 (by omega)) ⟨T, (as_2 _ _ _ _ _).trans e, hT⟩ (pv_st3 h)
  · exact ok_W h (pv_st3 h)
theorem pv_bo0 (h : okP len x) : pvP len (bo0 x) := by unfold bo0; exact pv_fc (by decide) h.2.2
theorem pv_bo1 (h : okP len x) : pvP len (bo1 t len x) := by unfold bo1; exact pv_fc (by decide) (pv_nm (pv_bo0 h))
theorem pv_bo4 (h : okP len x) : pvP len (bo4 t len x) := by unfold bo4 bo3 bo2; exact pv_nu (pv_nu (pv_ks (pv_bo1 h)))
theorem zk_bo (h : pEk (bo4 t len x) = 0) : (¬ ¬ bmF (rG x) (rB x) (nmV t len (bo0 x)) = -1) ∧ ¬ rB x = 12 ∧ ¬ ksV t len (rG x) (rS x) (bo1 t len x) = -1 := by
  unfold bo4 at h
  have h2 := zk_nu0 h
  unfold bo3 at h2
  have h3 := zk_nu0 h2
  unfold bo2 at h3
  have h0 := zk_ks h3
  have h5 := h0.2
  unfold bo1 at h5
  have h1 := zk_fc (by decide) h5
  have h4 := zk_nm0 h1.2
  unfold bo0 at h4
  exact ⟨h1.1, (zk_fc (by decide) h4).1, h0.1⟩
theorem ok_bo (h : okP len x) : okP len (boL t len x) := by
  unfold boL; split
  · rename_i c
    have hB := h.1.2.2.2.1
    have h8 := zk_bo c
    obtain ⟨T, e, hT⟩ := h.2.1
    obtain ⟨k, hk, ek⟩ := ks_some h.1.2.1 h8.2.2
    exact okP_mk (wf_ab h.1 (by omega) hk ek) ⟨T, (ab_2 _ _ _ _ _ _).trans e, hT⟩ (pv_bo4 h)
  · exact ok_W h (pv_bo4 h)
theorem pv_pm0 (h : okP len x) : pvP len (pm0 x) := by unfold pm0; exact pv_fc (by decide) h.2.2
theorem pv_pm3 (h : okP len x) : pvP len (pm3 t len x) := by unfold pm3 pm2 pm1; exact pv_nu (pv_nu (pv_ks (pv_pm0 h)))
theorem pv_pm4 (h : okP len x) : pvP len (pm4 t len x) := by unfold pm4; exact pv_fc (by decide) (pv_pm3 h)
theorem zk_pm3 (h : pEk (pm4 t len x) = 0) : pEk (pm3 t len x) = 0 := by
  unfold pm4 at h
  exact (zk_fc (by decide) h).2
theorem zk_pm (h : pEk (pm4 t len x) = 0) : ¬ rP x = 10 ∧ ¬ pmV t len x = -1 := by
  have h1 := zk_pm3 h
  unfold pm3 at h1
  have h2 := zk_nu0 h1
  unfold pm2 at h2
  have h3 := zk_nu0 h2
  unfold pm1 at h3
  have h0 := zk_ks h3
  have h5 := h0.2
  unfold pm0 at h5
  unfold pmV
  exact ⟨(zk_fc (by decide) h5).1, h0.1⟩
theorem ok_pm (h : okP len x) : okP len (pmL t len x) := by
  unfold pmL; split
  · rename_i c
    have hP := h.1.2.2.2.2.2.2.2.1
    have h8 := zk_pm c
    obtain ⟨T, e, hT⟩ := h.2.1
    exact okP_mk (wf_ap h.1 (by omega)) ⟨T, (ap_2 _ _ _ _ _).trans e, hT⟩ (pv_pm4 h)
  · exact ok_W h (pv_pm4 h)
theorem pv_ld1 (h : okP len x) : pvP len (ld1 t len x) := by unfold ld1; exact pv_fc (by decide) (pv_nm h.2.2)
theorem pv_ld3 (h : okP len x) : pvP len (ld3 t len x) := by unfold ld3 ld2; exact pv_nu (pv_nu (pv_ld1 h))
theorem pv_ld4 (h : okP len x) : pvP len (ld4 t len x) := by unfold ld4; exact pv_fc (by decide) (pv_ld3 h)
theorem zk_ld4 (h : pEk (ld4 t len x) = 0) : (¬ ((pEk (ld3 t len x)) = 0 ∧ ¬ reF (rG x) (rL x) (rP x) (ldV t len x).toNatClampNeg (ldS t len x).toNatClampNeg (ldN t len x).toNatClampNeg = 0)) ∧ pEk (ld3 t len x) = 0 := by
  unfold ld4 at h
  exact zk_fc (by decide) h
/-- what a loan that is read is about -/
theorem ld_nat (h : okP len x) {T : Nat} (hT : rG x 2 = nI T) (hT0 : T ≤ 9999) (c : pEk (ld3 t len x) = 0) : ∃ b s n, b < rB x ∧ T ≤ s ∧ s ≤ T + 47 ∧ 1 ≤ n ∧ n ≤ 6 ∧ s + n ≤ T + 48 ∧ ldV t len x = nI b ∧ ldS t len x = nI s ∧ ldN t len x = nI n := by
  unfold ld3 at c
  have c2 : pEk (ld2 t len x) = 0 := zk_nu0 c
  have c3 := c2
  unfold ld2 at c3
  have c1 : pEk (ld1 t len x) = 0 := zk_nu0 c3
  unfold ld1 at c1
  obtain ⟨b, hb, eb⟩ := bm_some h.1.2.2.2.1 (zk_fc (by decide) c1).1
  obtain ⟨s, u1, u2, es⟩ := nu_st hT hT0 c3
  obtain ⟨n, v1, v2, v3, en⟩ := nu_ln (m := 6) hT hT0 (by decide) es u1 u2 c
  exact ⟨b, s, n, hb, u1, u2, v1, v2, v3, eb, es, en⟩
theorem ok_ld (h : okP len x) : okP len (ldL t len x) := by
  unfold ldL; split
  · rename_i c
    obtain ⟨T, e, hT⟩ := h.2.1
    have c4 := zk_ld4 c
    obtain ⟨b, s, n, hb, -, -, -, -, -, eb, es, en⟩ := ld_nat h e hT c4.2
    have hB := h.1.2.2.2.1
    have hre : reF (rG x) (rL x) (rP x) (ldV t len x).toNatClampNeg (ldS t len x).toNatClampNeg (ldN t len x).toNatClampNeg = 0 := Decidable.of_not_not (fun z => c4.1 ⟨c4.2, z⟩)
    have hL := reF_L h.1 hre
    have eb2 : (ldV t len x).toNatClampNeg = b := by rw [eb]; exact nI_clamp (by omega)
    exact okP_mk (wf_ad h.1 (by rw [eb2]; exact hb) hL) ⟨T, (ad_2 _ _ _ _ _).trans e, hT⟩ (pv_ld4 h)
  · exact ok_W h (pv_ld4 h)
theorem pv_wh1 (h : okP len x) : pvP len (wh1 t len x) := by unfold wh1; exact pv_nu h.2.2
theorem pv_wh2 (h : okP len x) : pvP len (wh2 t len x) := by unfold wh2; exact pv_fc (by decide) (pv_wh1 h)
theorem zk_wh2 (h : pEk (wh2 t len x) = 0) : (¬ ((pEk (wh1 t len x)) = 0 ∧ ¬ whC (rG x) (whV t len x).toNatClampNeg)) ∧ pEk (wh1 t len x) = 0 := by
  unfold wh2 at h
  exact zk_fc (by decide) h
theorem wh_nat (h : okP len x) (c : pEk (wh1 t len x) = 0) : ∃ k, k < rL x ∧ whV t len x = nI k := by
  unfold wh1 at c
  unfold whV
  exact nu_wh h.1.2.2.2.2.1 h.1.2.2.2.2.2.1 c
theorem ok_wh (h : okP len x) : okP len (whL t len x) := by
  unfold whL; split
  · rename_i c
    obtain ⟨T, e, hT⟩ := h.2.1
    have hB := h.1.2.2.2.1
    exact okP_mk (wf_upd h.1 (by omega) (fun b hb => by omega) (fun j hj => by omega)) ⟨T, (upd_n (by omega)).trans e, hT⟩ (pv_wh2 h)
  · exact ok_W h (pv_wh2 h)
theorem pv_ht (h : okP len x) : pvP len (htP t len x) := by unfold htP; exact pv_nu h.2.2
theorem ht_nat (h : okP len x) {T : Nat} (hT : rG x 2 = nI T) (hT0 : T ≤ 9999) : ∃ k, k ≤ 99 ∧ T + k ≤ 9999 ∧ htV t len x = nI k := by
  unfold htV
  exact nu_ht hT hT0
theorem ok_ht (h : okP len x) : okP len (htL t len x) := by
  obtain ⟨T, e, hT⟩ := h.2.1
  obtain ⟨k, h1, h2, h3⟩ := ht_nat (t := t) h e hT
  have h4 : (htV t len x).toNatClampNeg = k := by rw [h3]; exact nI_clamp (by omega)
  unfold htL
  rw [h4]
  exact okP_mk (wf_pa _ _ h.1) ⟨T + k, pa_2 _ _ _ _ _ _ _ e, h2⟩ (pv_ht h)
theorem ok_ds (h : okP len x) : okP len (dsL t len x) := by
  unfold dsL; split
  · exact ok_st h
  split
  · exact ok_bo h
  split
  · exact ok_pm h
  split
  · exact ok_ld h
  split
  · exact ok_wh h
  split
  · exact ok_ht h
  · exact ok_W h (pv_fl 1 h.2.2 (by decide))
theorem ok_ln0 (h : okP len x) : okP len (ln0 t len x) := by
  unfold ln0
  exact ok_W h (pv_nx (pv_fc (by decide) h.2.2))
theorem ok_ln (h : okP len x) : okP len (lnL t len x) := by
  unfold lnL
  exact ok_W (ok_ds (ok_ln0 h)) (pv_nx (ok_ds (ok_ln0 h)).2.2)
theorem pv_pa0 {p : PS} (h : pvP len p) : pvP len (pa0 t len p) := by unfold pa0; exact pv_fc (by decide) (pv_nx h)
theorem ok_paH (h : okP len x) : okP len (paH t len x) := by
  obtain ⟨T, e, hT⟩ := h.2.1
  unfold paH pa2 pa1
  exact okP_mk (wf_upd (wf_upd h.1 (by omega) (fun b hb => by omega) (fun j hj => by omega)) (by omega) (fun b hb => by omega) (fun j hj => by omega)) ⟨T, (upd_n (by omega)).trans ((upd_n (by omega)).trans e), hT⟩ (pv_nx (pv_nu (pv_nu (pv_pa0 h.2.2))))
end OK
theorem ok_lo {t : Nat → Int32} {len : Nat} : ∀ (r : Nat) (x : PR), okP len x → okP len (loP t len r x)
  | 0, _, h => h
  | r + 1, x, h => by
    unfold loP; split
    · exact ok_lo r _ (ok_ln h)
    · exact h
theorem ok_paF {t : Nat → Int32} {len : Nat} {x : PR} (h : okP len x) : okP len (paF t len x) := by
  unfold paF
  exact ok_lo _ _ (ok_paH h)
