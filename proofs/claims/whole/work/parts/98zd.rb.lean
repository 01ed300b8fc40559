/-! ===== the bureau's reader beside the model's ===== -/
theorem ru_l {t : Nat → Int32} {q : Prop} [Decidable q] (hq : q) : ∀ r k, ruP t q r k = lrP t r k
  | 0, _ => rfl
  | r + 1, k => by
    by_cases c : ltP (t k)
    · rw [ruP_t ⟨fun _ => c, fun z => absurd hq z⟩, lrP_t c, ru_l hq r (k + 1)]
    · rw [ruP_f (fun z => c (z.1 hq)), lrP_f c]
theorem ru_d {t : Nat → Int32} {q : Prop} [Decidable q] (hq : ¬ q) : ∀ r k, ruP t q r k = drP t r k
  | 0, _ => rfl
  | r + 1, k => by
    by_cases c : dgP (t k)
    · rw [ruP_t ⟨fun z => absurd z hq, fun _ => c⟩, drP_t c, ru_d hq r (k + 1)]
    · rw [ruP_f (fun z => c (z.2 hq)), drP_f c]
theorem lr_all {t : Nat → Int32} : ∀ r k i, k ≤ i → i < lrP t r k → ltP (t i)
  | 0, k, i, h1, h2 => by have e : lrP t 0 k = k := rfl; omega
  | r + 1, k, i, h1, h2 => by
    by_cases c : ltP (t k)
    · rw [lrP_t c] at h2
      by_cases e : i = k
      · subst e; exact c
      · exact lr_all r (k + 1) i (by omega) h2
    · rw [lrP_f c] at h2; omega
theorem dv_va {t : Nat → Int32} {fr : Nat} : ∀ r k v, fr ≤ k → drP t r k - fr ≤ 4 → dvP t fr r k v = vaP t (drP t r k - k) k v
  | 0, k, v, _, _ => by
    have e : drP t 0 k = k := rfl
    rw [e, Nat.sub_self]; rfl
  | r + 1, k, v, h1, h2 => by
    by_cases c : dgP (t k)
    · rw [drP_t c] at h2 ⊢
      have b := (drP_b t r (k + 1)).1
      rw [dvP_a c (by omega), dv_va r (k + 1) _ (by omega) h2]
      obtain ⟨d, hd⟩ : ∃ d, drP t r (k + 1) = k + 1 + d := ⟨drP t r (k + 1) - (k + 1), by omega⟩
      rw [hd, show k + 1 + d - (k + 1) = d by omega, show k + 1 + d - k = d + 1 by omega]
      rfl
    · rw [dvP_f c, drP_f c, Nat.sub_self]; rfl
theorem lt_ndg {x : Int32} (h : ltP x) : ¬ x = 59 := by
  intro e; subst e; exact absurd h (by decide)
section RBP
variable {t : Nat → Int32} {len : Nat} {p : PS} {q : QS}
def tokR (t : Nat → Int32) (p : PS) (q : QS) : Prop := pTs p = qFr q ∧ ((pTk p = 4 ∧ qKd q = 0 ∧ pAt p = qTo q) ∨ (pTk p = 3 ∧ qKd q = 3 ∧ pAt p = qTo q) ∨ (pTk p = 1 ∧ qKd q = 1 ∧ pAt p = qTo q ∧ pTs p < pAt p ∧ ∀ i, pTs p ≤ i → i < pAt p → ltP (t i)) ∨ (pTk p = 2 ∧ qKd q = 2 ∧ pAt p = qTo q ∧ pAt p - pTs p ≤ 4 ∧ qVa q = vaP t (pAt p - pTs p) (pTs p) 0) ∨ (qKd q = 4 ∧ (pTk p = 0 ∨ (pTk p = 2 ∧ 4 < pAt p - pTs p))))
/-- both at one token -/
def RB (t : Nat → Int32) (len : Nat) (p : PS) (q : QS) : Prop := pvP len p ∧ qFl q = pEk p ∧ (pEk p = 0 → pEo p = -1 ∧ tokR t p q) ∧ (¬ pEk p = 0 → pEo p = qFa q)
/-- .. and it may be passed -/
def RK (t : Nat → Int32) (len : Nat) (p : PS) (q : QS) : Prop := RB t len p q ∧ (pEk p = 0 → qKd q = 1 ∨ qKd q = 2 ∨ qKd q = 3)
theorem fl_id {kd : Nat} (h : ¬ pEk p = 0) : flP kd p = p := if_neg h
theorem er_id {kd : Nat} (h : ¬ qFl q = 0) : erP kd q = q := if_neg h
theorem rb_fl {kd : Nat} (h : RB t len p q) (hk : 0 < kd) (hk6 : kd ≤ 6) : RB t len (flP kd p) (erP kd q) := by
  obtain ⟨h1, h2, h3, h4⟩ := h
  by_cases c : pEk p = 0
  · have e1 : flP kd p = (pAt p, pTk p, pTs p, kd, nI (pTs p)) := if_pos c
    have e2 : erP kd q = (qKd q, qFr q, qTo q, qVa q, kd, nI (qFr q)) := if_pos (h2.trans c)
    refine ⟨pv_fl kd h1 hk6, ?_⟩
    rw [e1, e2]
    refine ⟨rfl, fun z => absurd z (by show ¬ kd = 0; omega), fun _ => ?_⟩
    show nI (pTs p) = nI (qFr q)
    rw [(h3 c).2.1]
  · rw [fl_id c, er_id (by rw [h2]; exact c)]
    exact ⟨h1, h2, h3, h4⟩
theorem rb_kd (h : RB t len p q) (hz : pEk p = 0) : (pTk p = 1 → qKd q = 1) ∧ (pTk p = 3 ↔ qKd q = 3) ∧ (pTk p = 4 ↔ qKd q = 0) ∧ (qKd q = 1 → pTk p = 1) := by
  obtain ⟨-, -, h3, -⟩ := h
  obtain ⟨-, -, z⟩ := h3 hz
  rcases z with z | z | z | z | z <;> omega
theorem rk_sc (h : RB t len p q) (h3 : pEk p = 0 → pTk p = 3) : RK t len p q := ⟨h, fun hz => Or.inr (Or.inr ((rb_kd h hz).2.1.mp (h3 hz)))⟩
theorem rk_wd (h : RB t len p q) (h3 : pEk p = 0 → pTk p = 1) : RK t len p q := ⟨h, fun hz => Or.inl ((rb_kd h hz).1 (h3 hz))⟩
theorem nx_id (c : ¬ pEk p = 0) : nxP t len p = p := if_pos c
theorem nx_ek : pEk (nxP t len p) = pEk p := by
  unfold nxP
  split
  · rfl
  split
  · rfl
  split <;> rfl
theorem rb_nx0 (h1 : pvP len p) (h2 : qFl q = pEk p) (c : pEk p = 0) (ho : pEo p = -1) (hat : pAt p = qTo q ∧ ((pTk p = 1 ∨ pTk p = 2) ↔ (qKd q = 1 ∨ qKd q = 2))) : RB t len (nxP t len p) (mxP t len q) := by
    have pvn := pv_nx (t := t) h1
    have hb := sk0_b (t := t) h1
    have hs : skP t (len - qTo q) (qTo q) = sk0 t len p := by unfold sk0; rw [hat.1]
    unfold mxP
    rw [hs]
    generalize hkk : sk0 t len p = k at hb
    by_cases hl : k < len
    · have m1 : ¬ k = len := by omega
      by_cases h59 : t k = 59
      · have e := nx_semi c hkk hl h59
        rw [← e] at pvn ⊢
        have em : mx1 t len q k = (3, k, k + 1, qVa q, qFl q, qFa q) := by
          unfold mx1
          rw [if_neg m1, if_neg (by rw [h59]; decide), if_neg (by rw [h59]; decide), if_pos h59]
        rw [em]
        exact ⟨pvn, h2, fun _ => ⟨ho, rfl, Or.inr (Or.inl ⟨rfl, rfl, rfl⟩)⟩, fun z => absurd c z⟩
      · have hsub : ∃ r, len - k = r + 1 := ⟨len - k - 1, by omega⟩
        obtain ⟨r, hr⟩ := hsub
        have gl : glP q k ↔ ((pTk p = 1 ∨ pTk p = 2) ∧ k = pAt p) := by
          show ((qKd q = 1 ∨ qKd q = 2) ∧ k = qTo q) ↔ _
          rw [hat.2, hat.1]
        by_cases cl : ltP (t k)
        · have ej : ru0 t len k = lrP t (len - k) k := ru_l cl _ _
          have hj : k < lrP t (len - k) k := by
            rw [hr, lrP_t cl]
            have := (lrP_b t r (k + 1)).1
            omega
          have all := lr_all (t := t) (len - k) k
          generalize lrP t (len - k) k = j at ej hj all
          have em : mx1 t len q k = (if glP q k then 4 else 1, k, lrP t (len - k) k, qVa q, qFl q, qFa q) := by
            unfold mx1
            rw [if_neg m1, if_pos cl]
          have ej2 : lrP t (len - k) k = j := (ru_l (t := t) cl _ _).symm.trans ej
          rw [em, ej2]
          by_cases g : glP q k
          · have e := nx_run (v := 0) c hkk hl h59 ej (by rw [if_pos (Or.inr (gl.mp g))])
            rw [← e] at pvn ⊢
            rw [if_pos g]
            exact ⟨pvn, h2, fun _ => ⟨ho, rfl, Or.inr (Or.inr (Or.inr (Or.inr ⟨rfl, Or.inl rfl⟩)))⟩, fun z => absurd c z⟩
          · have e := nx_run (v := 1) c hkk hl h59 ej (by
              rw [if_neg (fun z => z.elim (fun z => by omega) (fun z => g (gl.mpr z))), if_pos cl])
            rw [← e] at pvn ⊢
            rw [if_neg g]
            exact ⟨pvn, h2, fun _ => ⟨ho, rfl, Or.inr (Or.inr (Or.inl ⟨rfl, rfl, rfl, hj, all⟩))⟩, fun z => absurd c z⟩
        · by_cases cd : dgP (t k)
          · have ej : ru0 t len k = drP t (len - k) k := ru_d cl _ _
            have hj : k < drP t (len - k) k := by
              rw [hr, drP_t cd]
              have := (drP_b t r (k + 1)).1
              omega
            have hv := dv_va (t := t) (fr := k) (len - k) k 0 (Nat.le_refl _)
            have em : mx1 t len q k = (if glP q k ∨ 4 < drP t (len - k) k - k then 4 else 2, k, drP t (len - k) k, dvP t k (len - k) k 0, qFl q, qFa q) := by
              unfold mx1
              rw [if_neg m1, if_neg cl, if_pos cd]
            rw [em]
            generalize drP t (len - k) k = j at ej hj hv
            by_cases g : glP q k
            · have e := nx_run (v := 0) c hkk hl h59 ej (by rw [if_pos (Or.inr (gl.mp g))])
              rw [← e] at pvn ⊢
              rw [if_pos (Or.inl g)]
              exact ⟨pvn, h2, fun _ => ⟨ho, rfl, Or.inr (Or.inr (Or.inr (Or.inr ⟨rfl, Or.inl rfl⟩)))⟩, fun z => absurd c z⟩
            · have e := nx_run (v := 2) c hkk hl h59 ej (by
                rw [if_neg (fun z => z.elim (fun z => by omega) (fun z => g (gl.mpr z))), if_neg cl])
              rw [← e] at pvn ⊢
              by_cases g4 : 4 < j - k
              · rw [if_pos (Or.inr g4)]
                exact ⟨pvn, h2, fun _ => ⟨ho, rfl, Or.inr (Or.inr (Or.inr (Or.inr ⟨rfl, Or.inr ⟨rfl, g4⟩⟩)))⟩, fun z => absurd c z⟩
              · rw [if_neg (fun z => z.elim g g4)]
                exact ⟨pvn, h2, fun _ => ⟨ho, rfl, Or.inr (Or.inr (Or.inr (Or.inl ⟨rfl, rfl, rfl, Nat.not_lt.mp g4, hv (Nat.not_lt.mp g4)⟩)))⟩, fun z => absurd c z⟩
          · have ej : ru0 t len k = k := by
              unfold ru0
              rw [hr]
              exact ruP_f (fun z => cd (z.2 cl))
            have e := nx_run (v := 0) c hkk hl h59 ej (by rw [if_pos (Or.inl rfl)])
            rw [← e] at pvn ⊢
            have em : mx1 t len q k = (4, k, k + 1, qVa q, qFl q, qFa q) := by
              unfold mx1
              rw [if_neg m1, if_neg cl, if_neg cd, if_neg h59]
            rw [em]
            exact ⟨pvn, h2, fun _ => ⟨ho, rfl, Or.inr (Or.inr (Or.inr (Or.inr ⟨rfl, Or.inl rfl⟩)))⟩, fun z => absurd c z⟩
    · have m1 : k = len := by omega
      have e := nx_end c hkk hl
      rw [← e] at pvn ⊢
      have em : mx1 t len q k = (0, k, k, qVa q, qFl q, qFa q) := by
        unfold mx1
        rw [if_pos m1]
      rw [em]
      exact ⟨pvn, h2, fun _ => ⟨ho, rfl, Or.inl ⟨rfl, rfl, rfl⟩⟩, fun z => absurd c z⟩
theorem rb_nx (h : RK t len p q) : RB t len (nxP t len p) (gnP t len q) := by
  obtain ⟨⟨h1, h2, h3, h4⟩, hk⟩ := h
  by_cases c : pEk p = 0
  · have hk := hk c
    obtain ⟨ho, hts, htk⟩ := h3 c
    have hat : pAt p = qTo q ∧ ((pTk p = 1 ∨ pTk p = 2) ↔ (qKd q = 1 ∨ qKd q = 2)) := by
      rcases htk with z | z | z | z | z <;> omega
    have eg : gnP t len q = mxP t len q := if_pos (h2.trans c)
    rw [eg]
    exact rb_nx0 h1 h2 c ho hat
  · have eg : gnP t len q = q := if_neg (by rw [h2]; exact c)
    rw [nx_id c, eg]
    exact ⟨h1, h2, h3, h4⟩
theorem rb_nx1 (h : RK t len p q) (hz : pEk p = 0) : RB t len (nxP t len p) (mxP t len q) := by
  have e := rb_nx h
  have eg : gnP t len q = mxP t len q := if_pos (h.1.2.1.trans hz)
  rw [eg] at e
  exact e
end RBP
