/-! ===== the model reads a text ===== -/
theorem yq_mk (w sl nz : Nat → Int32) (S B L P : Nat) (q : QS) : yq (w, sl, nz, S, B, L, P, q) = q := rfl
section TO
variable {t w sl nz : Nat → Int32} {len S B L P T : Nat} {p q : QS}
theorem to_er {kd : Nat} : qTo (erP kd p) = qTo p := by unfold erP; split <;> rfl
theorem to_mx : qTo p ≤ qTo (mxP t len p) := by
  have hs := skP_b t (len - qTo p) (qTo p)
  unfold mxP
  generalize skP t (len - qTo p) (qTo p) = s at hs
  have hl := lrP_b t (len - s) s
  have hd := drP_b t (len - s) s
  unfold mx1
  split
  · exact hs.1
  split
  · exact Nat.le_trans hs.1 hl.1
  split
  · exact Nat.le_trans hs.1 hd.1
  · exact Nat.le_trans hs.1 (Nat.le_succ _)
theorem to_mxs (h : qTo p ≤ len) (hk : ¬ qKd (mxP t len p) = 0) : qTo p < qTo (mxP t len p) := by
  have hs := skP_b t (len - qTo p) (qTo p)
  unfold mxP at hk ⊢
  generalize skP t (len - qTo p) (qTo p) = s at hs hk
  unfold mx1 at hk ⊢
  by_cases c1 : s = len
  · rw [if_pos c1] at hk; exact absurd rfl hk
  · rw [if_neg c1]
    have hr : ∃ r, len - s = r + 1 := ⟨len - s - 1, by omega⟩
    obtain ⟨r, hr⟩ := hr
    split
    · rename_i c2
      show qTo p < lrP t (len - s) s
      rw [hr, lrP_t c2]
      have := (lrP_b t r (s + 1)).1
      omega
    split
    · rename_i c3
      show qTo p < drP t (len - s) s
      rw [hr, drP_t c3]
      have := (drP_b t r (s + 1)).1
      omega
    · show qTo p < s + 1
      omega
theorem to_gn : qTo p ≤ qTo (gnP t len p) := by
  unfold gnP; split
  · exact to_mx
  · exact Nat.le_refl _
theorem to_h1 : qTo (he1 p) = qTo p := by
  unfold he1; split
  · exact to_er
  · rfl
theorem to_he {a b : Int32} : qTo (heQ a b p) = qTo p := by
  unfold heQ; split
  · exact to_er.trans to_h1
  · exact to_h1
theorem to_tn {a b : Int32} : qTo p ≤ qTo (tnQ t len a b p) := by
  unfold tnQ
  exact Nat.le_trans (Nat.le_of_eq to_he.symm) to_gn
theorem to_s1 : qTo (sp1 p) = qTo p := by
  unfold sp1; split
  · exact to_er
  · rfl
theorem to_t2 {v : Int32} : qTo (tk2 v p) = qTo p := by
  unfold tk2; split
  · exact to_er
  · rfl
theorem to_ts : qTo p ≤ qTo (tsQ t len w sl S p) := by
  unfold tsQ
  exact Nat.le_trans (Nat.le_of_eq (to_t2.trans to_s1).symm) to_gn
theorem to_tb : qTo p ≤ qTo (tbQ t len w sl B p) := by
  unfold tbQ
  exact Nat.le_trans (Nat.le_of_eq (to_t2.trans to_s1).symm) to_gn
theorem to_rsA : qTo q ≤ qTo (sp1 (mxP t len q)) := Nat.le_trans to_mx (Nat.le_of_eq to_s1.symm)
theorem to_rsB : qTo q ≤ qTo (rsB t len w sl S q) := by
  unfold rsB; split
  · exact Nat.le_trans to_rsA (Nat.le_of_eq to_er.symm)
  · exact to_rsA
theorem to_rbB : qTo q ≤ qTo (rbB t len w sl B q) := by
  unfold rbB; split
  · exact Nat.le_trans to_rsA (Nat.le_of_eq to_er.symm)
  · exact to_rsA
theorem to_rsD : qTo q ≤ qTo (rsD t len w sl S q) := by
  unfold rsD rsC
  exact Nat.le_trans to_rsB (Nat.le_trans to_gn (Nat.le_trans to_tn to_tn))
theorem yq_rs : yq (rsY t len w sl nz S B L P q) = if S = 8 then erP 5 q else rsD t len w sl S q := by
  unfold rsY; split
  · rw [yq_mk]
  split <;> rw [yq_mk]
theorem to_rs : qTo q ≤ qTo (yq (rsY t len w sl nz S B L P q)) := by
  rw [yq_rs]; split
  · exact Nat.le_of_eq to_er.symm
  · exact to_rsD
theorem to_rbF : qTo q ≤ qTo (rbF t len w sl S B q) := by
  unfold rbF rbE rbD rbC
  exact Nat.le_trans to_rbB (Nat.le_trans to_gn (Nat.le_trans to_ts (Nat.le_trans to_tn to_tn)))
theorem yq_rb : yq (rbY t len w sl nz S B L P q) = if B = 12 then erP 5 q else rbF t len w sl S B q := by
  unfold rbY; split
  · rw [yq_mk]
  split <;> rw [yq_mk]
theorem to_rb : qTo q ≤ qTo (yq (rbY t len w sl nz S B L P q)) := by
  rw [yq_rb]; split
  · exact Nat.le_of_eq to_er.symm
  · exact to_rbF
theorem to_pl {A : QS} {y m9 : Int32} (h : qTo q ≤ qTo A) : qTo q ≤ qTo (heQ 1 m9 (tnQ t len y (y + 48 - 1) A)) := Nat.le_trans h (Nat.le_trans to_tn (Nat.le_of_eq to_he.symm))
theorem to_rpD : qTo q ≤ qTo (rpD t len w sl S L P q) := by
  have h : qTo q ≤ qTo (rpC t len w sl S q) := by
    unfold rpC rpB rpA
    exact to_pl (Nat.le_trans to_mx to_ts)
  unfold rpD; split
  · exact Nat.le_trans h (Nat.le_of_eq to_er.symm)
  · exact h
theorem yq_rp : yq (rpY t len w sl nz S B L P q) = if P = 10 then erP 5 q else if qFl (rpD t len w sl S L P q) = 0 then mxP t len (rpD t len w sl S L P q) else rpD t len w sl S L P q := by
  unfold rpY; split
  · rw [yq_mk]
  split
  · rw [yq_mk]
  · rw [yq_mk]
theorem to_mxD {D : QS} (h : qTo q ≤ qTo D) : qTo q ≤ qTo (if qFl D = 0 then mxP t len D else D) := by
  split
  · exact Nat.le_trans h to_mx
  · exact h
theorem to_rp : qTo q ≤ qTo (yq (rpY t len w sl nz S B L P q)) := by
  rw [yq_rp]; split
  · exact Nat.le_of_eq to_er.symm
  · exact to_mxD to_rpD
theorem to_rlD : qTo q ≤ qTo (rlD t len w sl B L P q) := by
  have h : qTo q ≤ qTo (rlC t len w sl B q) := by
    unfold rlC rlB rlA
    exact to_pl (Nat.le_trans to_mx to_tb)
  unfold rlD; split
  · exact Nat.le_trans h (Nat.le_of_eq to_er.symm)
  · exact h
theorem yq_rl : yq (rlY t len w sl nz S B L P q) = if qFl (rlD t len w sl B L P q) = 0 then mxP t len (rlD t len w sl B L P q) else rlD t len w sl B L P q := by
  unfold rlY; split
  · rw [yq_mk]
  · rw [yq_mk]
theorem to_rl : qTo q ≤ qTo (yq (rlY t len w sl nz S B L P q)) := by
  rw [yq_rl]; exact to_mxD to_rlD
theorem to_rwB : qTo q ≤ qTo (rwB t len w q) := by
  have h : qTo q ≤ qTo (rwA t len w q) := by
    unfold rwA
    exact Nat.le_trans to_mx (Nat.le_of_eq to_he.symm)
  unfold rwB; split
  · exact Nat.le_trans h (Nat.le_of_eq to_er.symm)
  · exact h
theorem yq_rw : yq (rwY t len w sl nz S B L P q) = if qFl (rwB t len w q) = 0 then mxP t len (rwB t len w q) else rwB t len w q := by
  unfold rwY; split
  · rw [yq_mk]
  · rw [yq_mk]
theorem to_rw : qTo q ≤ qTo (yq (rwY t len w sl nz S B L P q)) := by
  rw [yq_rw]; exact to_mxD to_rwB
theorem yq_rh : yq (rhY t len w sl nz S B L P q) = rhA t len w q := by unfold rhY; rw [yq_mk]
theorem to_rh : qTo q ≤ qTo (yq (rhY t len w sl nz S B L P q)) := by
  rw [yq_rh]
  unfold rhA
  exact Nat.le_trans to_mx to_tn
theorem to_rn (h : qFl (yq (rnY t len w sl nz S B L P q)) = 0) : qKd q = 1 ∧ qTo q ≤ qTo (yq (rnY t len w sl nz S B L P q)) := by
  unfold rnY at h ⊢
  split
  · rename_i c; exact ⟨c.1, to_rs⟩
  split
  · rename_i c; exact ⟨c.1, to_rb⟩
  split
  · rename_i c; exact ⟨c.1, to_rp⟩
  split
  · rename_i c; exact ⟨c.1, to_rl⟩
  split
  · rename_i c; exact ⟨c.1, to_rw⟩
  split
  · rename_i c; exact ⟨c.1, to_rh⟩
  · rename_i c1 c2 c3 c4 c5 c6
    rw [if_neg c1, if_neg c2, if_neg c3, if_neg c4, if_neg c5, if_neg c6] at h
    exact absurd h (fl_er (by omega))
end TO
/-- what is kept from line to line -/
def okY (len : Nat) (y : YM) : Prop := (∃ T, T ≤ 9999 ∧ ok1 (yS y) (yB y) (yL y) (yP y) T (yw y)) ∧ qvP len (yq y)
theorem okY_mk {len S B L P T : Nat} {w sl nz : Nat → Int32} {q : QS} (hT : T ≤ 9999) (h : ok1 S B L P T w) (hq : qvP len q) : okY len (w, sl, nz, S, B, L, P, q) := ⟨⟨T, hT, h⟩, hq⟩
section OKY
variable {t w sl nz : Nat → Int32} {len S B L P T : Nat} {q : QS}
theorem qv_rsA (h : qvP len q) : qvP len (sp1 (mxP t len q)) := qv_s1 (qv_mx h)
theorem qv_rsB (h : qvP len q) : qvP len (rsB t len w sl S q) := by
  unfold rsB; split
  · exact qv_er (qv_rsA h) (by omega)
  · exact qv_rsA h
theorem qv_rbB (h : qvP len q) : qvP len (rbB t len w sl B q) := by
  unfold rbB; split
  · exact qv_er (qv_rsA h) (by omega)
  · exact qv_rsA h
theorem fl_rsY (hS : S ≤ 8) (hT : T ≤ 9999) (h : ok1 S B L P T w) (hq : qvP len q) : okY len (rsY t len w sl nz S B L P q) := by
  unfold rsY; split
  · exact okY_mk hT h (qv_er hq (by omega))
  split
  · exact okY_mk hT (ok_bd h (by omega)) (qv_tn (qv_tn (qv_gn (qv_rsB hq))))
  · exact okY_mk hT h (qv_tn (qv_tn (qv_gn (qv_rsB hq))))
theorem fl_rbY (hB : B ≤ 12) (hT : T ≤ 9999) (h : ok1 S B L P T w) (hq : qvP len q) : okY len (rbY t len w sl nz S B L P q) := by
  have hS := h.1.2.1
  unfold rbY; split
  · exact okY_mk hT h (qv_er hq (by omega))
  split
  · rename_i c
    obtain ⟨k, hk, ek⟩ := rb_nat (t := t) (len := len) (w := w) (sl := sl) (S := S) (B := B) (q := q) hS c
    exact okY_mk hT (ok_cm h (by omega) hk ek) (qv_tn (qv_tn (qv_ts (qv_gn (qv_rbB hq)))))
  · exact okY_mk hT h (qv_tn (qv_tn (qv_ts (qv_gn (qv_rbB hq)))))
theorem qv_rpD (h : qvP len q) : qvP len (rpD t len w sl S L P q) := by
  have hC : qvP len (rpC t len w sl S q) := by
    unfold rpC rpB rpA
    exact qv_he (qv_tn (qv_ts (qv_mx h)))
  unfold rpD; split
  · exact qv_er hC (by omega)
  · exact hC
theorem fl_rpY (hP : P ≤ 10) (hT : T ≤ 9999) (h : ok1 S B L P T w) (hq : qvP len q) : okY len (rpY t len w sl nz S B L P q) := by
  unfold rpY; split
  · exact okY_mk hT h (qv_er hq (by omega))
  split
  · exact okY_mk hT (ok_ap2 h (by omega)) (qv_mx (qv_rpD hq))
  · exact okY_mk hT h (qv_rpD hq)
theorem qv_rlD (h : qvP len q) : qvP len (rlD t len w sl B L P q) := by
  have hC : qvP len (rlC t len w sl B q) := by
    unfold rlC rlB rlA
    exact qv_he (qv_tn (qv_tb (qv_mx h)))
  unfold rlD; split
  · exact qv_er hC (by omega)
  · exact hC
theorem fl_rlY (hT : T ≤ 9999) (h : ok1 S B L P T w) (hq : qvP len q) : okY len (rlY t len w sl nz S B L P q) := by
  have hB := h.1.2.2.2.1
  unfold rlY; split
  · rename_i c
    have hz := zk_rl c
    obtain ⟨b, s, n, hb, h1, h2, h3, h4, eb, es, en⟩ := rl_nat (t := t) (len := len) (w := w) (sl := sl) (B := B) (T := T) (q := q) hB h.2.2 hT hz.1
    have ebc : (rlV t len w sl B q).toNatClampNeg = b := by rw [eb]; exact nI_clamp (by omega)
    have hL := reF_L h.1 hz.2
    exact okY_mk hT (ok_ad2 h (by rw [ebc]; exact hb) hL) (qv_mx (qv_rlD hq))
  · exact okY_mk hT h (qv_rlD hq)
theorem qv_rwB (h : qvP len q) : qvP len (rwB t len w q) := by
  have hC : qvP len (rwA t len w q) := by
    unfold rwA
    exact qv_he (qv_mx h)
  unfold rwB; split
  · exact qv_er hC (by omega)
  · exact hC
theorem fl_rwY (hT : T ≤ 9999) (h : ok1 S B L P T w) (hq : qvP len q) : okY len (rwY t len w sl nz S B L P q) := by
  have hL := h.1.2.2.2.2.2.1
  unfold rwY; split
  · rename_i c
    have hz := zk_rw c
    obtain ⟨k, hk, ek⟩ := rw_nat (t := t) (len := len) (w := w) (L := L) (q := q) h.1.2.2.2.2.1 hL hz.1
    have ekc : (rwV t len w q).toNatClampNeg = k := by rw [ek]; exact nI_clamp (by omega)
    exact okY_mk hT (ok_ws2 h (by rw [ekc]; exact hk)) (qv_mx (qv_rwB hq))
  · exact okY_mk hT h (qv_rwB hq)
theorem fl_rhY (hT : T ≤ 9999) (h : ok1 S B L P T w) (hq : qvP len q) : okY len (rhY t len w sl nz S B L P q) := by
  have hr := (rh_nat (t := t) (len := len) (w := w) (T := T) (q := q) h.2.2 hT).1
  unfold rhY
  exact okY_mk hr (ok_pS _ _ (w, nz) h) (qv_tn (qv_mx hq))
theorem fl_rnY (hT : T ≤ 9999) (h : ok1 S B L P T w) (hq : qvP len q) : okY len (rnY t len w sl nz S B L P q) := by
  unfold rnY
  split
  · exact fl_rsY h.1.2.1 hT h hq
  split
  · exact fl_rbY h.1.2.2.2.1 hT h hq
  split
  · exact fl_rpY h.1.2.2.2.2.2.2.2.1 hT h hq
  split
  · exact fl_rlY hT h hq
  split
  · exact fl_rwY hT h hq
  split
  · exact fl_rhY hT h hq
  · exact okY_mk hT h (qv_er hq (by omega))
end OKY
theorem fl_ltY {t : Nat → Int32} {len : Nat} {y : YM} (h : okY len y) : okY len (ltY t len y) := by
  obtain ⟨⟨T, hT, hO⟩, hq⟩ := h
  unfold ltY; split
  · exact fl_rnY hT hO (qv_mx hq)
  · exact okY_mk hT hO (qv_er hq (by omega))
/-- a line goes on in the text -/
theorem to_lt {t : Nat → Int32} {len : Nat} {y : YM} (h : okY len y) (hf : qFl (yq (ltY t len y)) = 0) : qTo (yq y) < qTo (yq (ltY t len y)) := by
  have h2 := h.2.2.1
  unfold ltY at hf ⊢
  by_cases c : qKd (yq y) = 3
  · rw [if_pos c] at hf ⊢
    obtain ⟨h3, h4⟩ := to_rn hf
    exact Nat.lt_of_lt_of_le (to_mxs h2 (by rw [h3]; decide)) h4
  · rw [if_neg c] at hf
    exact absurd hf (fl_er (by omega))
theorem lo_y0 {t : Nat → Int32} {len : Nat} {y : YM} (h : ¬ (qFl (yq y) = 0 ∧ ¬ qKd (yq y) = 0)) : ∀ r, loY t len r y = y
  | 0 => rfl
  | r + 1 => if_neg h
theorem lo_y1 {t : Nat → Int32} {len r : Nat} {y : YM} (h : qFl (yq y) = 0 ∧ ¬ qKd (yq y) = 0) : loY t len (r + 1) y = loY t len r (ltY t len y) := if_pos h
theorem qw_mx {t : Nat → Int32} {len : Nat} {p : QS} (h : qwP len p) : qvP len (mxP t len p) := by
  have e : mxP t len p = mxP t len (qKd p, qTo p, qTo p, qVa p, qFl p, qFa p) := rfl
  rw [e]
  exact qv_mx ⟨Nat.le_refl _, h⟩
abbrev zrW (w : Nat → Int32) (k : Nat) : Nat → Int32 := cq w (fun _ => 0) 0 k
def tx0 (p : QS) : QS := (0, qFr p, 0, qVa p, 0, qFa p)
def txB (t : Nat → Int32) (len : Nat) (p : QS) : QS := if keP t 0 (mxP t len (tx0 p)) then mxP t len (mxP t len (tx0 p)) else erP 1 (mxP t len (tx0 p))
def txW (t : Nat → Int32) (len : Nat) (w : Nat → Int32) (p : QS) : Nat → Int32 := upd (upd (zrW w 411) 0 (heV 1 24 (txB t len p))) 1 (heV 0 99 (tnQ t len 1 24 (txB t len p)))
def txQ (t : Nat → Int32) (len : Nat) (p : QS) : QS := tnQ t len 0 99 (tnQ t len 1 24 (txB t len p))
def txI (t : Nat → Int32) (len : Nat) (w sl nz : Nat → Int32) (p : QS) : YM := (txW t len w p, sl, nz, 0, 0, 0, 0, txQ t len p)
/-- what the model makes of a text -/
def txY (t : Nat → Int32) (len : Nat) (w sl nz : Nat → Int32) (p : QS) : YM := loY t len (len + 1) (txI t len w sl nz p)
theorem qv_txB {t : Nat → Int32} {len : Nat} {p : QS} : qvP len (txB t len p) := by
  have h : qvP len (mxP t len (tx0 p)) := qw_mx ⟨Nat.zero_le _, by show 0 ≤ 4; omega, by show 0 ≤ 6; omega⟩
  unfold txB; split
  · exact qv_mx h
  · exact qv_er h (by omega)
theorem ok_txI {t : Nat → Int32} {len : Nat} {w sl nz : Nat → Int32} {p : QS} : okY len (txI t len w sl nz p) := by
  have z : ∀ j, j < 411 → zrW w 411 j = 0 := fun j hj => by
    have := cq_i (d := w) (s := fun _ => 0) (o := 0) hj
    rwa [Nat.zero_add] at this
  have hw : ok1 0 0 0 0 0 (zrW w 411) := ⟨⟨z _ (by omega), by omega, z _ (by omega), by omega, z _ (by omega), by omega, z _ (by omega), by omega, fun b hb => by omega, fun k hk => by omega⟩, ⟨fun k hk => by rw [z _ (by omega)]; decide, fun k hk => by rw [z _ (by omega)]; decide⟩, z _ (by omega)⟩
  unfold txI txW
  refine okY_mk (T := 0) (by omega) ⟨wf_upd (wf_upd hw.1 (by omega) (fun b hb => by omega) (fun j hj => by omega)) (by omega) (fun b hb => by omega) (fun j hj => by omega), wz_upd (wz_upd hw.2.1 (by omega)) (by omega), by rw [upd_n (by omega), upd_n (by omega)]; exact hw.2.2⟩ ?_
  unfold txQ
  exact qv_tn (qv_tn qv_txB)
theorem ok_loY {t : Nat → Int32} {len : Nat} : ∀ (r : Nat) (y : YM), okY len y → okY len (loY t len r y)
  | 0, _, h => h
  | r + 1, y, h => by
    unfold loY; split
    · exact ok_loY r _ (fl_ltY h)
    · exact h
theorem ok_txY {t : Nat → Int32} {len : Nat} {w sl nz : Nat → Int32} {p : QS} : okY len (txY t len w sl nz p) := ok_loY _ _ ok_txI
theorem pqF_u {F : Nat → Int32} {p : QS} {i : Nat} {v : Int32} (hi : i < 8) : upd (pqF F p) i v = pqF (upd F i v) p := by
  funext j
  by_cases h : j = i
  · subst h; rw [upd_s]; unfold pqF; rw [if_neg (by omega), if_neg (by omega), if_neg (by omega), if_neg (by omega), if_neg (by omega), if_neg (by omega), upd_s]
  · rw [upd_n h]; unfold pqF
    rw [upd_n h]
theorem pqF_r {F : Nat → Int32} {p : QS} {i : Nat} (hi : i < 8) : pqF F p i = F i := by
  unfold pqF; rw [if_neg (by omega), if_neg (by omega), if_neg (by omega), if_neg (by omega), if_neg (by omega), if_neg (by omega)]
-- bytes
def m8 (x s : Int32) : Int32 := vp_nar .byte ((x >>> (s &&& 31)).toInt8.toInt32)
def feW (ip : Nat → Int32) (k : Nat) (x : Int32) : Nat → Int32 := upd (upd (upd (upd ip k (m8 x 24)) (k + 1) (m8 x 16)) (k + 2) (m8 x 8)) (k + 3) (vp_nar .byte (x.toInt8.toInt32))
