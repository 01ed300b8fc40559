/-! ===== the model's lines ===== -/
abbrev YM := (Nat → Int32) × (Nat → Int32) × (Nat → Int32) × Nat × Nat × Nat × Nat × QS
abbrev yw (y : YM) : Nat → Int32 := y.1
abbrev ysl (y : YM) : Nat → Int32 := y.2.1
abbrev ynz (y : YM) : Nat → Int32 := y.2.2.1
abbrev yS (y : YM) : Nat := y.2.2.2.1
abbrev yB (y : YM) : Nat := y.2.2.2.2.1
abbrev yL (y : YM) : Nat := y.2.2.2.2.2.1
abbrev yP (y : YM) : Nat := y.2.2.2.2.2.2.1
abbrev yq (y : YM) : QS := y.2.2.2.2.2.2.2
abbrev ymM (tb : Nat → ClassId) (mo : Nat) (F av od sv ip ot : Nat → Int32) (M0 : me_M) (y : YM) : me_M := mq tb mo (pqF F (yq y)) (yw y) av od sv (ysl y) (ynz y) ip ot M0
theorem ym_e {tb : Nat → ClassId} {mo : Nat} {F w av od sv sl nz ip ot : Nat → Int32} {M0 : me_M} {S B L P : Nat} {q : QS} {y : YM} (e : (w, sl, nz, S, B, L, P, q) = y) : mq tb mo (pqF F q) w av od sv sl nz ip ot M0 = ymM tb mo F av od sv ip ot M0 y := by rw [← e]
section DEFS
variable (t : Nat → Int32) (len : Nat) (w sl nz : Nat → Int32) (S B L P : Nat) (q : QS)
-- a street
abbrev rsA : QS := sp1 (mxP t len q)
abbrev rsS : Nat → Int32 := slN t sl (rsA t len q)
def rsB : QS := if qFl (rsA t len q) = 0 ∧ ¬ ssF w (rsS t len sl q) S = -1 then erP 4 (rsA t len q) else rsA t len q
abbrev rsC : QS := tnQ t len 0 99 (gnP t len (rsB t len w sl S q))
abbrev rsD : QS := tnQ t len 0 99 (rsC t len w sl S q)
def rsY : YM := if S = 8 then (w, sl, nz, S, B, L, P, erP 5 q) else if qFl (rsD t len w sl S q) = 0 then (bdW w (rsS t len sl q) S (heV 0 99 (gnP t len (rsB t len w sl S q))) (heV 0 99 (rsC t len w sl S q)), rsS t len sl q, nz, S + 1, B, L, P, rsD t len w sl S q) else (w, rsS t len sl q, nz, S, B, L, P, rsD t len w sl S q)
-- a borrower
def rbB : QS := if qFl (rsA t len q) = 0 ∧ ¬ bsF' w (rsS t len sl q) B = -1 then erP 4 (rsA t len q) else rsA t len q
abbrev rbC : QS := gnP t len (rbB t len w sl B q)
abbrev rbD : QS := tsQ t len w (rsS t len sl q) S (rbC t len w sl B q)
abbrev rbT : Nat → Int32 := slN t (rsS t len sl q) (sp1 (rbC t len w sl B q))
abbrev rbE : QS := tnQ t len 0 9 (rbD t len w sl S B q)
abbrev rbF : QS := tnQ t len 0 999 (rbE t len w sl S B q)
abbrev rbU : Nat → Int32 := cq (rbT t len w sl B q) (slF t (rbB t len w sl B q)) 0 6
def rbY : YM := if B = 12 then (w, sl, nz, S, B, L, P, erP 5 q) else if qFl (rbF t len w sl S B q) = 0 then (cmW w (rbU t len w sl B q) B (tsR t len w (rsS t len sl q) S (rbC t len w sl B q)) (heV 0 9 (rbD t len w sl S B q)) (heV 0 999 (rbE t len w sl S B q)), rbU t len w sl B q, nz, S, B + 1, L, P, rbF t len w sl S B q) else (w, rbT t len w sl B q, nz, S, B, L, P, rbF t len w sl S B q)
-- a permit
abbrev rpA : QS := tsQ t len w sl S (mxP t len q)
abbrev rpV : Int32 := tsR t len w sl S (mxP t len q)
abbrev rpB : QS := tnQ t len (w 2) (w 2 + 48 - 1) (rpA t len w sl S q)
abbrev rpT : Int32 := heV (w 2) (w 2 + 48 - 1) (rpA t len w sl S q)
abbrev rpC : QS := heQ 1 (mnF 12 (w 2 + 48 - rpT t len w sl S q)) (rpB t len w sl S q)
abbrev rpN : Int32 := heV 1 (mnF 12 (w 2 + 48 - rpT t len w sl S q)) (rpB t len w sl S q)
def rpD : QS := if qFl (rpC t len w sl S q) = 0 ∧ ¬ (fi (fun k => cpP w L (rpV t len w sl S q) (rpT t len w sl S q) (rpN t len w sl S q) k) L 0 = -1 ∧ P < 10) then erP 6 (rpC t len w sl S q) else rpC t len w sl S q
def rpY : YM := if P = 10 then (w, sl, nz, S, B, L, P, erP 5 q) else if qFl (rpD t len w sl S L P q) = 0 then (apF w P (rpV t len w sl S q) (rpT t len w sl S q) (rpN t len w sl S q), rsS t len sl q, nz, S, B, L, P + 1, mxP t len (rpD t len w sl S L P q)) else (w, rsS t len sl q, nz, S, B, L, P, rpD t len w sl S L P q)
-- a loan
abbrev rlA : QS := tbQ t len w sl B (mxP t len q)
abbrev rlV : Int32 := tbR t len w sl B (mxP t len q)
abbrev rlB : QS := tnQ t len (w 2) (w 2 + 48 - 1) (rlA t len w sl B q)
abbrev rlT : Int32 := heV (w 2) (w 2 + 48 - 1) (rlA t len w sl B q)
abbrev rlC : QS := heQ 1 (mnF 6 (w 2 + 48 - rlT t len w sl B q)) (rlB t len w sl B q)
abbrev rlN : Int32 := heV 1 (mnF 6 (w 2 + 48 - rlT t len w sl B q)) (rlB t len w sl B q)
def rlD : QS := if qFl (rlC t len w sl B q) = 0 ∧ ¬ reF w L P (rlV t len w sl B q).toNatClampNeg (rlT t len w sl B q).toNatClampNeg (rlN t len w sl B q).toNatClampNeg = 0 then erP 6 (rlC t len w sl B q) else rlC t len w sl B q
def rlY : YM := if qFl (rlD t len w sl B L P q) = 0 then (adF w L (rlV t len w sl B q).toNatClampNeg (rlT t len w sl B q).toNatClampNeg (rlN t len w sl B q).toNatClampNeg, rsS t len sl q, nz, S, B, L + 1, P, mxP t len (rlD t len w sl B L P q)) else (w, rsS t len sl q, nz, S, B, L, P, rlD t len w sl B L P q)
-- a whistle
abbrev rwA : QS := heQ 0 (w 6 - 1) (mxP t len q)
abbrev rwV : Int32 := heV 0 (w 6 - 1) (mxP t len q)
def rwB : QS := if qFl (rwA t len w q) = 0 ∧ ¬ whC w (rwV t len w q).toNatClampNeg then erP 6 (rwA t len w q) else rwA t len w q
def rwY : YM := if qFl (rwB t len w q) = 0 then (wsG (rwV t len w q).toNatClampNeg w, sl, nz, S, B, L, P, mxP t len (rwB t len w q)) else (w, sl, nz, S, B, L, P, rwB t len w q)
-- hours
abbrev rhA : QS := tnQ t len 1 (mnF 99 (9999 - w 2)) (mxP t len q)
abbrev rhV : Int32 := heV 1 (mnF 99 (9999 - w 2)) (mxP t len q)
def rhN : Nat := if qFl (rhA t len w q) = 0 then (rhV t len w q).toNatClampNeg else 0
def rhY : YM := ((mpS S B L P (rhN t len w q) (w, nz)).1, sl, (mpS S B L P (rhN t len w q) (w, nz)).2, S, B, L, P, rhA t len w q)
end DEFS
-- a line, a text
def rnY (t : Nat → Int32) (len : Nat) (w sl nz : Nat → Int32) (S B L P : Nat) (q : QS) : YM :=
  if keP t 1 q then rsY t len w sl nz S B L P q else if keP t 2 q then rbY t len w sl nz S B L P q else if keP t 3 q then rpY t len w sl nz S B L P q else if keP t 4 q then rlY t len w sl nz S B L P q else if keP t 5 q then rwY t len w sl nz S B L P q else if keP t 6 q then rhY t len w sl nz S B L P q else (w, sl, nz, S, B, L, P, erP 1 q)
def ltY (t : Nat → Int32) (len : Nat) (y : YM) : YM := if qKd (yq y) = 3 then rnY t len (yw y) (ysl y) (ynz y) (yS y) (yB y) (yL y) (yP y) (mxP t len (yq y)) else (yw y, ysl y, ynz y, yS y, yB y, yL y, yP y, erP 1 (yq y))
def loY (t : Nat → Int32) (len : Nat) : Nat → YM → YM
  | 0, y => y
  | r + 1, y => if qFl (yq y) = 0 ∧ ¬ qKd (yq y) = 0 then loY t len r (ltY t len y) else y
-- what is kept
theorem wf_cq {g sl : Nat → Int32} {S B L P o : Nat} (h : wf g S B L P) (ho : (9 ≤ o ∧ o + 6 ≤ 89) ∨ (∃ b, b < 12 ∧ o = 89 + 11 * b + 5)) : wf (cq g sl o 6) S B L P := by
  obtain ⟨a1, a2, a3, a4, a5, a6, a7, a8, a9, a10⟩ := h
  have n : ∀ j, j < 9 ∨ (∃ b, b < 12 ∧ j = 89 + 11 * b) ∨ 261 ≤ j → cq g sl o 6 j = g j := fun j hj => by
    apply cq_n
    rcases hj with hj | ⟨b, hb, rfl⟩ | hj <;> rcases ho with ho | ⟨b2, hb2, rfl⟩ <;> omega
  refine ⟨(n _ (by omega)).trans a1, a2, (n _ (by omega)).trans a3, a4, (n _ (by omega)).trans a5, a6, (n _ (by omega)).trans a7, a8, fun b hb => ?_, fun k hk => ?_⟩
  · have e := n (89 + 11 * b) (Or.inr (Or.inl ⟨b, by omega, rfl⟩))
    unfold hm; rw [e]; exact a9 b hb
  · have e := n (261 + 5 * k) (by omega)
    unfold ow; rw [e]; exact a10 k hk
theorem wz_cq {g sl : Nat → Int32} {o : Nat} (h : wz g) (ho : o + 6 ≤ 221) : wz (cq g sl o 6) := ⟨fun k hk => by rw [cq_n (by omega)]; exact h.1 k hk, fun k hk => by rw [cq_n (by omega)]; exact h.2 k hk⟩
section OKL
variable {w sl : Nat → Int32} {S B L P T : Nat}
theorem ok_bd {d n : Int32} (h : ok1 S B L P T w) (hS : S < 8) : ok1 (S + 1) B L P T (bdW w sl S d n) := by
  obtain ⟨h1, h2, h3⟩ := h
  have hA : wf (bdA w sl S d n) S B L P := by
    unfold bdA
    exact wf_cq (wf_upd (wf_upd (wf_upd (wf_upd h1 (by omega) (fun b hb => by omega) (fun j hj => by omega)) (by omega) (fun b hb => by omega) (fun j hj => by omega)) (by omega) (fun b hb => by omega) (fun j hj => by omega)) (by omega) (fun b hb => by omega) (fun j hj => by omega)) (Or.inl (by omega))
  have hZ : wz (bdA w sl S d n) := by
    unfold bdA
    exact wz_cq (wz_upd (wz_upd (wz_upd (wz_upd h2 (by omega)) (by omega)) (by omega)) (by omega)) (by omega)
  unfold bdW
  refine ⟨wf_S hA hS (nx_add hA.1 (show (1 : Int32) = nI 1 from rfl)), wz_upd hZ (by omega), ?_⟩
  rw [upd_n (by omega)]
  unfold bdA
  rw [cq_n (by omega), upd_n (by omega), upd_n (by omega), upd_n (by omega), upd_n (by omega)]
  exact h3
theorem ok_cm {st il cr : Int32} {k : Nat} (h : ok1 S B L P T w) (hB : B < 12) (hk : k < S) (hst : st = nI k) : ok1 S (B + 1) L P T (cmW w sl B st il cr) := by
  obtain ⟨h1, h2, h3⟩ := h
  have hS := h1.2.1
  have hA : wf (cmA w sl B st il cr) S B L P := by
    unfold cmA
    exact wf_cq (wf_upd (wf_upd (wf_upd (wf_upd (wf_upd h1 (by omega) (fun b hb => by omega) (fun j hj => by omega)) (by omega) (fun b hb => by omega) (fun j hj => by omega)) (by omega) (fun b hb => by omega) (fun j hj => by omega)) (by omega) (fun b hb => by omega) (fun j hj => by omega)) (by omega) (fun b hb => by omega) (fun j hj => by omega)) (Or.inr ⟨B, hB, rfl⟩)
  have hZ : wz (cmA w sl B st il cr) := by
    unfold cmA
    exact wz_cq (wz_upd (wz_upd (wz_upd (wz_upd (wz_upd h2 (by omega)) (by omega)) (by omega)) (by omega)) (by omega)) (by omega)
  have e : upd (cmA w sl B st il cr) 7 (cmA w sl B st il cr 7 + cr) (89 + 11 * B) = nI k := by
    rw [upd_n (by omega)]
    unfold cmA
    rw [cq_n (by omega), upd_n (by omega), upd_n (by omega), upd_n (by omega), upd_n (by omega), upd_s]; exact hst
  unfold cmW
  refine ⟨?_, wz_upd (wz_upd hZ (by omega)) (by omega), ?_⟩
  · refine wf_B (wf_upd hA (by omega) (fun b hb => by omega) (fun j hj => by omega)) hB (nx_add hA.2.2.1 (show (1 : Int32) = nI 1 from rfl)) ?_
    unfold hm
    rw [e, nI_clamp (by omega)]
    exact ⟨rfl, hk⟩
  · rw [upd_n (by omega), upd_n (by omega)]
    unfold cmA
    rw [cq_n (by omega), upd_n (by omega), upd_n (by omega), upd_n (by omega), upd_n (by omega), upd_n (by omega)]
    exact h3
theorem ok_ap2 {st s n : Int32} (h : ok1 S B L P T w) (hP : P < 10) : ok1 S B L (P + 1) T (apF w P st s n) := by
  refine ⟨wf_ap h.1 hP, ?_, (ap_2 _ _ _ _ _).trans h.2.2⟩
  unfold apF
  exact wz_upd (wz_updP (wz_updP (wz_updP (wz_updP (f := 0) h.2.1 hP (by omega) (fun z => by omega)) hP (by omega) (fun z => by omega)) hP (by omega) (fun z => by omega)) hP (by omega) (fun _ => by decide)) (by omega)
theorem ok_ad2 {b s n : Nat} (h : ok1 S B L P T w) (hb : b < B) (hL : L < 30) : ok1 S B (L + 1) P T (adF w L b s n) := by
  have hB := h.1.2.2.2.1
  refine ⟨wf_ad h.1 hb hL, ?_, (ad_2 _ _ _ _ _).trans h.2.2⟩
  have hA : ok1 S B L P T (adA w L s n) := ok_it _ _ _ h (fun j g _ h2 h3 => ok_al h3 (by omega))
  unfold adF
  exact wz_upd (wz_upd (wz_updL (wz_updL (wz_updL (wz_updL (wz_updL (f := 0) hA.2.1 hL (by omega) (fun z => by omega)) hL (by omega) (fun z => by omega)) hL (by omega) (fun z => by omega)) hL (by omega) (fun z => by omega)) hL (by omega) (fun _ => by decide)) (by omega)) (by omega)
theorem ok_ws2 {k : Nat} (h : ok1 S B L P T w) (hk : k < L) : ok1 S B L P T (wsG k w) := by
  have h3 := (ok_ho h hk).1
  unfold wsG
  exact ⟨wf_upd h.1 (by omega) (fun b hb => by have := h.1.2.2.2.1; omega) (fun j hj => by omega), wz_updL h.2.1 h3 (by omega) (fun _ => by decide), (upd_n (by omega)).trans h.2.2⟩
end OKL
section NAT
variable {t w sl nz : Nat → Int32} {len S B L P T : Nat} {q : QS}
theorem he_st {y : Int32} (hy : y = nI T) (hT : T ≤ 9999) (h : qFl (heQ y (y + 48 - 1) q) = 0) : ∃ j, T ≤ j ∧ j ≤ T + 47 ∧ heV y (y + 48 - 1) q = nI j := by
  subst hy
  have e : nI T + 48 - 1 = nI (T + 47) := nx_sub (nx_add rfl (nx_c 48)) (show (1 : Int32) = nI 1 from rfl) (by omega)
  rw [e] at h ⊢
  exact he_nat (by omega) (by omega) h
theorem he_ln {m j : Nat} {y s m9 : Int32} (hm9 : m9 = nI m) (hy : y = nI T) (hT : T ≤ 9999) (hm : m ≤ 12) (hs : s = nI j) (h1 : T ≤ j) (h2 : j ≤ T + 47) (h : qFl (heQ 1 (mnF m9 (y + 48 - s)) q) = 0) : ∃ n, 1 ≤ n ∧ n ≤ m ∧ j + n ≤ T + 48 ∧ heV 1 (mnF m9 (y + 48 - s)) q = nI n := by
  subst hy; subst hs; subst hm9
  have e : nI T + 48 - nI j = nI (T + 48 - j) := nx_sub (nx_add rfl (nx_c 48)) rfl (by omega)
  have e2 : mnF (nI m) (nI T + 48 - nI j) = nI (min m (T + 48 - j)) := by
    rw [e]; unfold mnF
    by_cases c : T + 48 - j < m
    · rw [if_pos ((nI_ltI (by omega) (by omega)).mpr c)]; congr 1; omega
    · rw [if_neg (fun z => c ((nI_ltI (by omega) (by omega)).mp z))]; congr 1; omega
  rw [e2] at h ⊢
  obtain ⟨n, h3, h4, h5⟩ := he_nat (a := 1) (by omega) (by omega) h
  exact ⟨n, h3, by omega, by omega, h5⟩
theorem he_wh {y : Int32} (hy : y = nI L) (hL : L ≤ 30) (h : qFl (heQ 0 (y - 1) q) = 0) : ∃ k, k < L ∧ heV 0 (y - 1) q = nI k := by
  subst hy
  rcases Nat.eq_zero_or_pos L with rfl | h0
  · obtain ⟨-, -, -, h2, -⟩ := fl_he h
    have h3 : qVa q ≤ -1 := h2.2
    exact absurd (Int32.lt_of_le_of_lt h3 (by decide)) (Int32.not_lt.mpr h2.1)
  · have e : nI L - 1 = nI (L - 1) := nx_sub rfl (show (1 : Int32) = nI 1 from rfl) h0
    rw [e] at h ⊢
    obtain ⟨k, -, h2, h3⟩ := he_nat (a := 0) (by omega) (by omega) h
    exact ⟨k, by omega, h3⟩
theorem he_ht {y : Int32} (hy : y = nI T) (hT : T ≤ 9999) (h : qFl (heQ 1 (mnF 99 (9999 - y)) q) = 0) : ∃ k, k ≤ 99 ∧ T + k ≤ 9999 ∧ heV 1 (mnF 99 (9999 - y)) q = nI k := by
  subst hy
  have e : (9999 : Int32) - nI T = nI (9999 - T) := nx_sub (nx_c 9999) rfl hT
  have e2 : mnF 99 (9999 - nI T) = nI (min 99 (9999 - T)) := by
    rw [e]; unfold mnF
    by_cases c : 9999 - T < 99
    · rw [if_pos ((br_lt rfl (nx_c 99) (by omega) (by omega)).mpr c)]; congr 1; omega
    · rw [if_neg (fun z => c ((br_lt rfl (nx_c 99) (by omega) (by omega)).mp z)), nx_c 99]; congr 1; omega
  rw [e2] at h ⊢
  obtain ⟨k, -, h2, h3⟩ := he_nat (a := 1) (by omega) (by omega) h
  exact ⟨k, by omega, by omega, h3⟩
theorem ts_nat (hS : S ≤ 8) (h : qFl (tsQ t len w sl S q) = 0) : ∃ k, k < S ∧ tsR t len w sl S q = nI k := by
  have h0 := h
  unfold tsQ at h
  rw [fl_gn] at h
  obtain ⟨h1, h2, -⟩ := fl_t2 h
  unfold tsR
  rw [if_pos h0]
  unfold tsV at h2 ⊢
  rw [if_pos h1] at h2 ⊢
  exact ssF_some hS h2
theorem tb_nat (hB : B ≤ 12) (h : qFl (tbQ t len w sl B q) = 0) : ∃ k, k < B ∧ tbR t len w sl B q = nI k := by
  have h0 := h
  unfold tbQ at h
  rw [fl_gn] at h
  obtain ⟨h1, h2, -⟩ := fl_t2 h
  unfold tbR
  rw [if_pos h0]
  unfold tbV at h2 ⊢
  rw [if_pos h1] at h2 ⊢
  exact bsF_some hB h2
/-- a street of a borrower that is read whole -/
theorem rb_nat (hS : S ≤ 8) (h : qFl (rbF t len w sl S B q) = 0) : ∃ k, k < S ∧ tsR t len w (rsS t len sl q) S (rbC t len w sl B q) = nI k := by
  unfold rbF at h
  have e1 : qFl (heQ 0 999 (rbE t len w sl S B q)) = 0 := fl_tn (t := t) (len := len) (a := 0) (b := 999) (p := rbE t len w sl S B q) h
  have h1 := (fl_he (a := 0) (b := 999) (p := rbE t len w sl S B q) e1).1
  unfold rbE at h1
  have e2 : qFl (heQ 0 9 (rbD t len w sl S B q)) = 0 := fl_tn (t := t) (len := len) (a := 0) (b := 9) (p := rbD t len w sl S B q) h1
  have h2 := (fl_he (a := 0) (b := 9) (p := rbD t len w sl S B q) e2).1
  unfold rbD at h2
  exact ts_nat hS h2
theorem sn_nat {A : QS} {y m9 : Int32} {m : Nat} (hm9 : m9 = nI m) (hm : m ≤ 12) (hy : y = nI T) (hT0 : T ≤ 9999) (h : qFl (heQ 1 (mnF m9 (y + 48 - heV y (y + 48 - 1) A)) (tnQ t len y (y + 48 - 1) A)) = 0) : qFl A = 0 ∧ ∃ s n, T ≤ s ∧ s + n ≤ T + 48 ∧ 1 ≤ n ∧ n ≤ m ∧ heV y (y + 48 - 1) A = nI s ∧ heV 1 (mnF m9 (y + 48 - heV y (y + 48 - 1) A)) (tnQ t len y (y + 48 - 1) A) = nI n := by
  have h1 := (fl_he h).1
  have h2 := fl_tn h1
  have h3 := (fl_he h2).1
  obtain ⟨s, hs1, hs2, es⟩ := he_st hy hT0 h2
  obtain ⟨n, hn1, hn2, hn3, en⟩ := he_ln hm9 hy hT0 hm es hs1 hs2 h
  exact ⟨h3, s, n, hs1, hn3, hn1, hn2, es, en⟩
theorem rl_nat (hB : B ≤ 12) (hT : w 2 = nI T) (hT0 : T ≤ 9999) (h : qFl (rlC t len w sl B q) = 0) : ∃ b s n, b < B ∧ T ≤ s ∧ s + n ≤ T + 48 ∧ 1 ≤ n ∧ n ≤ 6 ∧ rlV t len w sl B q = nI b ∧ rlT t len w sl B q = nI s ∧ rlN t len w sl B q = nI n := by
  unfold rlN
  unfold rlC at h
  unfold rlB rlT at *
  unfold rlV
  unfold rlA at *
  obtain ⟨h3, s, n, a1, a2, a3, a4, a5, a6⟩ := sn_nat (t := t) (len := len) (T := T) (A := tbQ t len w sl B (mxP t len q)) (y := w 2) (m9 := 6) (m := 6) (nx_c 6) (by omega) hT hT0 h
  obtain ⟨b, hb, eb⟩ := tb_nat (t := t) (len := len) (w := w) (sl := sl) (q := mxP t len q) hB h3
  exact ⟨b, s, n, hb, a1, a2, a3, a4, eb, a5, a6⟩
theorem rh_nat (hT : w 2 = nI T) (hT0 : T ≤ 9999) : T + rhN t len w q ≤ 9999 ∧ (qFl (rhA t len w q) = 0 → rhV t len w q = nI (rhN t len w q)) := by
  unfold rhN
  by_cases h : qFl (rhA t len w q) = 0
  · have hc := h
    unfold rhA at hc
    obtain ⟨k, h1, h2, h3⟩ := he_ht hT hT0 (fl_tn hc)
    rw [if_pos h]
    have e : (rhV t len w q).toNatClampNeg = k := by
      show (heV 1 (mnF 99 (9999 - w 2)) (mxP t len q)).toNatClampNeg = k
      rw [h3]; exact nI_clamp (by omega)
    rw [e]
    exact ⟨h2, fun _ => h3⟩
  · rw [if_neg h]
    exact ⟨by omega, fun z => absurd z h⟩
end NAT
section ZK
variable {t w sl nz : Nat → Int32} {len S B L P T : Nat} {q : QS}
theorem zk_rl (h : qFl (rlD t len w sl B L P q) = 0) : qFl (rlC t len w sl B q) = 0 ∧ reF w L P (rlV t len w sl B q).toNatClampNeg (rlT t len w sl B q).toNatClampNeg (rlN t len w sl B q).toNatClampNeg = 0 := by
  unfold rlD at h
  split at h
  · exact absurd h (fl_er (by omega))
  · rename_i c
    exact ⟨h, Decidable.of_not_not (fun z => c ⟨h, z⟩)⟩
theorem zk_rw (h : qFl (rwB t len w q) = 0) : qFl (rwA t len w q) = 0 ∧ whC w (rwV t len w q).toNatClampNeg := by
  unfold rwB at h
  split at h
  · exact absurd h (fl_er (by omega))
  · rename_i c
    exact ⟨h, Decidable.of_not_not (fun z => c ⟨h, z⟩)⟩
theorem rw_nat (hL : w 6 = nI L) (hL0 : L ≤ 30) (h : qFl (rwA t len w q) = 0) : ∃ k, k < L ∧ rwV t len w q = nI k := by
  unfold rwA at h
  unfold rwV
  exact he_wh (q := mxP t len q) hL hL0 h
end ZK
