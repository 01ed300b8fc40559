/-! ===== places in memory; what holds along a text ===== -/
abbrev psM (tb : Nat → ClassId) (a po ta len : Nat) (M9 : me_M) (g : Nat → Int32) (p : PS) : me_M := sp tb a g (me_up M9 po (.inr (3, ps_fs ta len a p)))
abbrev pmM (tb : Nat → ClassId) (a po ta len : Nat) (M9 : me_M) (x : PR) : me_M := psM tb a po ta len M9 (rG x) (rp x)
theorem ps_eq {tb : Nat → ClassId} {a po ta len : Nat} {M9 : me_M} {g : Nat → Int32} {q q' : PS} (e : q = q') : psM tb a po ta len M9 g q = psM tb a po ta len M9 g q' := by rw [e]
theorem pm_eq {tb : Nat → ClassId} {a po ta len : Nat} {M9 : me_M} {x x' : PR} (e : x = x') : pmM tb a po ta len M9 x = pmM tb a po ta len M9 x' := by rw [e]
/-- where the text lies, and the reader -/
def psE (tb : Nat → ClassId) (a po ta NN len : Nat) (t : Nat → Int32) (M9 : me_M) : Prop := a + 65 ≤ po ∧ a + 65 ≤ ta ∧ ta ≠ po ∧ len ≤ NN ∧ NN < 2 ^ 31 ∧ M9 ta = some (.inl (tb 1, NN, .inl t))
theorem skP_t {t : Nat → Int32} {r k : Nat} (h : t k = 32 ∨ t k = 10) : skP t (r + 1) k = skP t r (k + 1) := if_pos h
theorem skP_f {t : Nat → Int32} {r k : Nat} (h : ¬ (t k = 32 ∨ t k = 10)) : skP t (r + 1) k = k := if_neg h
theorem ruP_t {t : Nat → Int32} {q : Prop} [Decidable q] {r k : Nat} (h : chP q (t k)) : ruP t q (r + 1) k = ruP t q r (k + 1) := if_pos h
theorem ruP_f {t : Nat → Int32} {q : Prop} [Decidable q] {r k : Nat} (h : ¬ chP q (t k)) : ruP t q (r + 1) k = k := if_neg h
theorem eqB_t {t : Nat → Int32} {ts i r j : Nat} (h : t (ts + j) = ks_c i j) : eqB t ts i (r + 1) j = eqB t ts i r (j + 1) := by
  show (decide (t (ts + j) = ks_c i j) && eqB t ts i r (j + 1)) = _
  rw [decide_eq_true h, Bool.true_and]
theorem eqB_f {t : Nat → Int32} {ts i r j : Nat} (h : ¬ t (ts + j) = ks_c i j) : ¬ eqB t ts i (r + 1) j = true := by
  show ¬ (decide (t (ts + j) = ks_c i j) && eqB t ts i r (j + 1)) = true
  rw [decide_eq_false h, Bool.false_and]; decide
section NX
variable {t : Nat → Int32} {len : Nat} {p : PS} {k : Nat}
theorem nx_end (h0 : pEk p = 0) (hs : sk0 t len p = k) (h : ¬ k < len) : (k, 4, k, pEk p, pEo p) = nxP t len p := by
  subst hs; unfold nxP; rw [if_neg (fun z => z h0), if_pos h]
theorem nx_semi (h0 : pEk p = 0) (hs : sk0 t len p = k) (h : k < len) (h1 : t k = 59) : (k + 1, 3, k, pEk p, pEo p) = nxP t len p := by
  subst hs; unfold nxP; rw [if_neg (fun z => z h0), if_neg (fun z => z h), if_pos h1]
theorem nx_run {j v : Nat} (h0 : pEk p = 0) (hs : sk0 t len p = k) (h : k < len) (h1 : ¬ t k = 59) (hj : ru0 t len k = j) (hv : (if j = k ∨ ((pTk p = 1 ∨ pTk p = 2) ∧ k = pAt p) then 0 else if ltP (t k) then 1 else 2) = v) : (j, v, k, pEk p, pEo p) = nxP t len p := by
  subst hs; subst hj; subst hv; unfold nxP; exact ((if_neg (fun z => z h0)).trans ((if_neg (fun z => z h)).trans (if_neg h1))).symm
end NX
theorem fc_t {c : Prop} [Decidable c] {kd : Nat} {p : PS} (h : c) : fcP c kd p = flP kd p := if_pos h
theorem fc_f {c : Prop} [Decidable c] {kd : Nat} {p : PS} (h : ¬ c) : fcP c kd p = p := if_neg h
theorem pv_fc {len kd : Nat} {p : PS} {c : Prop} [Decidable c] (hk : kd ≤ 6) (h : pvP len p) : pvP len (fcP c kd p) := by
  unfold fcP; split
  · exact pv_fl kd h hk
  · exact h
theorem zk_fc {kd : Nat} {p : PS} {c : Prop} [Decidable c] (hk : 0 < kd) (h : pEk (fcP c kd p) = 0) : ¬ c ∧ pEk p = 0 := by
  unfold fcP at h; split at h
  · exact absurd h (zk_fl hk)
  · rename_i c1; exact ⟨c1, h⟩
theorem zk_nm0 {t : Nat → Int32} {len : Nat} {p : PS} (h : pEk (nm1 t len p) = 0) : pEk p = 0 := zk_nx (zk_nm h).1
theorem pv_ks {t : Nat → Int32} {len : Nat} {g : Nat → Int32} {S : Nat} {p : PS} (h : pvP len p) : pvP len (ks1 t len g S p) := pv_fc (by decide) (pv_nm h)
theorem zk_ks {t : Nat → Int32} {len : Nat} {g : Nat → Int32} {S : Nat} {p : PS} (h : pEk (ks1 t len g S p) = 0) : ¬ ksV t len g S p = -1 ∧ pEk p = 0 := by
  have h2 := zk_fc (by decide) h
  exact ⟨h2.1, zk_nm0 h2.2⟩
theorem ks_some {t : Nat → Int32} {len : Nat} {g : Nat → Int32} {S : Nat} {p : PS} (hS : S ≤ 8) (h : ¬ ksV t len g S p = -1) : ∃ k, k < S ∧ ksV t len g S p = nI k := by
  obtain ⟨j, -, h2, h3, -⟩ := fi_some h (by omega)
  exact ⟨j, by omega, h3⟩
theorem bm_some {g : Nat → Int32} {B : Nat} {v : Int32} (hB : B ≤ 12) (h : ¬ bmF g B v = -1) : ∃ k, k < B ∧ bmF g B v = nI k := by
  obtain ⟨j, -, h2, h3, -⟩ := fi_some h (by omega)
  exact ⟨j, by omega, h3⟩
section RG
variable {t : Nat → Int32} {len T : Nat} {p : PS} {y : Int32}
theorem nu_st (hy : y = nI T) (hT : T ≤ 9999) (h : pEk (nuP t len y (y + 48 - 1) p) = 0) : ∃ j, T ≤ j ∧ j ≤ T + 47 ∧ nuV t len y (y + 48 - 1) p = nI j := by
  subst hy
  have e : nI T + 48 - 1 = nI (T + 47) := nx_sub (nx_add rfl (nx_c 48)) (show (1 : Int32) = nI 1 from rfl) (by omega)
  rw [e] at h ⊢
  exact nu_rng (by omega) (by omega) h
theorem nu_ln {m j : Nat} {s : Int32} (hy : y = nI T) (hT : T ≤ 9999) (hm : m ≤ 12) (hs : s = nI j) (h1 : T ≤ j) (h2 : j ≤ T + 47) (h : pEk (nuP t len 1 (mnF (nI m) (y + 48 - s)) p) = 0) : ∃ n, 1 ≤ n ∧ n ≤ m ∧ j + n ≤ T + 48 ∧ nuV t len 1 (mnF (nI m) (y + 48 - s)) p = nI n := by
  subst hy; subst hs
  have e : nI T + 48 - nI j = nI (T + 48 - j) := nx_sub (nx_add rfl (nx_c 48)) rfl (by omega)
  have e2 : mnF (nI m) (nI T + 48 - nI j) = nI (min m (T + 48 - j)) := by
    rw [e]; unfold mnF
    by_cases c : T + 48 - j < m
    · rw [if_pos ((nI_ltI (by omega) (by omega)).mpr c)]; congr 1; omega
    · rw [if_neg (fun z => c ((nI_ltI (by omega) (by omega)).mp z))]; congr 1; omega
  rw [e2] at h ⊢
  obtain ⟨n, h3, h4, h5⟩ := nu_rng (a := 1) (by omega) (by omega) h
  exact ⟨n, h3, by omega, by omega, h5⟩
theorem nu_wh {L : Nat} (hy : y = nI L) (hL : L ≤ 30) (h : pEk (nuP t len 0 (y - 1) p) = 0) : ∃ k, k < L ∧ nuV t len 0 (y - 1) p = nI k := by
  subst hy
  rcases Nat.eq_zero_or_pos L with rfl | h0
  · obtain ⟨-, h1, h2⟩ := zk_nu h
    have h3 : nuV t len 0 (nI 0 - 1) p ≤ -1 := Int32.not_lt.mp h2
    exact absurd (Int32.lt_of_le_of_lt h3 (by decide)) h1
  · have e : nI L - 1 = nI (L - 1) := nx_sub rfl (show (1 : Int32) = nI 1 from rfl) h0
    rw [e] at h ⊢
    obtain ⟨k, -, h2, h3⟩ := nu_rng (a := 0) (by omega) (by omega) h
    exact ⟨k, by omega, h3⟩
theorem nu_ht (hy : y = nI T) (hT : T ≤ 9999) : ∃ k, k ≤ 99 ∧ T + k ≤ 9999 ∧ nuV t len 1 (mnF 99 (9999 - y)) p = nI k := by
  by_cases h : pEk (nuP t len 1 (mnF 99 (9999 - y)) p) = 0
  · subst hy
    have e : (9999 : Int32) - nI T = nI (9999 - T) := nx_sub (nx_c 9999) rfl hT
    have e2 : mnF 99 (9999 - nI T) = nI (min 99 (9999 - T)) := by
      rw [e]; unfold mnF
      by_cases c : 9999 - T < 99
      · rw [if_pos ((br_lt rfl (nx_c 99) (by omega) (by omega)).mpr c)]; congr 1; omega
      · rw [if_neg (fun z => c ((br_lt rfl (nx_c 99) (by omega) (by omega)).mp z)), nx_c 99]; congr 1; omega
    rw [e2] at h ⊢
    obtain ⟨k, -, h2, h3⟩ := nu_rng (a := 1) (by omega) (by omega) h
    exact ⟨k, by omega, by omega, h3⟩
  · exact ⟨0, by omega, by omega, nu_0 h⟩
end RG
