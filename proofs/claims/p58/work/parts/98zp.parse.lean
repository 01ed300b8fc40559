/-! ===== the reader over a text of the law's ===== -/
theorem lt_c : ∀ c, c < 128 → (ltP (sb_b c) ↔ 97 ≤ c ∧ c ≤ 122) := by decide +kernel
theorem dg_c : ∀ c, c < 128 → (dgP (sb_b c) ↔ 48 ≤ c ∧ c ≤ 57) := by decide +kernel
theorem bl_c : ∀ c, c < 128 → 33 ≤ c → ¬ (sb_b c = 32 ∨ sb_b c = 10) := by decide +kernel
theorem se_c : ∀ c, c < 128 → c ≠ 59 → ¬ sb_b c = 59 := by decide +kernel
theorem sb_59 : sb_b 59 = 59 := by decide +kernel
theorem sb_32 : sb_b 32 = 32 := by decide +kernel
/-- letters of a text from place k on -/
def tA (t : Nat → Int32) (k : Nat) (u : List Nat) : Prop := ∀ i, i < u.length → t (k + i) = sb_b (u.getD i 0)
theorem tA_l {t : Nat → Int32} {k : Nat} {u v : List Nat} (h : tA t k (u ++ v)) : tA t k u := fun i hi => by
  rw [h i (by rw [List.length_append]; omega), getD_l hi]
theorem tA_r {t : Nat → Int32} {k : Nat} {u v : List Nat} (h : tA t k (u ++ v)) : tA t (k + u.length) v := fun i hi => by
  rw [Nat.add_assoc, h (u.length + i) (by rw [List.length_append]; omega), getD_r (by omega), Nat.add_sub_cancel_left]
theorem tA_1 {t : Nat → Int32} {k c : Nat} {v : List Nat} (h : tA t k (c :: v)) : t k = sb_b c := h 0 (by simp)
section PAR
variable {t : Nat → Int32} {len : Nat}
theorem sk_nb {r k : Nat} (h : ¬ (t k = 32 ∨ t k = 10)) : skP t r k = k := by
  cases r with
  | zero => rfl
  | succ r => unfold skP; rw [if_neg h]
theorem sk_1 {r k : Nat} (h : t k = 32) (h2 : ¬ (t (k + 1) = 32 ∨ t (k + 1) = 10)) (hr : 1 ≤ r) : skP t r k = k + 1 := by
  obtain ⟨r, rfl⟩ : ∃ q, r = q + 1 := ⟨r - 1, by omega⟩
  unfold skP
  rw [if_pos (Or.inl h)]
  exact sk_nb h2
theorem ru_end {q : Prop} [Decidable q] : ∀ (r k e : Nat), k ≤ e → e ≤ k + r → (∀ i, k ≤ i → i < e → chP q (t i)) → (e = k + r ∨ ¬ chP q (t e)) → ruP t q r k = e
  | 0, k, e, h1, h2, _, _ => by show k = e; omega
  | r + 1, k, e, h1, h2, h3, h4 => by
    by_cases c : k = e
    · subst c
      have h5 : ¬ chP q (t k) := h4.resolve_left (by omega)
      unfold ruP
      rw [if_neg h5]
    · unfold ruP
      rw [if_pos (h3 k (Nat.le_refl _) (by omega))]
      exact ru_end r (k + 1) e (by omega) (by omega) (fun i a b => h3 i (by omega) b) (h4.imp (fun z => by omega) id)
theorem nx_g {p : PS} {k e : Nat} (hz : pEk p = 0) (hs : sk0 t len p = k) (hst : ¬ stP t len p) (hk : k < len) (h59 : ¬ t k = 59) (hru : ru0 t len k = e) (hke : k < e) : nxP t len p = (e, (if ltP (t k) then 1 else 2), k, 0, pEo p) := by
  refine (nx_run hz hs hk h59 hru (v := if ltP (t k) then 1 else 2) ?_).symm.trans (by rw [hz])
  rw [if_neg]
  rintro (z | ⟨z1, z2⟩)
  · omega
  · exact hst ⟨z1, by rw [hs]; exact z2⟩
theorem nx_sm {k tk ts : Nat} {eo : Int32} (h : t k = 59) (hk : k < len) : nxP t len (k, tk, ts, 0, eo) = (k + 1, 3, k, 0, eo) :=
  (nx_semi (p := (k, tk, ts, 0, eo)) rfl (sk_nb (by rw [h]; decide)) hk h).symm
theorem nx_eof {tk ts : Nat} {eo : Int32} : nxP t len (len, tk, ts, 0, eo) = (len, 4, len, 0, eo) := by
  have hs : sk0 t len (len, tk, ts, 0, eo) = len := by
    show skP t (len - len) len = len
    rw [Nat.sub_self]; rfl
  exact (nx_end (p := (len, tk, ts, 0, eo)) rfl hs (by omega)).symm
/-- what follows a token: the end, a blank or a semicolon -/
def tE (t : Nat → Int32) (len k : Nat) : Prop := k = len ∨ (k < len ∧ (t k = sb_b 32 ∨ t k = sb_b 59))
theorem tE_lt {k : Nat} (h : tE t len k) : k ≤ len ∧ (k = len ∨ (¬ ltP (t k) ∧ ¬ dgP (t k))) := by
  rcases h with h | ⟨h, e⟩
  · exact ⟨by omega, Or.inl h⟩
  · refine ⟨by omega, Or.inr ?_⟩
    rcases e with e | e <;> rw [e] <;> decide +kernel
/-- a word, behind a blank or not -/
theorem nx_w {p : PS} {k : Nat} {u : List Nat} (hz : pEk p = 0) (hs : sk0 t len p = k) (hst : ¬ stP t len p) (hu : tA t k u) (h0 : 0 < u.length) (hc : ∀ i, i < u.length → 97 ≤ u.getD i 0 ∧ u.getD i 0 ≤ 122) (he : tE t len (k + u.length)) : nxP t len p = (k + u.length, 1, k, 0, pEo p) := by
  have lt : ∀ i, k ≤ i → i < k + u.length → ltP (t i) := fun i a b => by
    have h := hu (i - k) (by omega)
    rw [show k + (i - k) = i by omega] at h
    have c := hc (i - k) (by omega)
    rw [h]; exact (lt_c _ (by omega)).mpr c
  have hk := lt k (Nat.le_refl _) (by omega)
  obtain ⟨e1, e2⟩ := tE_lt he
  have hru : ru0 t len k = k + u.length := by
    unfold ru0
    refine ru_end (len - k) k (k + u.length) (by omega) (by omega) (fun i a b => ⟨fun _ => lt i a b, fun z => absurd hk z⟩) ?_
    rcases e2 with e2 | e2
    · exact Or.inl (by omega)
    · exact Or.inr (fun z => e2.1 (z.1 hk))
  have h59 : ¬ t k = 59 := fun z => absurd hk (by rw [z]; decide)
  rw [nx_g hz hs hst (by omega) h59 hru (by omega), if_pos hk]
/-- a number, behind a blank -/
theorem nx_d {p : PS} {k : Nat} {u : List Nat} (hz : pEk p = 0) (hs : sk0 t len p = k) (hst : ¬ stP t len p) (hu : tA t k u) (h0 : 0 < u.length) (hc : ∀ i, i < u.length → 48 ≤ u.getD i 0 ∧ u.getD i 0 ≤ 57) (he : tE t len (k + u.length)) : nxP t len p = (k + u.length, 2, k, 0, pEo p) := by
  have dg : ∀ i, k ≤ i → i < k + u.length → dgP (t i) ∧ ¬ ltP (t i) := fun i a b => by
    have h := hu (i - k) (by omega)
    rw [show k + (i - k) = i by omega] at h
    have c := hc (i - k) (by omega)
    rw [h]; exact ⟨(dg_c _ (by omega)).mpr c, fun z => by have := (lt_c _ (by omega)).mp z; omega⟩
  have hk := dg k (Nat.le_refl _) (by omega)
  obtain ⟨e1, e2⟩ := tE_lt he
  have hru : ru0 t len k = k + u.length := by
    unfold ru0
    refine ru_end (len - k) k (k + u.length) (by omega) (by omega) (fun i a b => ⟨fun z => absurd z hk.2, fun _ => (dg i a b).1⟩) ?_
    rcases e2 with e2 | e2
    · exact Or.inl (by omega)
    · exact Or.inr (fun z => e2.2 (z.2 hk.2))
  have h59 : ¬ t k = 59 := fun z => absurd hk.1 (by rw [z]; decide)
  rw [nx_g hz hs hst (by omega) h59 hru (by omega), if_neg hk.2]
/-- behind a blank -/
theorem sk_b {k tk ts ek : Nat} {eo : Int32} {c : Nat} (h : t k = sb_b 32) (h2 : t (k + 1) = sb_b c) (hc : c < 128) (hc2 : 33 ≤ c) (hk : k < len) : sk0 t len (k, tk, ts, ek, eo) = k + 1 ∧ ¬ stP t len (k, tk, ts, ek, eo) := by
  have hs : sk0 t len (k, tk, ts, ek, eo) = k + 1 := sk_1 (by rw [h, sb_32]) (by rw [h2]; exact bl_c c hc hc2) (by show 1 ≤ len - k; omega)
  refine ⟨hs, ?_⟩
  rintro ⟨-, z⟩
  rw [hs] at z
  have z : k + 1 = k := z
  omega
/-! numbers -/
theorem dig_c : ∀ w, w < 200 → (∀ i, i < (dig w).length → 48 ≤ (dig w).getD i 0 ∧ (dig w).getD i 0 ≤ 57) ∧ 0 < (dig w).length ∧ (dig w).length ≤ 3 ∧ vaP (fun i => sb_b ((dig w).getD i 0)) (dig w).length 0 0 = nI w := by decide +kernel
theorem va_cg {t1 t2 : Nat → Int32} {a b : Nat} : ∀ (r i : Nat) (v : Int32), (∀ j, i ≤ j → j < i + r → t1 (a + j) = t2 (b + j)) → vaP t1 r (a + i) v = vaP t2 r (b + i) v
  | 0, _, _, _ => rfl
  | r + 1, i, v, h => by
    show vaP t1 r (a + i + 1) (10 * v + t1 (a + i) - 48) = vaP t2 r (b + i + 1) (10 * v + t2 (b + i) - 48)
    rw [h i (Nat.le_refl _) (by omega)]
    exact va_cg r (i + 1) _ (fun j x y => h j (by omega) (by omega))
theorem nu_ok {k tk ts w lo hi : Nat} {eo : Int32} (h : t k = sb_b 32) (hd : tA t (k + 1) (dig w)) (hw : w < 200) (he : tE t len (k + 1 + (dig w).length)) (hlo : lo ≤ w) (hhi : w ≤ hi) (hh : hi < 2 ^ 31) : nuP t len (nI lo) (nI hi) (k, tk, ts, 0, eo) = (k + 1 + (dig w).length, 2, k + 1, 0, eo) ∧ nuV t len (nI lo) (nI hi) (k, tk, ts, 0, eo) = nI w := by
  obtain ⟨c1, c2, c3, c4⟩ := dig_c w hw
  have e1 := (tE_lt he).1
  have f0 := hd 0 c2
  have g0 := c1 0 c2
  obtain ⟨hs, hst⟩ := sk_b (len := len) (tk := tk) (ts := ts) (ek := 0) (eo := eo) h f0 (by omega) (by omega) (by omega)
  have hn : nxP t len (k, tk, ts, 0, eo) = (k + 1 + (dig w).length, 2, k + 1, 0, eo) := nx_d rfl hs hst hd c2 c1 he
  have h1 : nu1 t len (k, tk, ts, 0, eo) = (k + 1 + (dig w).length, 2, k + 1, 0, eo) := by
    unfold nu1
    rw [hn, if_neg (fun z => z.elim (fun z => z rfl) (fun z => by have z : 4 < k + 1 + (dig w).length - (k + 1) := z; omega))]
  have h2 : nu2 t len (k, tk, ts, 0, eo) = nI w := by
    unfold nu2
    rw [h1, if_pos rfl]
    show vaP t (k + 1 + (dig w).length - (k + 1)) (k + 1) 0 = nI w
    rw [Nat.add_sub_cancel_left, ← c4]
    exact va_cg (a := k + 1) (b := 0) (dig w).length 0 0 (fun j _ hj => by rw [hd j (by omega)]; simp)
  have h3 : nuP t len (nI lo) (nI hi) (k, tk, ts, 0, eo) = (k + 1 + (dig w).length, 2, k + 1, 0, eo) := by
    unfold nuP
    rw [h2, h1, if_neg (fun z => z.elim (fun z => by have := (nI_ltI (by omega) (by omega)).mp z; omega) (fun z => by have := (nI_ltI (by omega) (by omega)).mp z; omega))]
  refine ⟨h3, ?_⟩
  unfold nuV
  rw [h3, if_pos rfl, h2]
/-! names of one letter -/
theorem nw_c : ∀ c, c < 128 → 97 ≤ c → c ≤ 122 → nwF 0 (sb_b c) = nI (c - 96) := by decide +kernel
theorem nm_ok {k tk ts c : Nat} {eo : Int32} (h : t k = sb_b 32) (h2 : t (k + 1) = sb_b c) (hc : 97 ≤ c) (hc2 : c ≤ 122) (he : tE t len (k + 2)) : nm1 t len (k, tk, ts, 0, eo) = (k + 2, 1, k + 1, 0, eo) ∧ nmV t len (k, tk, ts, 0, eo) = nI (c - 96) := by
  have e1 := (tE_lt he).1
  obtain ⟨hs, hst⟩ := sk_b (len := len) (tk := tk) (ts := ts) (ek := 0) (eo := eo) h h2 (by omega) (by omega) (by omega)
  have hn : nxP t len (k, tk, ts, 0, eo) = (k + 1 + [c].length, 1, k + 1, 0, eo) := nx_w rfl hs hst (u := [c]) (fun i hi => by
    have : i = 0 := by simp at hi; omega
    subst this; exact h2) (Nat.zero_lt_one) (fun i hi => by
    have : i = 0 := by simp at hi; omega
    subst this; exact ⟨hc, hc2⟩) he
  have h1 : nm1 t len (k, tk, ts, 0, eo) = (k + 2, 1, k + 1, 0, eo) := by
    unfold nm1
    rw [hn, if_neg (fun z => z.elim (fun z => z rfl) (fun z => by have z : 6 < k + 1 + 1 - (k + 1) := z; omega))]
    rfl
  refine ⟨h1, ?_⟩
  unfold nmV
  rw [h1, if_pos rfl]
  show nvP t (k + 2 - (k + 1)) (k + 1) 0 = _
  rw [show k + 2 - (k + 1) = 1 by omega]
  show nwF 0 (t (k + 1)) = _
  rw [h2]
  exact nw_c c (by omega) hc hc2
/-! words of the language -/
theorem eqB_a {ts i : Nat} : ∀ (r j : Nat), (∀ q, j ≤ q → q < j + r → t (ts + q) = ks_c i q) → eqB t ts i r j = true
  | 0, _, _ => rfl
  | r + 1, j, h => by
    rw [eqB_t (h j (Nat.le_refl _) (by omega))]
    exact eqB_a r (j + 1) (fun q a b => h q (by omega) (by omega))
def wdL (i : Nat) : List Nat := if i = 0 then [98, 117, 114, 101, 97, 117] else if i = 1 then [115, 116, 114, 101, 101, 116] else if i = 2 then [98, 111, 114, 114, 111, 119, 101, 114] else [104, 111, 117, 114, 115]
theorem wd_c : ∀ i, i < 7 → (i = 0 ∨ i = 1 ∨ i = 2 ∨ i = 6) → (wdL i).length = ks_len.getD i 0 ∧ 0 < (wdL i).length ∧ (∀ j, j < (wdL i).length → 97 ≤ (wdL i).getD j 0 ∧ (wdL i).getD j 0 ≤ 122 ∧ ks_c i j = sb_b ((wdL i).getD j 0)) := by decide +kernel
theorem wd_ok {k i : Nat} {eo : Int32} (hi : i < 7) (hi2 : i = 0 ∨ i = 1 ∨ i = 2 ∨ i = 6) (hu : tA t k (wdL i)) : wdB t i (k + (wdL i).length, 1, k, 0, eo) := by
  obtain ⟨a, b, c⟩ := wd_c i hi hi2
  refine ⟨rfl, ?_, eqB_a _ 0 (fun q _ hq => ?_)⟩
  · show k + (wdL i).length - k = _
    rw [Nat.add_sub_cancel_left, a]
  · rw [(c q (by omega)).2.2]; exact hu q (by omega)
theorem wd_no {k i j : Nat} {eo : Int32} (h : (wdL i).length ≠ ks_len.getD j 0) : ¬ wdB t j (k + (wdL i).length, 1, k, 0, eo) := by
  rintro ⟨-, z, -⟩
  have z : k + (wdL i).length - k = _ := z
  rw [Nat.add_sub_cancel_left] at z
  exact h z
end PAR
