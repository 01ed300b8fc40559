/-! ===== names and numbers that both read ===== -/
section RN
variable {t : Nat → Int32} {len : Nat} {p : PS} {q : QS}
theorem rk_fc {c c' : Prop} [Decidable c] [Decidable c'] {kd : Nat} (h : RK t len p q) (hk : 0 < kd) (hk6 : kd ≤ 6) (hc : pEk p = 0 → (c ↔ c')) : RK t len (fcP c kd p) (if qFl q = 0 ∧ c' then erP kd q else q) := by
  by_cases z : pEk p = 0
  · have z2 : qFl q = 0 := h.1.2.1.trans z
    by_cases c1 : c
    · rw [fc_t c1, if_pos ⟨z2, (hc z).mp c1⟩]
      exact ⟨rb_fl h.1 hk hk6, fun y => absurd y (zk_fl hk)⟩
    · rw [fc_f c1, if_neg (fun y => c1 ((hc z).mpr y.2))]
      exact h
  · have z2 : ¬ qFl q = 0 := fun y => z (h.1.2.1.symm.trans y)
    have e : fcP c kd p = p := by
      unfold fcP; split
      · exact fl_id z
      · rfl
    rw [e, if_neg (fun y => z2 y.1)]
    exact h
theorem rk_nm (h : RB t len (nxP t len p) q) : RK t len (nm1 t len p) (sp1 q) := by
  unfold nm1
  generalize nxP t len p = p' at h
  obtain ⟨h1, h2, h3, h4⟩ := h
  have hh : RB t len p' q := ⟨h1, h2, h3, h4⟩
  by_cases z : pEk p' = 0
  · have z2 : qFl q = 0 := h2.trans z
    obtain ⟨-, ho, ht⟩ := h3 z
    have e : (¬ pTk p' = 1 ∨ 6 < pAt p' - pTs p') ↔ (¬ qKd q = 1 ∨ 6 < qTo q - qFr q) := by
      rcases ht with y | y | y | y | y <;> omega
    unfold sp1
    by_cases c : ¬ pTk p' = 1 ∨ 6 < pAt p' - pTs p'
    · rw [if_pos c, if_pos ⟨z2, e.mp c⟩]
      exact ⟨rb_fl hh (by omega) (by omega), fun y => absurd y (zk_fl (by omega))⟩
    · rw [if_neg c, if_neg (fun y => c (e.mpr y.2))]
      exact rk_wd hh (fun _ => by omega)
  · have z2 : ¬ qFl q = 0 := fun y => z (h2.symm.trans y)
    unfold sp1
    rw [if_neg (show ¬ (qFl q = 0 ∧ (¬ qKd q = 1 ∨ 6 < qTo q - qFr q)) from fun y => z2 y.1)]
    have e : (if ¬ pTk p' = 1 ∨ 6 < pAt p' - pTs p' then flP 1 p' else p') = p' := by
      split
      · exact fl_id z
      · rfl
    rw [e]
    exact ⟨hh, fun y => absurd y z⟩
theorem rb_n1 (h : RB t len (nxP t len p) q) : RB t len (nu1 t len p) (he1 q) ∧ (pEk (nu1 t len p) = 0 → qKd (he1 q) = 2 ∧ nu2 t len p = qVa (he1 q)) := by
  have e2 : nu2 t len p = if pEk (nu1 t len p) = 0 then vaP t (pAt (nu1 t len p) - pTs (nu1 t len p)) (pTs (nu1 t len p)) 0 else 0 := rfl
  rw [e2]
  unfold nu1
  generalize nxP t len p = p' at h
  obtain ⟨h1, h2, h3, h4⟩ := h
  have hh : RB t len p' q := ⟨h1, h2, h3, h4⟩
  by_cases z : pEk p' = 0
  · have z2 : qFl q = 0 := h2.trans z
    obtain ⟨-, ho, ht⟩ := h3 z
    have e : (¬ pTk p' = 2 ∨ 4 < pAt p' - pTs p') ↔ ¬ qKd q = 2 := by
      rcases ht with y | y | y | y | y <;> omega
    unfold he1
    by_cases c : ¬ pTk p' = 2 ∨ 4 < pAt p' - pTs p'
    · rw [if_pos c, if_pos ⟨z2, e.mp c⟩]
      exact ⟨rb_fl hh (by omega) (by omega), fun y => absurd y (zk_fl (by omega))⟩
    · rw [if_neg c, if_neg (fun y => c (e.mpr y.2)), if_pos z]
      refine ⟨hh, fun _ => ⟨Decidable.of_not_not (fun y => c (e.mpr y)), ?_⟩⟩
      rcases ht with y | y | y | y | y
      · omega
      · omega
      · omega
      · exact y.2.2.2.2.symm
      · omega
  · have z2 : ¬ qFl q = 0 := fun y => z (h2.symm.trans y)
    unfold he1
    rw [if_neg (show ¬ (qFl q = 0 ∧ ¬ qKd q = 2) from fun y => z2 y.1)]
    have e : (if ¬ pTk p' = 2 ∨ 4 < pAt p' - pTs p' then flP 1 p' else p') = p' := by
      split
      · exact fl_id z
      · rfl
    rw [e]
    exact ⟨hh, fun y => absurd y z⟩
theorem rk_nu {a b : Int32} (h : RB t len (nxP t len p) q) : RK t len (nuP t len a b p) (heQ a b q) ∧ (pEk (nuP t len a b p) = 0 → nuV t len a b p = heV a b q) := by
  obtain ⟨hh, hv⟩ := rb_n1 h
  have eV : nuV t len a b p = if pEk (nuP t len a b p) = 0 then nu2 t len p else 0 := rfl
  have eW : heV a b q = if qFl (heQ a b q) = 0 then qVa (heQ a b q) else a := rfl
  rw [eV, eW]
  have h2 := hh.2.1
  by_cases z : pEk (nu1 t len p) = 0
  · have z2 : qFl (he1 q) = 0 := h2.trans z
    obtain ⟨v1, v2⟩ := hv z
    have e : (nu2 t len p < a ∨ b < nu2 t len p) ↔ ¬ inP (qVa (he1 q)) a b := by
      rw [v2]
      constructor
      · intro y i
        exact y.elim (fun y => absurd i.1 (Int32.not_le.mpr y)) (fun y => absurd i.2 (Int32.not_le.mpr y))
      · intro y
        by_cases c1 : qVa (he1 q) < a
        · exact Or.inl c1
        · by_cases c2 : b < qVa (he1 q)
          · exact Or.inr c2
          · exact absurd ⟨Int32.not_lt.mp c1, Int32.not_lt.mp c2⟩ y
    unfold nuP heQ
    by_cases c : nu2 t len p < a ∨ b < nu2 t len p
    · rw [if_pos c, if_pos ⟨z2, e.mp c⟩]
      exact ⟨⟨rb_fl hh (by omega) (by omega), fun y => absurd y (zk_fl (by omega))⟩, fun y => absurd y (zk_fl (by omega))⟩
    · rw [if_neg c, if_neg (fun y => c (e.mpr y.2)), if_pos z, if_pos z2]
      exact ⟨⟨hh, fun _ => Or.inr (Or.inl v1)⟩, fun _ => v2⟩
  · have z2 : ¬ qFl (he1 q) = 0 := fun y => z (h2.symm.trans y)
    have e1 : nuP t len a b p = nu1 t len p := by
      unfold nuP; split
      · exact fl_id z
      · rfl
    have e3 : heQ a b q = he1 q := by
      unfold heQ
      rw [if_neg (fun y => z2 y.1)]
    rw [e1, e3]
    exact ⟨⟨hh, fun y => absurd y z⟩, fun y => absurd y z⟩
theorem nv_sh {f : Nat → Int32} {ts : Nat} : ∀ r i v, (∀ j, i ≤ j → j < i + r → t (ts + j) = f j) → nvP t r (ts + i) v = nvP f r i v
  | 0, _, _, _ => rfl
  | r + 1, i, v, h => by
    show nvP t r (ts + i + 1) (nwF v (t (ts + i))) = nvP f r (i + 1) (nwF v (f i))
    rw [h i (Nat.le_refl _) (by omega)]
    exact nv_sh r (i + 1) _ (fun j a b => h j (by omega) (by omega))
/-- the name that both have read -/
theorem rb_nmV (h : RB t len (nxP t len p) q) (hz : pEk (nm1 t len p) = 0) (sl : Nat → Int32) : nmR (nmV t len p) (slN t sl (sp1 q)) := by
  obtain ⟨z, k1, k6⟩ := zk_nm hz
  have e1 : nm1 t len p = nxP t len p := by
    unfold nm1
    rw [if_neg (by omega)]
  have hf : qFl (sp1 q) = 0 := (rk_nm h).1.2.1.trans hz
  obtain ⟨f1, f2, f3, f4⟩ := fl_s1 hf
  have eV : nmV t len p = nvP t (pAt (nxP t len p) - pTs (nxP t len p)) (pTs (nxP t len p)) 0 := by
    unfold nmV
    rw [if_pos hz, e1]
  have eS : slN t sl (sp1 q) = cq sl (slF t q) 0 6 := by
    unfold slN
    rw [if_pos hf, f4]
  rw [eV, eS]
  generalize nxP t len p = p' at h z k1 k6
  obtain ⟨h1, h2, h3, h4⟩ := h
  obtain ⟨-, ho, ht⟩ := h3 z
  have hw : pAt p' = qTo q ∧ pTs p' < pAt p' ∧ ∀ i, pTs p' ≤ i → i < pAt p' → ltP (t i) := by
    rcases ht with y | y | y | y | y
    · omega
    · omega
    · exact y.2.2
    · omega
    · omega
  obtain ⟨w1, w2, w3⟩ := hw
  have eF : ∀ i, i < 6 → cq sl (slF t q) 0 6 i = if i < pAt p' - pTs p' then t (pTs p' + i) else 0 := by
    intro i hi
    have e := cq_i (d := sl) (s := slF t q) (o := 0) hi
    rw [Nat.zero_add] at e
    rw [e]
    unfold slF
    rw [w1, ho]
  have hl : ∀ i, i < pAt p' - pTs p' → ltP (cq sl (slF t q) 0 6 i) := fun i hi => by
    rw [eF i (by omega), if_pos hi]
    exact w3 _ (by omega) (by omega)
  refine ⟨pAt p' - pTs p', by omega, k6, hl, fun i a b => ?_, ?_⟩
  · rw [eF i b, if_neg (by omega)]
  · have s1 := nv_sh (t := t) (f := cq sl (slF t q) 0 6) (ts := pTs p') (pAt p' - pTs p') 0 0 (fun j _ b => by
      rw [eF j (by omega), if_pos (by omega)])
    have s2 := nv_pk (f := cq sl (slF t q) 0 6) (pAt p' - pTs p') 0 (by omega) (fun j hj => hl j (by omega))
    rw [Nat.zero_add] at s2
    exact s1.trans s2
end RN
/-- the names of streets and borrowers in two rows -/
def nmA (S B : Nat) (g w : Nat → Int32) : Prop := (∀ k, k < S → nmR (g (9 + 10 * k + 4)) (fun i => w (9 + 10 * k + 4 + i))) ∧ ∀ k, k < B → nmR (g (89 + 11 * k + 5)) (fun i => w (89 + 11 * k + 5 + i))
section NMA
variable {S B : Nat} {g w sl : Nat → Int32} {v : Int32}
theorem sm_ss (h : nmA S B g w) (hv : nmR v sl) : smF g S v = ssF w sl S := fi_eq S 0 (fun j _ hj => nmR_eq (h.1 j (by omega)) hv)
theorem bm_bs (h : nmA S B g w) (hv : nmR v sl) : bmF g B v = bsF' w sl B := fi_eq B 0 (fun j _ hj => nmR_eq (h.2 j (by omega)) hv)
end NMA
