/-! ===== a line that both read: words, places behind a fault, known names ===== -/
section LNW
variable {t : Nat → Int32} {len : Nat} {p : PS} {q : QS}
theorem eqB_all {ts i : Nat} : ∀ r j, eqB t ts i r j = true ↔ ∀ k, j ≤ k → k < j + r → t (ts + k) = ks_c i k
  | 0, j => ⟨fun _ k h1 h2 => by omega, fun _ => rfl⟩
  | r + 1, j => by
    by_cases c : t (ts + j) = ks_c i j
    · rw [eqB_t c, eqB_all r (j + 1)]
      constructor
      · intro h k h1 h2
        by_cases e : k = j
        · subst e; exact c
        · exact h k (by omega) (by omega)
      · intro h k h1 h2
        exact h k (by omega) (by omega)
    · constructor
      · intro h; exact absurd h (eqB_f c)
      · intro h; exact absurd (h j (Nat.le_refl _) (by omega)) c
theorem ky_ks : ∀ i : Fin 7, (0 < ks_len.getD i 0 ∧ ks_len.getD i 0 ≤ 8) ∧ (∀ j : Fin 8, kyF (8 * i + j) = if j.val < ks_len.getD i 0 then ks_c i j else 0) ∧ ∀ j : Fin 8, j.val < ks_len.getD i 0 → ¬ ks_c i j = 0 := by decide +kernel
theorem wd_ke {i : Nat} (hi : i < 7) (h : RB t len p q) (hz : pEk p = 0) : wdB t i p ↔ keP t i q := by
  obtain ⟨⟨l0, l8⟩, e1, e2⟩ := ky_ks ⟨i, hi⟩
  have e1 : ∀ j : Nat, j < 8 → kyF (8 * i + j) = if j < ks_len.getD i 0 then ks_c i j else 0 := fun j hj => e1 ⟨j, hj⟩
  have e2 : ∀ j : Nat, j < 8 → j < ks_len.getD i 0 → ¬ ks_c i j = 0 := fun j hj => e2 ⟨j, hj⟩
  simp only [] at l0 l8
  have kk := rb_kd h hz
  obtain ⟨-, -, h3, -⟩ := h
  obtain ⟨-, ho, ht⟩ := h3 hz
  have hw : pTk p = 1 → pAt p = qTo q ∧ pTs p < pAt p ∧ ∀ i, pTs p ≤ i → i < pAt p → ltP (t i) := by
    intro k1
    rcases ht with y | y | y | y | y
    · omega
    · omega
    · exact y.2.2
    · omega
    · omega
  generalize hl : ks_len.getD i 0 = l at l0 l8 e1 e2
  constructor
  · rintro ⟨k1, k2, k3⟩
    obtain ⟨w1, w2, w3⟩ := hw k1
    rw [hl] at k2 k3
    have k3 := (eqB_all l 0).mp k3
    refine ⟨kk.1 k1, by omega, fun j hj => ?_⟩
    rw [e1 j hj]
    by_cases c : j < l
    · rw [if_pos (by omega), if_pos c, ← k3 j (by omega) (by omega), ho]
    · rw [if_neg (by omega), if_neg c]
  · rintro ⟨k1, k2, k3⟩
    have k0 := kk.2.2.2 k1
    obtain ⟨w1, w2, w3⟩ := hw k0
    have hn : pAt p - pTs p = l := by
      rcases Nat.lt_trichotomy (pAt p - pTs p) l with z | z | z
      · have z1 := k3 (pAt p - pTs p) (by omega)
        rw [e1 _ (by omega), if_neg (by omega), if_pos z] at z1
        exact absurd z1.symm (e2 _ (by omega) z)
      · exact z
      · have z1 := k3 l (by omega)
        rw [e1 _ (by omega), if_pos (by omega), if_neg (by omega)] at z1
        have z2 := w3 (qFr q + l) (by omega) (by omega)
        rw [z1] at z2
        exact absurd z2 lt_not0
    refine ⟨k0, hn.trans hl.symm, ?_⟩
    rw [hl]
    refine (eqB_all l 0).mpr (fun j _ hj => ?_)
    have z1 := k3 j (by omega)
    rw [e1 _ (by omega), if_pos (by omega), if_pos (by omega)] at z1
    rw [ho]
    exact z1
-- behind a fault nothing moves
theorem fc_id {c : Prop} [Decidable c] {kd : Nat} (h : ¬ pEk p = 0) : fcP c kd p = p := by
  unfold fcP; split
  · exact fl_id h
  · rfl
theorem nm_id (h : ¬ pEk p = 0) : nm1 t len p = p := by
  unfold nm1
  rw [nx_id h]
  split
  · exact fl_id h
  · rfl
theorem nu_id {a b : Int32} (h : ¬ pEk p = 0) : nuP t len a b p = p := by
  have e : nu1 t len p = p := by
    unfold nu1
    rw [nx_id h]
    split
    · exact fl_id h
    · rfl
  unfold nuP
  rw [e]
  split
  · exact fl_id h
  · rfl
theorem ks_id {g : Nat → Int32} {S : Nat} (h : ¬ pEk p = 0) : ks1 t len g S p = p := by
  unfold ks1
  rw [nm_id h]
  exact fc_id h
theorem he_id {a b : Int32} (h : ¬ qFl q = 0) : heQ a b q = q := by
  have e : he1 q = q := by
    unfold he1
    rw [if_neg (fun y => h y.1)]
  unfold heQ
  rw [e, if_neg (fun y => h y.1)]
theorem rk_nu2 {a b a' b' : Int32} (h : RB t len (nxP t len p) q) (e : pEk p = 0 → a = a' ∧ b = b') : RK t len (nuP t len a b p) (heQ a' b' q) ∧ (pEk (nuP t len a b p) = 0 → nuV t len a b p = heV a' b' q) := by
  by_cases z : pEk p = 0
  · obtain ⟨rfl, rfl⟩ := e z
    exact rk_nu h
  · have z2 : ¬ qFl q = 0 := fun y => z ((nx_ek.symm.trans h.2.1.symm).trans y)
    rw [nu_id z, he_id z2]
    rw [nx_id z] at h
    exact ⟨⟨h, fun y => absurd y z⟩, fun y => absurd y z⟩
theorem rk_ks {S B : Nat} {g w : Nat → Int32} (hn : nmA S B g w) (h : RB t len (nxP t len p) q) (sl : Nat → Int32) : RK t len (ks1 t len g S p) (tk2 (tsV w (slN t sl (sp1 q)) S (sp1 q)) (sp1 q)) ∧ (pEk (ks1 t len g S p) = 0 → ksV t len g S p = tsV w (slN t sl (sp1 q)) S (sp1 q)) := by
  have a := rk_nm h
  have ev : pEk (nm1 t len p) = 0 → ksV t len g S p = tsV w (slN t sl (sp1 q)) S (sp1 q) := fun z => by
    have z2 : qFl (sp1 q) = 0 := a.1.2.1.trans z
    have e : tsV w (slN t sl (sp1 q)) S (sp1 q) = ssF w (slN t sl (sp1 q)) S := if_pos z2
    rw [e]
    exact sm_ss hn (rb_nmV h z sl)
  refine ⟨rk_fc (c' := tsV w (slN t sl (sp1 q)) S (sp1 q) = -1) a (by omega) (by omega) (fun z => by rw [ev z]), fun z => ?_⟩
  unfold ks1 at z
  exact ev (zk_fc (by omega) z).2
theorem rk_kb {S B : Nat} {g w : Nat → Int32} (hn : nmA S B g w) (h : RB t len (nxP t len p) q) (sl : Nat → Int32) : RK t len (fcP (bmF g B (nmV t len p) = -1) 3 (nm1 t len p)) (tk2 (tbV w (slN t sl (sp1 q)) B (sp1 q)) (sp1 q)) ∧ (pEk (fcP (bmF g B (nmV t len p) = -1) 3 (nm1 t len p)) = 0 → bmF g B (nmV t len p) = tbV w (slN t sl (sp1 q)) B (sp1 q)) := by
  have a := rk_nm h
  have ev : pEk (nm1 t len p) = 0 → bmF g B (nmV t len p) = tbV w (slN t sl (sp1 q)) B (sp1 q) := fun z => by
    have z2 : qFl (sp1 q) = 0 := a.1.2.1.trans z
    have e : tbV w (slN t sl (sp1 q)) B (sp1 q) = bsF' w (slN t sl (sp1 q)) B := if_pos z2
    rw [e]
    exact bm_bs hn (rb_nmV h z sl)
  exact ⟨rk_fc (c' := tbV w (slN t sl (sp1 q)) B (sp1 q) = -1) a (by omega) (by omega) (fun z => by rw [ev z]), fun z => ev (zk_fc (by omega) z).2⟩
end LNW
