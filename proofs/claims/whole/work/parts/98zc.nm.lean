/-! ===== a name, packed, and its letters ===== -/
section NMP
/-- letters as a number, five bits each -/
def pkN (f : Nat → Int32) : Nat → Nat
  | 0 => 0
  | m + 1 => 32 * pkN f m + ((f m).toNatClampNeg - 96)
theorem lt_nat {x : Int32} (h : ltP x) : ∃ c, 1 ≤ c ∧ c ≤ 26 ∧ x = nI (96 + c) := by
  obtain ⟨h1, h2⟩ := h
  rw [Int32.lt_iff_toInt_lt] at h1 h2
  have e1 : (97 : Int32).toInt = 97 := by decide
  have e2 : (122 : Int32).toInt = 122 := by decide
  refine ⟨x.toInt.toNat - 96, by omega, by omega, Int32.toInt_inj.mp ?_⟩
  rw [nI_toInt (by omega)]
  omega
theorem lt_not0 : ¬ ltP 0 := by decide
theorem pkN_s {f : Nat → Int32} {m c : Nat} (h : f m = nI (96 + c)) (hc : c ≤ 26) : pkN f (m + 1) = 32 * pkN f m + c := by
  show 32 * pkN f m + ((f m).toNatClampNeg - 96) = _
  rw [h, nI_clamp (by omega)]
  omega
theorem pkN_b {f : Nat → Int32} : ∀ m, (∀ i, i < m → ltP (f i)) → pkN f m < 32 ^ m
  | 0, _ => by show 0 < 32 ^ 0; decide
  | m + 1, h => by
    obtain ⟨c, h1, h2, e⟩ := lt_nat (h m (by omega))
    have ih := pkN_b m (fun i hi => h i (by omega))
    rw [pkN_s e h2, Nat.pow_succ]
    omega
theorem p32 {i : Nat} (h : i ≤ 6) : 32 ^ i ≤ 2 ^ 30 ∧ (i ≤ 5 → 32 ^ i ≤ 2 ^ 25) := by
  rcases (show i = 0 ∨ i = 1 ∨ i = 2 ∨ i = 3 ∨ i = 4 ∨ i = 5 ∨ i = 6 by omega) with rfl | rfl | rfl | rfl | rfl | rfl | rfl <;> refine ⟨by decide, fun _ => by first | decide | omega⟩
theorem nw_p {a c : Nat} (ha : a < 2 ^ 25) (h1 : 1 ≤ c) (hc : c ≤ 26) : nwF (nI a) (nI (96 + c)) = nI (32 * a + c) := by
  have e : (nI (96 + c) - 97 + 1 : Int32) = nI c := by
    refine (nx_add (nx_sub (a := 96 + c) (b := 97) rfl (nx_c 97) (by omega)) (show (1 : Int32) = nI 1 from rfl)).trans ?_
    congr 1; omega
  unfold nwF
  rw [e, pk_shlN (5 &&& 31) 5 (by decide) (by omega)]
  apply Int32.toBitVec_inj.mp
  apply BitVec.eq_of_toNat_eq
  show ((nI (a * 2 ^ 5)).toBitVec ||| (nI c).toBitVec).toNat = (nI (32 * a + c)).toBitVec.toNat
  rw [BitVec.toNat_or, pk_tn (by omega), pk_tn (by omega), pk_tn (by omega), Nat.mul_comm a (2 ^ 5), ← Nat.two_pow_add_eq_or_of_lt (by omega) a]
theorem nv_pk {f : Nat → Int32} : ∀ r i, i + r ≤ 6 → (∀ j, j < i + r → ltP (f j)) → nvP f r i (nI (pkN f i)) = nI (pkN f (i + r))
  | 0, _, _, _ => rfl
  | r + 1, i, hr, h => by
    obtain ⟨c, h1, h2, e⟩ := lt_nat (h i (by omega))
    have b := pkN_b i (fun j hj => h j (by omega))
    have b2 := (p32 (i := i) (by omega)).2 (by omega)
    show nvP f r (i + 1) (nwF (nI (pkN f i)) (f i)) = _
    rw [e, nw_p (by omega) h1 h2, ← pkN_s e h2, nv_pk r (i + 1) (by omega) (fun j hj => h j (by omega))]
    congr 2; omega
theorem pk_inj {f f' : Nat → Int32} : ∀ m m', (∀ i, i < m → ltP (f i)) → (∀ i, i < m' → ltP (f' i)) → pkN f m = pkN f' m' → m = m' ∧ ∀ i, i < m → f i = f' i
  | 0, 0, _, _, _ => ⟨rfl, fun i h => by omega⟩
  | 0, m' + 1, _, h', e => by
    obtain ⟨c, h1, h2, ec⟩ := lt_nat (h' m' (by omega))
    rw [pkN_s ec h2] at e
    have z : pkN f 0 = 0 := rfl
    omega
  | m + 1, 0, h, _, e => by
    obtain ⟨c, h1, h2, ec⟩ := lt_nat (h m (by omega))
    rw [pkN_s ec h2] at e
    have z : pkN f' 0 = 0 := rfl
    omega
  | m + 1, m' + 1, h, h', e => by
    obtain ⟨c, h1, h2, ec⟩ := lt_nat (h m (by omega))
    obtain ⟨c', h1', h2', ec'⟩ := lt_nat (h' m' (by omega))
    rw [pkN_s ec h2, pkN_s ec' h2'] at e
    obtain ⟨hm, hi⟩ := pk_inj (f := f) (f' := f') m m' (fun i hi => h i (by omega)) (fun i hi => h' i (by omega)) (by omega)
    subst hm
    refine ⟨rfl, fun i hi2 => ?_⟩
    by_cases c0 : i = m
    · subst c0
      rw [ec, ec']
      congr 1; omega
    · exact hi i (by omega)
theorem pk_cg {f f' : Nat → Int32} : ∀ m, (∀ i, i < m → f i = f' i) → pkN f m = pkN f' m
  | 0, _ => rfl
  | m + 1, h => by
    show 32 * pkN f m + ((f m).toNatClampNeg - 96) = 32 * pkN f' m + ((f' m).toNatClampNeg - 96)
    rw [h m (by omega), pk_cg m (fun i hi => h i (by omega))]
/-- a packed name and its six letters -/
def nmR (v : Int32) (f : Nat → Int32) : Prop := ∃ m, 1 ≤ m ∧ m ≤ 6 ∧ (∀ i, i < m → ltP (f i)) ∧ (∀ i, m ≤ i → i < 6 → f i = 0) ∧ v = nI (pkN f m)
theorem nmR_cg {v : Int32} {f f' : Nat → Int32} (h : nmR v f) (e : ∀ i, i < 6 → f' i = f i) : nmR v f' := by
  obtain ⟨m, h1, h2, h3, h4, h5⟩ := h
  exact ⟨m, h1, h2, fun i hi => by rw [e i (by omega)]; exact h3 i hi, fun i a b => (e i b).trans (h4 i a b), by rw [h5, pk_cg m (fun i hi => (e i (by omega)).symm)]⟩
theorem nmR_eq {v v' : Int32} {f f' : Nat → Int32} (h : nmR v f) (h' : nmR v' f') : v = v' ↔ ∀ i, i < 6 → f i = f' i := by
  obtain ⟨m, h1, h2, h3, h4, h5⟩ := h
  obtain ⟨m', h1', h2', h3', h4', h5'⟩ := h'
  have b := pkN_b m h3
  have b' := pkN_b m' h3'
  have q := (p32 h2).1
  have q' := (p32 h2').1
  constructor
  · intro e
    rw [h5, h5'] at e
    obtain ⟨hm, hi⟩ := pk_inj m m' h3 h3' ((nI_eq (by omega) (by omega)).mp e)
    subst hm
    intro i hi6
    by_cases c : i < m
    · exact hi i c
    · rw [h4 i (by omega) hi6, h4' i (by omega) hi6]
  · intro e
    have hm : m = m' := by
      rcases Nat.lt_trichotomy m m' with z | z | z
      · have a1 := h3' m z
        rw [← e m (by omega), h4 m (Nat.le_refl _) (by omega)] at a1
        exact absurd a1 lt_not0
      · exact z
      · have a1 := h3 m' z
        rw [e m' (by omega), h4' m' (Nat.le_refl _) (by omega)] at a1
        exact absurd a1 lt_not0
    subst hm
    rw [h5, h5', pk_cg m (fun i hi => e i (by omega))]
theorem pk_d0 {f : Nat → Int32} : ∀ r m, r < m → (∀ i, i < m → ltP (f i)) → pkN f m / 32 ^ r % 32 = (f (m - 1 - r)).toNatClampNeg - 96
  | _, 0, h, _ => by omega
  | 0, m + 1, _, h => by
    obtain ⟨c, h1, h2, e⟩ := lt_nat (h m (by omega))
    rw [pkN_s e h2, Nat.pow_zero, Nat.div_one, show m + 1 - 1 - 0 = m by omega, e, nI_clamp (by omega)]
    omega
  | r + 1, m + 1, hr, h => by
    obtain ⟨c, h1, h2, e⟩ := lt_nat (h m (by omega))
    rw [pkN_s e h2, Nat.pow_succ, Nat.mul_comm (32 ^ r) 32, ← Nat.div_div_eq_div_mul, show (32 * pkN f m + c) / 32 = pkN f m by omega, pk_d0 r m (by omega) (fun i hi => h i (by omega))]
    congr 3; omega
theorem pk_d1 {f : Nat → Int32} {r m : Nat} (hr : m ≤ r) (h : ∀ i, i < m → ltP (f i)) : pkN f m / 32 ^ r = 0 := Nat.div_eq_of_lt (Nat.lt_of_lt_of_le (pkN_b m h) (Nat.pow_le_pow_right (by decide) hr))
theorem nl_N {N r : Nat} (hN : N < 2 ^ 30) (hr : r ≤ 5) : nlF (nI N) r = nI (N / 32 ^ r % 32) := by
  have key : ∀ k : Nat, ((nI (5 * r) &&& 31).toBitVec.smod 32).toNat = k → 2 ^ k = 32 ^ r → nlF (nI N) r = nI (N / 32 ^ r % 32) := by
    intro k h1 h2
    unfold nlF
    have hl : N / 2 ^ k < 2 ^ 32 := Nat.lt_of_le_of_lt (Nat.div_le_self _ _) (by omega)
    rw [pk_shrN (by omega) _ k h1, pk_andN hl (m := 31) 5 (by decide), h2]
  rcases (show r = 0 ∨ r = 1 ∨ r = 2 ∨ r = 3 ∨ r = 4 ∨ r = 5 by omega) with rfl | rfl | rfl | rfl | rfl | rfl
  · exact key 0 (by decide) (by decide)
  · exact key 5 (by decide) (by decide)
  · exact key 10 (by decide) (by decide)
  · exact key 15 (by decide) (by decide)
  · exact key 20 (by decide) (by decide)
  · exact key 25 (by decide) (by decide)
theorem sb_wb (c : Nat) : sb_b c = wb (nI c) := (sb_vb c).symm
theorem an_1 {f : Nat → Int32} {m : Nat} (h6 : m ≤ 6) (h : ∀ i, i < m → ltP (f i)) : ∀ r, r ≤ m → ∀ (k : Nat) (t : Nat → Int32), anF (nI (pkN f m)) r k t = (k + r, cq t (fun i => wb (f (m - r + i))) k r)
  | 0, _, k, t => by
    show (k, t) = _
    rw [cq_0]; rfl
  | r + 1, hr, k, t => by
    have hN : pkN f m < 2 ^ 30 := Nat.lt_of_lt_of_le (pkN_b m h) (p32 h6).1
    have e := nl_N hN (show r ≤ 5 by omega)
    rw [pk_d0 r m (by omega) h] at e
    obtain ⟨c, h1, h2, ec⟩ := lt_nat (h (m - 1 - r) (by omega))
    rw [ec, nI_clamp (by omega), show 96 + c - 96 = c by omega] at e
    have nz : ¬ nlF (nI (pkN f m)) r = 0 := by
      rw [e]; exact nI_n0 (by omega) (by omega)
    have en : nlN (nI (pkN f m)) r = c := by unfold nlN; rw [e]; exact nI_clamp (by omega)
    rw [an_f nz, en, an_1 h6 h r (by omega), sb_wb, ← ec]
    refine Prod.ext (by show k + 1 + r = k + (r + 1); omega) ?_
    funext q
    show cq (upd t k (wb (f (m - 1 - r)))) (fun i => wb (f (m - r + i))) (k + 1) r q = cq t (fun i => wb (f (m - (r + 1) + i))) k (r + 1) q
    unfold cq
    by_cases c1 : k + 1 ≤ q ∧ q < k + 1 + r
    · rw [if_pos c1, if_pos (by omega)]
      show wb (f (m - r + (q - (k + 1)))) = wb (f (m - (r + 1) + (q - k)))
      rw [show m - r + (q - (k + 1)) = m - (r + 1) + (q - k) by omega]
    · rw [if_neg c1]
      by_cases c2 : q = k
      · subst c2
        rw [upd_s, if_pos (by omega)]
        show wb (f (m - 1 - r)) = wb (f (m - (r + 1) + (q - q)))
        rw [show m - (r + 1) + (q - q) = m - 1 - r by omega]
      · rw [upd_n c2, if_neg (by omega)]
theorem an_0 {f : Nat → Int32} {m : Nat} (h : ∀ i, i < m → ltP (f i)) : ∀ r, m + r ≤ 6 → ∀ (k : Nat) (t : Nat → Int32), anF (nI (pkN f m)) (m + r) k t = anF (nI (pkN f m)) m k t
  | 0, _, _, _ => rfl
  | r + 1, hr, k, t => by
    have hN : pkN f m < 2 ^ 30 := Nat.lt_of_lt_of_le (pkN_b m h) (p32 (show m ≤ 6 by omega)).1
    have e := nl_N hN (show m + r ≤ 5 by omega)
    rw [pk_d1 (by omega) h] at e
    show anF (nI (pkN f m)) (m + r + 1) k t = _
    rw [an_t (by rw [e]; rfl), an_0 h r (by omega)]
/-- the builder's letters of a name are the model's -/
theorem an_nm {v : Int32} {w : Nat → Int32} {a : Nat} (h : nmR v (fun i => w (a + i))) (k : Nat) (t : Nat → Int32) : anF v 6 k t = (k + nlM w a, cq t (nmW w a) k (nlM w a)) := by
  obtain ⟨m, h1, h2, h3, h4, h5⟩ := h
  have hm : nlM w a = m := by
    have key : ∀ r k, k + r = 6 → k ≤ m → nlR w a r k = m := by
      intro r
      induction r with
      | zero => intro k h6 hk; show k = m; omega
      | succ r ih =>
        intro k h6 hk
        by_cases c : k = m
        · subst c
          exact nlR_t (h4 k (Nat.le_refl _) (by omega))
        · have z := h3 k (by omega)
          rw [nlR_f (fun q => lt_not0 (by have z2 : ltP (w (a + k)) := z; rw [q] at z2; exact z2))]
          exact ih (k + 1) (by omega) (by omega)
    exact key 6 0 rfl (by omega)
  rw [hm, h5]
  have e6 : anF (nI (pkN (fun i => w (a + i)) m)) 6 k t = anF (nI (pkN (fun i => w (a + i)) m)) (m + (6 - m)) k t := by rw [Nat.add_sub_cancel' h2]
  rw [e6, an_0 h3 (6 - m) (by omega), an_1 h2 h3 m (Nat.le_refl _)]
  refine Prod.ext rfl ?_
  show cq t (fun i => wb (w (a + (m - m + i)))) k m = cq t (nmW w a) k m
  congr 1
  funext i
  show wb (w (a + (m - m + i))) = wb (w (a + i))
  rw [show m - m + i = i by omega]
theorem fl_1 {f : Nat → Int32} : ∀ (r j : Nat), j ≤ r → j ≤ 5 → (∀ i, i < j + 1 → ltP (f i)) → flS r (nI (pkN f (j + 1))) = nI (pkN f 1)
  | 0, j, hj, _, _ => by
    have e : j = 0 := by omega
    subst e; rfl
  | r + 1, 0, _, _, h => by
    obtain ⟨c, h1, h2, e⟩ := lt_nat (h 0 (by omega))
    have e1 : pkN f (0 + 1) = c := by rw [pkN_s e h2]; show 32 * 0 + c = c; omega
    show (if 31 < nI (pkN f (0 + 1)) then _ else nI (pkN f (0 + 1))) = _
    rw [if_neg]
    rw [e1, nx_c 31, nI_ltI (by omega) (by omega)]; omega
  | r + 1, j + 1, hj, h5, h => by
    obtain ⟨c, h1, h2, e⟩ := lt_nat (h (j + 1) (by omega))
    obtain ⟨c', h1', h2', e'⟩ := lt_nat (h j (by omega))
    have b := Nat.lt_of_lt_of_le (pkN_b (j + 1 + 1) h) (p32 (show j + 1 + 1 ≤ 6 by omega)).1
    have e1 := pkN_s e h2
    have e2 := pkN_s e' h2'
    show (if 31 < nI (pkN f (j + 1 + 1)) then flS r (nI (pkN f (j + 1 + 1)) >>> (5 &&& 31)) else nI (pkN f (j + 1 + 1))) = _
    rw [if_pos (by rw [nx_c 31, nI_ltI (by omega) (by omega)]; omega), pk_shrN (by omega) (5 &&& 31) 5 (by decide), e1, show (32 * pkN f (j + 1) + c) / 2 ^ 5 = pkN f (j + 1) by omega]
    exact fl_1 r j (by omega) (by omega) (fun i hi => h i (by omega))
/-- the first letter of a packed name -/
theorem fl_nm {v : Int32} {f : Nat → Int32} (h : nmR v f) : 97 + flS 5 v - 1 = f 0 := by
  obtain ⟨m, h1, h2, h3, h4, h5⟩ := h
  obtain ⟨j, rfl⟩ : ∃ j, m = j + 1 := ⟨m - 1, by omega⟩
  obtain ⟨c, a1, a2, e⟩ := lt_nat (h3 0 (by omega))
  have e1 : pkN f 1 = c := by rw [pkN_s (m := 0) e a2]; show 32 * 0 + c = c; omega
  rw [h5, fl_1 5 j (by omega) (by omega) h3, e1, e]
  refine (nx_sub (nx_add (nx_c 97) rfl) (show (1 : Int32) = nI 1 from rfl) (by omega)).trans ?_
  congr 1; omega
end NMP
