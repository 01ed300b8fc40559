/-! ===== what stays true of one row ===== -/
/-- how many loans are returned or overdue -/
def ivN (g : Nat → Int32) (L : Nat) : Nat := co (fun k => g (261 + 5 * k + 4) = 3 ∨ g (261 + 5 * k + 4) = 4) L 0
/-- a loan's cells -/
abbrev ivL (g : Nat → Int32) (k s n q c : Nat) : Prop := s ≤ 20000 ∧ 1 ≤ n ∧ n ≤ 6 ∧ q ≤ 60 ∧ c ≤ 5 ∧ g (261 + 5 * k + 1) = nI s ∧ g (261 + 5 * k + 2) = nI n ∧ g (261 + 5 * k + 3) = nI q ∧ g (261 + 5 * k + 4) = nI c
abbrev ivS (g : Nat → Int32) (k d n t : Nat) : Prop := d ≤ 99 ∧ n ≤ 99 ∧ g (9 + 10 * k) = nI d ∧ g (9 + 10 * k + 1) = nI n ∧ g (9 + 10 * k + 2) = nI t
/-- loans: no hour from T on held twice -/
abbrev ivD (T L : Nat) (g : Nat → Int32) : Prop := ∀ j k h, j < L → k < L → T ≤ h → h ≤ 20000 → hdK g j (nI h) 1 → hdK g k (nI h) 1 → j = k
/-- no permit over a held hour of its street -/
abbrev ivP (T L P : Nat) (g : Nat → Int32) : Prop := ∀ j k h, j < L → k < P → T ≤ h → h ≤ 20000 → hdK g j (nI h) 1 → ¬ cvK g k (nI (hm g (ow g j))) (nI h)
def iv (N T S B L P : Nat) (g : Nat → Int32) : Prop :=
  wf g S B L P ∧ g 2 = nI T ∧ bnd B g ∧ acF g B L = 0 ∧ (∃ f : Nat, f ≤ 99 ∧ g 1 = nI f) ∧ (∀ k, k < S → ∃ d n t : Nat, t ≤ 139 * T ∧ ivS g k d n t) ∧
  (∀ b, b < B → -((99 * ivN g L : Nat) : Int) ≤ (g (89 + 11 * b + 2)).toInt ∧ (g (89 + 11 * b + 2)).toInt ≤ (N : Int)) ∧
  (∀ k, k < L → ∃ s n q c : Nat, ivL g k s n q c) ∧ (∀ k, k < P → bz (g (221 + 4 * k + 3)) = g (221 + 4 * k + 3)) ∧ ivD T L g ∧ ivP T L P g
theorem fi_hit {P : Nat → Prop} [DecidablePred P] : ∀ (r k j : Nat), k + r < 2 ^ 31 → k ≤ j → j < k + r → P j → ¬ fi P r k = -1
  | 0, k, j, _, h1, h2, _ => by omega
  | r + 1, k, j, hb, h1, h2, hj => by
    by_cases c : P k
    · rw [fi_t c]; exact nI_nm1 (by omega)
    · rw [fi_f c]
      exact fi_hit r (k + 1) j (by omega) (Nat.lt_of_le_of_ne h1 (fun e => c (e ▸ hj))) (by omega) hj
theorem fi_no {P : Nat → Prop} [DecidablePred P] : ∀ (r k : Nat), (∀ j, k ≤ j → j < k + r → ¬ P j) → fi P r k = -1
  | 0, _, _ => rfl
  | r + 1, k, h => by
    rw [fi_f (h k (Nat.le_refl _) (by omega))]
    exact fi_no r (k + 1) (fun j a b => h j (by omega) (by omega))
theorem co_not {P : Nat → Prop} [DecidablePred P] : ∀ (r k : Nat), co P r k + co (fun i => ¬ P i) r k = r
  | 0, _ => rfl
  | r + 1, k => by
    have := co_not (P := P) r (k + 1)
    by_cases c : P k
    · rw [co_t c, co_f (P := fun i => ¬ P i) (fun z => z c)]; omega
    · rw [co_f c, co_t (P := fun i => ¬ P i) c]; omega
theorem nIc {c : Nat} (h : c ≤ 5) : (nI c = 0 ∨ nI c = 1) ↔ (c = 0 ∨ c = 1) := by
  have : ∀ c, c < 6 → ((nI c = 0 ∨ nI c = 1) ↔ (c = 0 ∨ c = 1)) := by decide +kernel
  exact this c (by omega)
section IV
variable {N T S B L P : Nat} {g : Nat → Int32}
theorem iv_wf (h : iv N T S B L P g) : wf g S B L P := h.1
/-- when a loan holds a span -/
theorem hd_at {k s n q c f m : Nat} (h : ivL g k s n q c) (hf : f ≤ 20000) (hm : m ≤ 100) : hdK g k (nI f) (nI m) ↔ (c = 0 ∨ c = 1) ∧ s < f + m ∧ f < s + n := by
  obtain ⟨h1, h2, h3, h4, h5, e1, e2, e3, e4⟩ := h
  show ((g (261 + 5 * k + 4) = 0 ∨ g (261 + 5 * k + 4) = 1) ∧ g (261 + 5 * k + 1) < nI f + nI m ∧ nI f < g (261 + 5 * k + 1) + g (261 + 5 * k + 2)) ↔ _
  rw [e1, e2, e4, nI_add, nI_add, nIc h5, nI_ltI (by omega) (by omega), nI_ltI (by omega) (by omega)]
theorem hd_sp {k s n q c f m : Nat} (h : ivL g k s n q c) (hf : f + m ≤ 20000) (hm : m ≤ 100) (hm1 : 1 ≤ m) : hdK g k (nI f) (nI m) ↔ ∃ j, j < m ∧ hdK g k (nI (f + j)) 1 := by
  have e : ∀ j, j < m → (hdK g k (nI (f + j)) 1 ↔ (c = 0 ∨ c = 1) ∧ s < f + j + 1 ∧ f + j < s + n) := fun j hj => hd_at (m := 1) h (by omega) (by omega)
  rw [hd_at h (by omega) hm]
  constructor
  · rintro ⟨a, b, d⟩
    by_cases x : s ≤ f
    · exact ⟨0, by omega, (e 0 (by omega)).mpr ⟨a, by omega, by omega⟩⟩
    · exact ⟨s - f, by omega, (e (s - f) (by omega)).mpr ⟨a, by omega, by have := h.2.1; omega⟩⟩
  · rintro ⟨j, hj, z⟩
    obtain ⟨a, b, d⟩ := (e j hj).mp z
    exact ⟨a, by omega, by omega⟩
theorem iv_ho (h : iv N T S B L P g) {j x : Nat} (hj : j < L) (h1 : T ≤ x) (h2 : x ≤ 20000) (hd : hdK g j (nI x) 1) : hoF g L (nI x) = nI j := by
  have hL := h.1.2.2.2.2.2.1
  have hn : ¬ hoF g L (nI x) = -1 := fi_hit L 0 j (by omega) (by omega) (by omega) hd
  obtain ⟨k, hk, e, hk2⟩ := hoF_le g L (nI x) (by omega) hn
  rw [e, h.2.2.2.2.2.2.2.2.2.1 k j x hk hj h1 h2 hk2 hd]
theorem ho_hd (h : wf g S B L P) {j : Nat} {x : Int32} (hj : j < L) (e : hoF g L x = nI j) : hdK g j x 1 := by
  have hL := h.2.2.2.2.2.1
  have hn : ¬ hoF g L x = -1 := by rw [e]; exact nI_nm1 (by omega)
  obtain ⟨k, hk, e2, hk2⟩ := hoF_le g L x (by omega) hn
  have : k = j := (nI_eq (by omega) (by omega)).mp (e2.symm.trans e)
  rw [← this]; exact hk2
/-- what the law asks of a loan -/
theorem hj_hd (h : iv N T S B L P g) {k x : Nat} (hk : k < L) (hx : x ≤ 20000) : hjK g k (nI x) ↔ hdK g k (nI x) 1 := by
  obtain ⟨s, n, q, c, z⟩ := h.2.2.2.2.2.2.2.1 k hk
  have e := hd_at (m := 1) z hx (by omega)
  refine Iff.trans ?_ e.symm
  obtain ⟨h1, h2, h3, h4, h5, e1, e2, e3, e4⟩ := z
  show (g (261 + 5 * k + 4) < 2 ∧ g (261 + 5 * k + 1) ≤ nI x ∧ nI x < g (261 + 5 * k + 1) + g (261 + 5 * k + 2)) ↔ _
  rw [e1, e2, e4, nI_add, nI_leI (by omega) (by omega), nI_ltI (by omega) (by omega), show (2 : Int32) = nI 2 from rfl, nI_ltI (by omega) (by omega)]
  omega
theorem lh_no {x : Int32} : ∀ (r : Nat), (∀ j, j < r → ¬ hjK g j x) → lhF g x r = -1
  | 0, _ => rfl
  | r + 1, h => by
    unfold lhF
    rw [if_neg (h r (by omega))]
    exact lh_no r (fun j hj => h j (by omega))
theorem lh_one {x : Int32} {j : Nat} : ∀ (r : Nat), j < r → hjK g j x → (∀ k, k < r → hjK g k x → k = j) → lhF g x r = nI j
  | 0, h, _, _ => by omega
  | r + 1, h, hj, hu => by
    unfold lhF
    by_cases c : hjK g r x
    · rw [if_pos c, hu r (by omega) c]
    · rw [if_neg c]
      exact lh_one r (Nat.lt_of_le_of_ne (Nat.le_of_lt_succ h) (fun e => c (e ▸ hj))) hj (fun k hk => hu k (by omega))
theorem iv_h1 (h : iv N T S B L P g) (hT : T ≤ 10000) : ∀ x k, T ≤ x → x < T + 48 → k < L → hjK g k (nI x) → lhF g (nI x) k = -1 := by
  intro x k h1 h2 hk hx
  refine lh_no k (fun j hj hjx => ?_)
  have := h.2.2.2.2.2.2.2.2.2.1 j k x (by omega) hk h1 (by omega) ((hj_hd h (by omega) (by omega)).mp hjx) ((hj_hd h hk (by omega)).mp hx)
  omega
theorem iv_h2 (h : iv N T S B L P g) (hT : T ≤ 10000) : ∀ x, T ≤ x → x < T + 48 → lhF g (nI x) L = hoF g L (nI x) := by
  intro x h1 h2
  have hL := h.1.2.2.2.2.2.1
  by_cases c : hoF g L (nI x) = -1
  · rw [c]
    refine lh_no L (fun j hj hjx => ?_)
    exact fi_hit L 0 j (by omega) (by omega) (by omega) ((hj_hd h hj (by omega)).mp hjx) c
  · obtain ⟨k, hk, e, hk2⟩ := hoF_le g L (nI x) (by omega) c
    rw [e]
    refine lh_one L hk ((hj_hd h hk (by omega)).mpr hk2) (fun i hi hix => ?_)
    exact h.2.2.2.2.2.2.2.2.2.1 i k x hi hk h1 (by omega) ((hj_hd h hi (by omega)).mp hix) hk2
theorem iv_le (h : iv N T S B L P g) : leF g L = co (fun i => ¬ hoF g L (nI (T + i)) = -1) 48 0 := by
  unfold leF
  exact co_eq 48 0 (fun j _ _ => by rw [h.2.1, nI_add])
theorem iv_h3 (h : iv N T S B L P g) : 48 - nI (leF g L) = nI (co (fun i => hoF g L (nI (T + i)) = -1) 48 0) := by
  have := co_not (P := fun i => hoF g L (nI (T + i)) = -1) 48 0
  rw [iv_le h]
  refine (nx_sub (x := 48) (a := 48) rfl rfl (by omega)).trans ?_
  exact congrArg nI (by omega)
theorem iv_h4 (h : iv N T S B L P g) : 48 - nI (co (fun i => hoF g L (nI (T + i)) = -1) 48 0) = nI (leF g L) := by
  have := co_not (P := fun i => hoF g L (nI (T + i)) = -1) 48 0
  rw [iv_le h]
  refine (nx_sub (x := 48) (a := 48) rfl rfl (by omega)).trans ?_
  exact congrArg nI (by omega)
theorem co_le1 {P : Nat → Prop} [DecidablePred P] : ∀ (r k : Nat), (∀ i j, k ≤ i → i < k + r → k ≤ j → j < k + r → P i → P j → i = j) → co P r k ≤ 1
  | 0, _, _ => by show 0 ≤ 1; omega
  | r + 1, k, h => by
    by_cases c : P k
    · rw [co_t c]
      have : co P r (k + 1) = 0 := by
        have : ∀ (r i : Nat), k < i → (∀ j, i ≤ j → j < i + r → ¬ P j) → co P r i = 0 := by
          intro r
          induction r with
          | zero => intro i _ _; rfl
          | succ r ih => intro i h1 h3; rw [co_f (h3 i (Nat.le_refl _) (by omega))]; exact ih (i + 1) (by omega) (fun j a b => h3 j (by omega) (by omega))
        exact this r (k + 1) (by omega) (fun j a b hj => by have := h k j (by omega) (by omega) (by omega) (by omega) c hj; omega)
      omega
    · rw [co_f c]
      exact co_le1 r (k + 1) (fun i j a b d e => h i j (by omega) (by omega) (by omega) (by omega))
theorem iv_lo (h : iv N T S B L P g) {x : Nat} (h1 : T ≤ x) (h2 : x ≤ 20000) : loF g L (nI x) 1 ≤ 1 :=
  co_le1 L 0 (fun i j _ hi _ hj a b => h.2.2.2.2.2.2.2.2.2.1 i j x (by omega) (by omega) h1 h2 a b)
theorem iv_tw (h : iv N T S B L P g) (hT : T ≤ 10000) : twF g L = 0 := by
  have : ∀ (r k : Nat), k + r ≤ 48 → co (fun i => (1 : Int32) < nI (loF g L (g 2 + nI i) 1)) r k = 0 := by
    intro r
    induction r with
    | zero => intro k _; rfl
    | succ r ih =>
      intro k hk
      rw [co_f, ih (k + 1) (by omega)]
      rw [h.2.1, nI_add]
      have := iv_lo h (x := T + k) (by omega) (by omega)
      intro z
      have z2 := (nI_ltI (a := 1) (by omega) (by omega)).mp z
      omega
  exact this 48 0 (by omega)
end IV
