/-! ===== arguments in and out of range; what a relation must give for the queries ===== -/
theorem lw_ix (x : Int32) (n : Nat) (hn : n ≤ 100000) : (x < 0 ∨ nI n ≤ x) ∨ ∃ k, k < n ∧ x = nI k := by
  have h0 : (0 : Int32).toInt = 0 := rfl
  by_cases h1 : x < 0
  · exact Or.inl (Or.inl h1)
  · by_cases h2 : nI n ≤ x
    · exact Or.inl (Or.inr h2)
    · rw [Int32.lt_iff_toInt_lt] at h1
      rw [Int32.le_iff_toInt_le, nI_toInt (by omega)] at h2
      refine Or.inr ⟨x.toInt.toNat, by omega, Int32.toInt_inj.mp ?_⟩
      rw [nI_toInt (by omega)]
      omega
theorem lw_rg (x : Int32) (a c : Nat) (hc : c ≤ 100000) (ha : a ≤ c := by decide) : (x < nI a ∨ nI c < x) ∨ ∃ k, a ≤ k ∧ k ≤ c ∧ x = nI k := by
  by_cases h1 : x < nI a
  · exact Or.inl (Or.inl h1)
  · by_cases h2 : nI c < x
    · exact Or.inl (Or.inr h2)
    · rw [Int32.lt_iff_toInt_lt, nI_toInt (by omega)] at h1 h2
      refine Or.inr ⟨x.toInt.toNat, by omega, by omega, Int32.toInt_inj.mp ?_⟩
      rw [nI_toInt (by omega)]
      omega
theorem lw_hr (x : Int32) (T : Nat) (hT : T ≤ 10000) : (x < nI T ∨ nI T + 48 ≤ x) ∨ ∃ k, T ≤ k ∧ k < T + 48 ∧ x = nI k := by
  have e : nI T + 48 = nI (T + 48) := nI_add T 48
  rw [e]
  by_cases h1 : x < nI T
  · exact Or.inl (Or.inl h1)
  · by_cases h2 : nI (T + 48) ≤ x
    · exact Or.inl (Or.inr h2)
    · rw [Int32.lt_iff_toInt_lt, nI_toInt (by omega)] at h1
      rw [Int32.le_iff_toInt_le, nI_toInt (by omega)] at h2
      refine Or.inr ⟨x.toInt.toNat, by omega, by omega, Int32.toInt_inj.mp ?_⟩
      rw [nI_toInt (by omega)]
      omega
theorem lw_sr (x : Int32) (T n : Nat) (hT : T ≤ 10000) (hn : n ≤ 48) : (x < nI T ∨ nI T + 48 - nI n < x) ∨ ∃ k, T ≤ k ∧ k + n ≤ T + 48 ∧ x = nI k := by
  have e : nI T + 48 - nI n = nI (T + 48 - n) := by
    have : nI T + 48 = nI (T + 48 - n) + nI n := by rw [nI_add, Nat.sub_add_cancel (by omega)]; exact nI_add T 48
    rw [this, Int32.add_sub_cancel]
  rw [e]
  rcases lw_rg x T (T + 48 - n) (by omega) (by omega) with h | ⟨k, h1, h2, h3⟩
  · exact Or.inl h
  · exact Or.inr ⟨k, h1, by omega, h3⟩
def lw_good (REL : lw_RT) : Prop := ∀ t g G F sf inp out Fm w av od sv sl nz ip ot, REL t g G F sf inp out Fm w av od sv sl nz ip ot → ∃ S B L P T, ag S B L P g w ∧ ok1 S B L P T w ∧ T ≤ 9999
def lw_keep (REL : lw_RT) : Prop := ∀ t g G F sf inp out Fm w av od sv sl nz ip ot (x : Int32), REL t g G F sf inp out Fm w av od sv sl nz ip ot → REL (t + 1) g G F sf inp out (upd Fm 0 x) w av od sv sl nz ip ot
section AG2
variable {S B L P : Nat} {g w : Nat → Int32}
theorem ag_st (h : ag S B L P g w) (x : Int32) : co (fun k => g (261 + 5 * k + 4) = x) L 0 = co (fun k => w (261 + 5 * k + 4) = x) L 0 := co_eq L 0 (fun j _ hj => by rw [h.2.2.2.2 j 4 (by omega) (by decide)])
theorem ag_oN (h : ag S B L P g w) (b : Nat) : ovN g L b = ovN w L b := co_eq L 0 (fun j _ hj => by
  show (g (261 + 5 * j) = nI b ∧ g (261 + 5 * j + 4) = 4) ↔ _
  rw [show g (261 + 5 * j) = w (261 + 5 * j) from h.2.2.2.2 j 0 (by omega) (by decide), h.2.2.2.2 j 4 (by omega) (by decide)])
theorem ag_cau (h : ag S B L P g w) (hW : wf w S B L P) {b : Nat} (hb : b < B) (s n : Nat) : cauF g L P b s n = cauF w L P b s n := by
  unfold cauF
  rw [ag_re h hW hb, ag_ov h, ag_fp h hb, ag_fo h hW hb, ag_pr h hW hb, h.2.2.1 b 2 hb (by decide)]
theorem ag_disp (h : ag S B L P g w) (hW : wf w S B L P) {b : Nat} (hb : b < B) (s n : Nat) : dispF g L P b s n = dispF w L P b s n := by
  unfold dispF
  rw [ag_re h hW hb, ag_lo h]
end AG2
