/-! ===== memories in layers: a bureau and a model beside each other ===== -/
def lw_lay (P : me_M → me_M) (lo hi : Nat) : Prop := ∀ q : Nat, (lo ≤ q ∧ q < hi ∧ ∃ x, ∀ M0, P M0 q = some x) ∨ ∀ M0, P M0 q = M0 q
theorem lw_lay.absorb {P : me_M → me_M} {lo hi : Nat} {M M2 : me_M} (hl : lw_lay P lo hi) (h : P M = M) (e : ∀ q, lo ≤ q → q < hi → M2 q = M q) : P M2 = M2 := by
  funext q
  rcases hl q with ⟨h1, h2, x, hx⟩ | hp
  · rw [hx M2, e q h1 h2, ← h, hx M]
  · exact hp M2
theorem lw_lay.idem {P : me_M → me_M} {lo hi : Nat} {M : me_M} (hl : lw_lay P lo hi) : P (P M) = P M := by
  funext q
  rcases hl q with ⟨h1, h2, x, hx⟩ | hp
  · rw [hx, hx]
  · exact hp _
theorem lw_lay.out {P : me_M → me_M} {lo hi : Nat} {M : me_M} (hl : lw_lay P lo hi) {q : Nat} (h : q < lo ∨ hi ≤ q) : P M q = M q := by
  rcases hl q with ⟨h1, h2, -⟩ | hp
  · omega
  · exact hp M
theorem lw_lay.comp {P P2 : me_M → me_M} {lo hi : Nat} (h : lw_lay P lo hi) (h2 : lw_lay P2 lo hi) : lw_lay (fun M0 => P (P2 M0)) lo hi := by
  intro q
  rcases h q with ⟨a, b, x, hx⟩ | hp
  · exact Or.inl ⟨a, b, x, fun M0 => hx _⟩
  · rcases h2 q with ⟨a, b, x, hx⟩ | hp2
    · exact Or.inl ⟨a, b, x, fun M0 => (hp _).trans (hx M0)⟩
    · exact Or.inr (fun M0 => (hp _).trans (hp2 M0))
theorem lw_lay_sp {tb : Nat → ClassId} {a lo hi : Nat} {g : Nat → Int32} (h1 : lo ≤ a) (h2 : a + 65 ≤ hi) : lw_lay (sp tb a g) lo hi := by
  intro q
  by_cases h : a ≤ q ∧ q < a + 65
  · exact Or.inl ⟨by omega, by omega, sp_cell tb a g (q - a), fun M0 => by unfold sp; rw [if_pos h]⟩
  · exact Or.inr (fun M0 => by unfold sp; rw [if_neg h])
theorem lw_lay_spN {tb : Nat → ClassId} {bo : Nat} {G : Nat → Nat → Int32} : ∀ N : Nat, N ≤ 14 → lw_lay (spN tb bo G N) bo (bo + 919)
  | 0, _ => fun q => Or.inr (fun M0 => rfl)
  | N + 1, h => (lw_lay_sp (tb := tb) (g := G N) (lo := bo) (hi := bo + 919) (by have := (sa_in (bo := bo) (j := N) (by omega)).1; omega) (by have := (sa_in (bo := bo) (j := N) (by omega)).2; omega)).comp (lw_lay_spN N (by omega))
theorem lw_lay_bq {tb : Nat → ClassId} {bo : Nat} {G : Nat → Nat → Int32} {F sf inp out : Nat → Int32} : lw_lay (bq tb bo G F sf inp out) bo (bo + 919) := by
  intro q
  cases h : hdq tb bo F sf inp out q with
  | some x =>
    have hs := hdq_some h
    exact Or.inl ⟨by omega, by omega, x, fun M0 => bq_hd h⟩
  | none =>
    rcases lw_lay_spN (tb := tb) (bo := bo) (G := G) 14 (Nat.le_refl _) q with ⟨a, b, x, hx⟩ | hp
    · exact Or.inl ⟨a, b, x, fun M0 => (bq_no h).trans (hx M0)⟩
    · exact Or.inr (fun M0 => (bq_no h).trans (hp M0))
theorem lw_lay_c {tb : Nat → ClassId} {bo : Nat} {g : Nat → Int32} {G : Nat → Nat → Int32} {F sf inp out : Nat → Int32} : lw_lay (fun M0 => sp tb (bo + 722) g (bq tb bo G F sf inp out M0)) bo (bo + 919) :=
  (lw_lay_sp (by omega) (by omega)).comp lw_lay_bq
theorem lw_lay_m {tb : Nat → ClassId} {mo : Nat} {F w av od sv sl nz ip ot : Nat → Int32} : lw_lay (mq tb mo F w av od sv sl nz ip ot) mo (mo + 10) := by
  intro q
  by_cases h : mo ≤ q ∧ q < mo + 10
  · refine Or.inl ⟨h.1, h.2, ?_⟩
    obtain ⟨k, rfl⟩ : ∃ k, q = mo + k := ⟨q - mo, by omega⟩
    rcases (show k = 0 ∨ k = 1 ∨ k = 2 ∨ k = 3 ∨ k = 4 ∨ k = 5 ∨ k = 6 ∨ k = 7 ∨ k = 8 ∨ k = 9 by omega) with rfl | rfl | rfl | rfl | rfl | rfl | rfl | rfl | rfl | rfl
    · exact ⟨_, fun M0 => mq_F⟩
    · exact ⟨_, fun M0 => mq_ky⟩
    · exact ⟨_, fun M0 => mq_w⟩
    · exact ⟨_, fun M0 => mq_av⟩
    · exact ⟨_, fun M0 => mq_od⟩
    · exact ⟨_, fun M0 => mq_sv⟩
    · exact ⟨_, fun M0 => mq_sl⟩
    · exact ⟨_, fun M0 => mq_nz⟩
    · exact ⟨_, fun M0 => mq_ip⟩
    · exact ⟨_, fun M0 => mq_ot⟩
  · exact Or.inr (fun M0 => mq_o (by omega))
/-- the memory between two calls: the bureau's numbers, the model's numbers, the two arrays of answers -/
def lw_at (tb : Nat → ClassId) (z0 : Nat) (g : Nat → Int32) (G : Nat → Nat → Int32) (F sf inp out Fm w av od sv sl nz ip ot : Nat → Int32) (M : me_M) : Prop :=
  sp tb (z0 + 722) g (bq tb z0 G F sf inp out M) = M ∧ mq tb (z0 + 919) Fm w av od sv sl nz ip ot M = M ∧ (∃ f : Nat → Int64, M (z0 + 929) = some (.inl (tb 3, 1, .inr (.inl f)))) ∧ ∃ f : Nat → UInt64, M (z0 + 930) = some (.inl (tb 4, 1, .inr (.inr (.inr (.inl f)))))
section LAT
variable {tb : Nat → ClassId} {z0 : Nat} {g : Nat → Int32} {G : Nat → Nat → Int32} {F sf inp out Fm w av od sv sl nz ip ot : Nat → Int32} {M M2 : me_M}
variable {g' : Nat → Int32} {G' : Nat → Nat → Int32} {F' sf' inp' out' Fm' w' av' od' sv' sl' nz' ip' ot' : Nat → Int32}
theorem lw_at.same (h : lw_at tb z0 g G F sf inp out Fm w av od sv sl nz ip ot M) (e : ∀ q, z0 ≤ q → q < z0 + 931 → M2 q = M q) : lw_at tb z0 g G F sf inp out Fm w av od sv sl nz ip ot M2 := by
  obtain ⟨h1, h2, ⟨f, h3⟩, f2, h4⟩ := h
  exact ⟨lw_lay_c.absorb h1 (fun q a b => e q (by omega) (by omega)), lw_lay_m.absorb h2 (fun q a b => e q (by omega) (by omega)), ⟨f, (e _ (by omega) (by omega)).trans h3⟩, f2, (e _ (by omega) (by omega)).trans h4⟩
theorem lw_at.cls (h : lw_at tb z0 g G F sf inp out Fm w av od sv sl nz ip ot M) : lw_at tb z0 g' G' F' sf' inp' out' Fm w av od sv sl nz ip ot (sp tb (z0 + 722) g' (bq tb z0 G' F' sf' inp' out' M)) := by
  obtain ⟨h1, h2, ⟨f, h3⟩, f2, h4⟩ := h
  exact ⟨lw_lay_c.idem, lw_lay_m.absorb h2 (fun q a b => lw_lay_c.out (Or.inr (by omega))), ⟨f, (lw_lay_c.out (Or.inr (by omega))).trans h3⟩, f2, (lw_lay_c.out (Or.inr (by omega))).trans h4⟩
theorem lw_at.mod (h : lw_at tb z0 g G F sf inp out Fm w av od sv sl nz ip ot M) : lw_at tb z0 g G F sf inp out Fm' w' av' od' sv' sl' nz' ip' ot' (mq tb (z0 + 919) Fm' w' av' od' sv' sl' nz' ip' ot' M) := by
  obtain ⟨h1, h2, ⟨f, h3⟩, f2, h4⟩ := h
  exact ⟨lw_lay_c.absorb h1 (fun q a b => lw_lay_m.out (Or.inl (by omega))), lw_lay_m.idem, ⟨f, (lw_lay_m.out (Or.inr (by omega))).trans h3⟩, f2, (lw_lay_m.out (Or.inr (by omega))).trans h4⟩
theorem lw_at.outL (h : lw_at tb z0 g G F sf inp out Fm w av od sv sl nz ip ot M) {f : Nat → Int64} : lw_at tb z0 g G F sf inp out Fm w av od sv sl nz ip ot (me_up M (z0 + 929) (.inl (tb 3, 1, .inr (.inl f)))) := by
  obtain ⟨h1, h2, -, f2, h4⟩ := h
  exact ⟨lw_lay_c.absorb h1 (fun q a b => me_up_n (by omega)), lw_lay_m.absorb h2 (fun q a b => me_up_n (by omega)), ⟨f, me_up_s _ _ _⟩, f2, (me_up_n (by omega)).trans h4⟩
theorem lw_at.outD (h : lw_at tb z0 g G F sf inp out Fm w av od sv sl nz ip ot M) {f : Nat → UInt64} : lw_at tb z0 g G F sf inp out Fm w av od sv sl nz ip ot (me_up M (z0 + 930) (.inl (tb 4, 1, .inr (.inr (.inr (.inl f)))))) := by
  obtain ⟨h1, h2, ⟨f1, h3⟩, -⟩ := h
  exact ⟨lw_lay_c.absorb h1 (fun q a b => me_up_n (by omega)), lw_lay_m.absorb h2 (fun q a b => me_up_n (by omega)), ⟨f1, (me_up_n (by omega)).trans h3⟩, f, me_up_s _ _ _⟩
theorem lw_at.bo (h : lw_at tb z0 g G F sf inp out Fm w av od sv sl nz ip ot M) : M z0 = some (.inr (7, hd_b z0 F)) := by
  rw [← h.1]
  exact bq_at (by unfold hdq; rw [if_pos rfl])
theorem lw_at.mo (h : lw_at tb z0 g G F sf inp out Fm w av od sv sl nz ip ot M) : M (z0 + 919) = some (.inr (8, mq_fs (z0 + 919) Fm)) := by
  rw [← h.2.1]
  exact mq_F
end LAT
abbrev lw_RT : Type := Nat → (Nat → Int32) → (Nat → Nat → Int32) → (Nat → Int32) → (Nat → Int32) → (Nat → Int32) → (Nat → Int32) → (Nat → Int32) → (Nat → Int32) → (Nat → Int32) → (Nat → Int32) → (Nat → Int32) → (Nat → Int32) → (Nat → Int32) → (Nat → Int32) → (Nat → Int32) → Prop
def lw_LR (REL : lw_RT) (tb : Nat → ClassId) (z0 t : Nat) (M : me_M) : Prop := ∃ (g : Nat → Int32) (G : Nat → Nat → Int32) (F sf inp out Fm w av od sv sl nz ip ot : Nat → Int32), lw_at tb z0 g G F sf inp out Fm w av od sv sl nz ip ot M ∧ REL t g G F sf inp out Fm w av od sv sl nz ip ot
