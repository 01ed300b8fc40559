/-! ===== a name's letters, a borrower's text ===== -/
def nlF (nm : Int32) (r : Nat) : Int32 := (nm >>> (nI (5 * r) &&& 31)) &&& 31
def nlN (nm : Int32) (r : Nat) : Nat := (nlF nm r).toNatClampNeg
def shF (r : Nat) : Int32 := nI (5 * r) - 5
theorem sh_0 {r : Nat} (h6 : r ≤ 6) (h : shF r < 0) : r = 0 := by
  rcases (show r = 0 ∨ r = 1 ∨ r = 2 ∨ r = 3 ∨ r = 4 ∨ r = 5 ∨ r = 6 by omega) with rfl | rfl | rfl | rfl | rfl | rfl | rfl
  · rfl
  all_goals exact absurd h (by decide)
theorem sh_1 {r : Nat} (h6 : r ≤ 6) (h : ¬ shF r < 0) : ∃ r1, r = r1 + 1 ∧ shF r = nI (5 * r1) := by
  rcases (show r = 0 ∨ r = 1 ∨ r = 2 ∨ r = 3 ∨ r = 4 ∨ r = 5 ∨ r = 6 by omega) with rfl | rfl | rfl | rfl | rfl | rfl | rfl
  · exact absurd (by decide) h
  · exact ⟨0, rfl, rfl⟩
  · exact ⟨1, rfl, rfl⟩
  · exact ⟨2, rfl, rfl⟩
  · exact ⟨3, rfl, rfl⟩
  · exact ⟨4, rfl, rfl⟩
  · exact ⟨5, rfl, rfl⟩
theorem nl_in (nm : Int32) (r : Nat) : nlF nm r = nI (nlN nm r) ∧ nlN nm r ≤ 31 := by
  obtain ⟨j, hj, e⟩ := pk_andE (nm >>> (nI (5 * r) &&& 31)) (m := 31) 5 (by decide)
  have h2 : nlF nm r = nI j := e
  have h3 : nlN nm r = j := by unfold nlN; rw [h2]; exact nI_clamp (by omega)
  rw [h3]
  exact ⟨h2, by omega⟩
theorem nl_char {nm : Int32} {r : Nat} (h : ¬ nlF nm r = 0) : ((97 + nlF nm r - 1).toUInt32 % 65536).toInt32 = nI (96 + nlN nm r) := by
  obtain ⟨h1, h2⟩ := nl_in nm r
  have e : (97 : Int32) + nlF nm r - 1 = nI (96 + nlN nm r) := by
    rw [h1]
    refine (nx_sub (nx_add (nx_c 97) rfl) (show (1 : Int32) = nI 1 from rfl) (by omega)).trans ?_
    congr 1; omega
  rw [e]
  exact (sb_byte _ (by omega)).2.1
/-- the letters of r places behind a text of k letters -/
def anF (nm : Int32) : Nat → Nat → (Nat → Int32) → Nat × (Nat → Int32)
  | 0, k, t => (k, t)
  | r + 1, k, t => if nlF nm r = 0 then anF nm r k t else anF nm r (k + 1) (upd t k (sb_b (96 + nlN nm r)))
theorem an_t {nm : Int32} {r k : Nat} {t : Nat → Int32} (h : nlF nm r = 0) : anF nm (r + 1) k t = anF nm r k t := if_pos h
theorem an_f {nm : Int32} {r k : Nat} {t : Nat → Int32} (h : ¬ nlF nm r = 0) : anF nm (r + 1) k t = anF nm r (k + 1) (upd t k (sb_b (96 + nlN nm r))) := if_neg h
theorem an_le (nm : Int32) : ∀ (r k : Nat) (t : Nat → Int32), k ≤ (anF nm r k t).1 ∧ (anF nm r k t).1 ≤ k + r
  | 0, k, t => ⟨Nat.le_refl _, Nat.le_refl _⟩
  | r + 1, k, t => by
    by_cases h : nlF nm r = 0
    · rw [an_t h]; have := an_le nm r k t; omega
    · rw [an_f h]; have := an_le nm r (k + 1) (upd t k (sb_b (96 + nlN nm r))); omega
theorem an_fit (nm : Int32) : ∀ (r k : Nat) (t : Nat → Int32), sb_Fit t → sb_Fit (anF nm r k t).2
  | 0, k, t, h => h
  | r + 1, k, t, h => by
    by_cases c : nlF nm r = 0
    · rw [an_t c]; exact an_fit nm r k t h
    · rw [an_f c]; exact an_fit nm r (k + 1) _ (sb_fitU h (sb_fitB _))
/-- the first k letters are of seven bits -/
def asc (k : Nat) (t : Nat → Int32) : Prop := ∀ i, i < k → ∃ c, c < 128 ∧ t i = sb_b c
theorem asc_0 (t : Nat → Int32) : asc 0 t := fun i h => by omega
theorem asc_put {k c : Nat} {t : Nat → Int32} (h : asc k t) (hc : c < 128) : asc (k + 1) (upd t k (sb_b c)) := by
  intro i hi
  by_cases e : i = k
  · subst e; exact ⟨c, hc, upd_s _ _ _⟩
  · rw [upd_n e]; exact h i (by omega)
theorem asc_an (nm : Int32) : ∀ (r k : Nat) (t : Nat → Int32), asc k t → asc (anF nm r k t).1 (anF nm r k t).2
  | 0, k, t, h => h
  | r + 1, k, t, h => by
    by_cases c : nlF nm r = 0
    · rw [an_t c]; exact asc_an nm r k t h
    · rw [an_f c]; exact asc_an nm r (k + 1) _ (asc_put h (by have := (nl_in nm r).2; omega))
theorem asc_gs {w sg k : Nat} {t : Nat → Int32} (hs : sg ≤ 1) (h : asc k t) : asc (k + (sb_dg w + sg)) (gsF w sg (k + (sb_dg w + sg)) t) := by
  have h1 : ∀ i, i < k + (sb_dg w + sg) → (k + sg ≤ i → ∃ c, c < 128 ∧ gcF w (k + (sb_dg w + sg)) (sb_dg w) t i = sb_b c) ∧ (i < k → gcF w (k + (sb_dg w + sg)) (sb_dg w) t i = t i) := by
    intro i hi
    unfold gcF
    refine ⟨fun h2 => ⟨48 + w / 10 ^ (k + (sb_dg w + sg) - 1 - i) % 10, by omega, by rw [if_pos (by omega)]⟩, fun h2 => by rw [if_neg (by omega)]⟩
  intro i hi
  unfold gsF
  rcases (show sg = 0 ∨ sg = 1 by omega) with rfl | rfl
  · rw [if_pos rfl]
    by_cases h2 : i < k
    · rw [(h1 i hi).2 h2]; exact h i h2
    · exact (h1 i hi).1 (by omega)
  · have e10 : ¬ (1 : Nat) = 0 := by decide
    rw [if_neg e10, show k + (sb_dg w + 1) - sb_dg w - 1 = k by omega]
    by_cases h0 : i = k
    · subst h0; exact ⟨45, by omega, upd_s _ _ _⟩
    · rw [upd_n h0]
      by_cases h2 : i < k
      · rw [(h1 i hi).2 h2]; exact h i h2
      · exact (h1 i hi).1 (by omega)
section SBW
variable {tb : Nat → ClassId} {M : me_M} {N0 k q : Nat} {t : Nat → Int32} {y : va_E}
theorem sv_in (N0 k : Nat) : N0 < sv N0 k ∧ sv N0 k ≤ N0 + 2 := by unfold sv; split <;> omega
theorem sc_in (k : Nat) : sc k ≤ 34 ∧ (k ≤ 34 → k ≤ sc k) := by unfold sc; split <;> omega
theorem sbT_o : sbT tb M N0 k t N0 = some (.inr (9, [.ref (sv N0 k), .int 0, .int 0, .int (nI k)])) := by
  have := sv_in N0 k
  unfold sbT; exact sb_o (by omega)
theorem sbT_out (h : q < N0) : sbT tb M N0 k t q = M q := by
  have := sv_in N0 k
  unfold sbT sbV; rw [me_up_n (by omega), me_up_n (by omega)]
theorem sbT_up (h : q < N0) : me_up (sbT tb M N0 k t) q y = sbT tb (me_up M q y) N0 k t := by
  have := sv_in N0 k
  unfold sbT sbV
  exact (up_comm (by omega)).trans (congrArg (fun Z => me_up Z (sv N0 k) (.inl (tb 1, sc k, .inl (tx k t)))) (up_comm (by omega)))
theorem sb_start {c : va_E} : sbV tb (me_up M N0 c) N0 (N0 + 1) 16 0 (fun _ => 0) = sbT tb M N0 0 (fun _ => 0) := by
  rw [sbT_lo (by omega)]
  have e : tx 0 (fun _ => 0) = fun _ => 0 := by funext i; unfold tx; rw [if_neg (by omega)]
  rw [e]; unfold sbV; rw [me_up_up]
theorem sbT_sub {D : va_G} {z0 n : Nat} {s : State} {H : Heap} {locs : List Loc} (h : me_at D z0 (sbT tb M N0 k t) n s H locs) (hfr : ∀ q, N0 ≤ q → M q = none) : me_at D z0 M n s H locs := by
  refine h.sub (fun q x hq => ?_)
  by_cases e : q < N0
  · rw [sbT_out e]; exact hq
  · rw [hfr q (by omega)] at hq; cases hq
end SBW
theorem tx_at {k i : Nat} {t : Nat → Int32} (h : i < k) : tx k t i = t i := if_pos h
/-- a borrower's text: its length and letters, step by step -/
def wb1 (g : Nat → Int32) (b : Nat) : Nat × (Nat → Int32) := anF (g (89 + 11 * b + 5)) 6 0 (fun _ => 0)
def wb2 (g : Nat → Int32) (b : Nat) : Nat × (Nat → Int32) := anF (g (9 + 10 * hm g b + 4)) 6 ((wb1 g b).1 + 1) (upd (wb1 g b).2 (wb1 g b).1 (sb_b 64))
def wb3 (g : Nat → Int32) (b : Nat) : Nat × (Nat → Int32) := ((wb2 g b).1 + 1, upd (wb2 g b).2 (wb2 g b).1 (sb_b 32))
def wb4 (g : Nat → Int32) (b il : Nat) : Nat × (Nat → Int32) := ((wb3 g b).1 + (sb_dg il + 0), gsF il 0 ((wb3 g b).1 + (sb_dg il + 0)) (wb3 g b).2)
def wb5 (g : Nat → Int32) (b il : Nat) : Nat × (Nat → Int32) := ((wb4 g b il).1 + 1, upd (wb4 g b il).2 (wb4 g b il).1 (sb_b 32))
def wb6 (g : Nat → Int32) (b il sg w : Nat) : Nat × (Nat → Int32) := ((wb5 g b il).1 + (sb_dg w + sg), gsF w sg ((wb5 g b il).1 + (sb_dg w + sg)) (wb5 g b il).2)
theorem wb_1 (g : Nat → Int32) (b : Nat) : (wb1 g b).1 ≤ 6 ∧ sb_Fit (wb1 g b).2 ∧ asc (wb1 g b).1 (wb1 g b).2 := ⟨(an_le _ 6 0 _).2, an_fit _ _ _ _ sb_fit0, asc_an _ _ _ _ (asc_0 _)⟩
theorem wb_2 (g : Nat → Int32) (b : Nat) : (wb2 g b).1 ≤ 13 ∧ sb_Fit (wb2 g b).2 ∧ asc (wb2 g b).1 (wb2 g b).2 := by
  obtain ⟨h1, h2, h3⟩ := wb_1 g b
  have := (an_le (g (9 + 10 * hm g b + 4)) 6 ((wb1 g b).1 + 1) (upd (wb1 g b).2 (wb1 g b).1 (sb_b 64))).2
  exact ⟨by show (anF _ _ _ _).1 ≤ 13; omega, an_fit _ _ _ _ (sb_fitU h2 (sb_fitB _)), asc_an _ _ _ _ (asc_put h3 (by omega))⟩
theorem wb_3 (g : Nat → Int32) (b : Nat) : (wb3 g b).1 ≤ 14 ∧ sb_Fit (wb3 g b).2 ∧ asc (wb3 g b).1 (wb3 g b).2 := by
  obtain ⟨h1, h2, h3⟩ := wb_2 g b
  exact ⟨by show (wb2 g b).1 + 1 ≤ 14; omega, sb_fitU h2 (sb_fitB _), asc_put h3 (by omega)⟩
theorem wb_4 (g : Nat → Int32) (b : Nat) {il : Nat} (hil : il ≤ 9) : (wb4 g b il).1 ≤ 15 ∧ sb_Fit (wb4 g b il).2 ∧ asc (wb4 g b il).1 (wb4 g b il).2 := by
  obtain ⟨h1, h2, h3⟩ := wb_3 g b
  have hd := dg_1 hil
  exact ⟨by show (wb3 g b).1 + (sb_dg il + 0) ≤ 15; omega, gs_fit h2, asc_gs (by omega) h3⟩
theorem wb_5 (g : Nat → Int32) (b : Nat) {il : Nat} (hil : il ≤ 9) : (wb5 g b il).1 ≤ 16 ∧ sb_Fit (wb5 g b il).2 ∧ asc (wb5 g b il).1 (wb5 g b il).2 := by
  obtain ⟨h1, h2, h3⟩ := wb_4 g b hil
  exact ⟨by show (wb4 g b il).1 + 1 ≤ 16; omega, sb_fitU h2 (sb_fitB _), asc_put h3 (by omega)⟩
theorem wb_6 (g : Nat → Int32) (b : Nat) {il sg w : Nat} (hil : il ≤ 9) (hs : sg ≤ 1) : (wb6 g b il sg w).1 ≤ 27 ∧ sb_Fit (wb6 g b il sg w).2 ∧ asc (wb6 g b il sg w).1 (wb6 g b il sg w).2 := by
  obtain ⟨h1, h2, h3⟩ := wb_5 g b hil
  have hd := (sb_dg_in w).2
  exact ⟨by show (wb5 g b il).1 + (sb_dg w + sg) ≤ 27; omega, gs_fit h2, asc_gs hs h3⟩
def otS (t : Nat → Int32) (i : Nat) (o : Nat → Int32) : Nat → Int32 := upd o i (t i)
