section FO3
variable {S B L P : Nat} {w : Nat → Int32} {c : Int32}
theorem fx_bg (j : Nat) (hP : P ≤ 10) (hB : B ≤ 12) (hS : S ≤ 8) : fx S B L P c w (bgS j w) := by
  have o : ∀ q, q ≠ 261 + 5 * j + 4 → bgS j w q = w q := fun q h => by
    unfold bgS; split
    · exact upd_n h
    · rfl
  exact ⟨fun k _ f _ => hd_bg j k f 1, fun k _ => o _ (by omega), fun b hb => o _ (by omega), fun q _ _ => o _ (by omega), fun s hs => ⟨o _ (by omega), o _ (by omega)⟩⟩
theorem fx_cell {w' : Nat → Int32} (hB : B ≤ 12) (hS : S ≤ 8) (h : ∀ q, 221 ≤ q → w' q = w q) (h2 : ∀ b, b < B → w' (89 + 11 * b) = w (89 + 11 * b)) (h3 : ∀ s, s < S → w' (9 + 10 * s) = w (9 + 10 * s) ∧ w' (9 + 10 * s + 1) = w (9 + 10 * s + 1)) : fx S B L P c w w' :=
  ⟨fun k _ f _ => by
    show hd (w' (261 + 5 * k + 4)) (w' (261 + 5 * k + 1)) (w' (261 + 5 * k + 2)) f 1 ↔ _
    rw [h _ (by omega), h _ (by omega), h _ (by omega)], fun k _ => h _ (by omega), h2, fun q a _ => h q a, h3⟩
theorem fx_cl (hW : wf w S B L P) {j : Nat} (hj : j < L) (hc : w 2 ≤ c) : fx S B L P c w (clS j w) := by
  have hL := hW.2.2.2.2.2.1
  have hB := hW.2.2.2.1
  have hS := hW.2.1
  have hE : wf (enS j w) S B L P := wf_en hW (by omega)
  have ho := (hE.2.2.2.2.2.2.2.2.2 j hj).2
  have o : ∀ q, q ≠ 261 + 5 * j + 4 → q ≠ 89 + 11 * ow (enS j w) j + 2 → q ≠ 8 → clS j w q = w q := fun q h1 h2 h3 => (ch_cell h1 h2 h3).trans (en_cell h1)
  exact ⟨fun k _ f hf => (hd_ch hE hj k f 1).trans (hd_en j k f 1 (Int32.le_trans hc hf)), fun k _ => o _ (by omega) (by omega) (by omega), fun b hb => o _ (by omega) (by omega) (by omega), fun q _ _ => o _ (by omega) (by omega) (by omega), fun s hs => ⟨o _ (by omega) (by omega) (by omega), o _ (by omega) (by omega) (by omega)⟩⟩
theorem cl_2 {j : Nat} : clS j w 2 = w 2 := (ch_cell (by omega) (by omega) (by omega)).trans (en_cell (by omega))
theorem fx_clI : ∀ (r k : Nat) (w : Nat → Int32), k + r ≤ L → wf w S B L P → w 2 ≤ c → fx S B L P c w (it clS r k w)
  | 0, _, _, _, _, _ => fx.rf
  | r + 1, k, w, hk, hW, hc => (fx_cl hW (by omega) hc).tr (fx_clI r (k + 1) (clS k w) (by omega) (wf_cl2 hW (by omega)) (by rw [cl_2]; exact hc))
theorem fx_bgI (hP : P ≤ 10) (hB : B ≤ 12) (hS : S ≤ 8) : ∀ (r k : Nat) (w : Nat → Int32), fx S B L P c w (it bgS r k w)
  | 0, _, _ => fx.rf
  | r + 1, k, w => (fx_bg k hP hB hS).tr (fx_bgI hP hB hS r (k + 1) (bgS k w))
theorem fx_smI {h0 x : Int32} (hB : B ≤ 12) (hS : S ≤ 8) : ∀ (r k : Nat) (z : WN), k + r ≤ 8 → fx S B L P c z.1 (it (smZ L P h0 x) r k z).1
  | 0, _, _, _ => fx.rf
  | r + 1, k, z, hk => (fx_cell (w' := smW L P h0 x k z.1) hB hS (fun q h => sm_o (by omega) (by omega)) (fun b _ => sm_o (by omega) (by omega)) (fun s hs => ⟨sm_o (by omega) (by omega), sm_o (by omega) (by omega)⟩)).tr (fx_smI hB hS r (k + 1) (smZ L P h0 x k z) (by omega))
theorem fx_feI {nz : Nat → Int32} (hB : B ≤ 12) (hS : S ≤ 8) : ∀ (r k : Nat) (w : Nat → Int32), k + r ≤ B → fx S B L P c w (it (feS nz) r k w)
  | 0, _, _, _ => fx.rf
  | r + 1, k, w, hk => (fx_cell (w' := feS nz k w) hB hS (fun q h => (fe_c nz w k).2.2.2 q (by omega) (by omega) (by omega)) (fun b _ => (fe_c nz w k).2.2.2 _ (by omega) (by omega) (by omega)) (fun s hs => ⟨(fe_c nz w k).2.2.2 _ (by omega) (by omega) (by omega), (fe_c nz w k).2.2.2 _ (by omega) (by omega) (by omega)⟩)).tr (fx_feI hB hS r (k + 1) (feS nz k w) (by omega))
end FO3
