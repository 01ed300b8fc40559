section HJ
variable {S B L P : Nat} {g w : Nat → Int32}
theorem ho_q (h : ag S B L P g w) (hW : wf w S B L P) : ∀ i : Nat, i < 8 → (nI i = quF g L ↔ ¬ hoF w L (w 2) = -1 ∧ w (89 + 11 * ow w (hoF w L (w 2)).toNatClampNeg) = nI i) := by
  intro i hi
  unfold quF
  rw [ag_ho h, ag_n h (by decide : 2 < 9)]
  by_cases c : hoF w L (w 2) = -1
  · rw [if_pos c]
    exact ⟨fun z => absurd z (nI_nm1 (by omega)), fun z => absurd c z.1⟩
  · rw [if_neg c]
    obtain ⟨k, hk, e, -⟩ := hoF_le w L (w 2) (by have := hW.2.2.2.2.2.1; omega) c
    have hL := hW.2.2.2.2.2.1
    have e2 : (hoF w L (w 2)).toNatClampNeg = k := by rw [e]; exact nI_clamp (by omega)
    rw [e2, ag_ow h hk, show g (89 + 11 * ow w k) = w (89 + 11 * ow w k) from h.2.2.1 _ 0 (hW.2.2.2.2.2.2.2.2.2 k hk).2 (by decide)]
    exact ⟨fun z => ⟨c, z.symm⟩, fun z => z.2.symm⟩
theorem bg_o : ∀ (r k : Nat) (w : Nat → Int32) (q : Nat), q < 261 → it bgS r k w q = w q
  | 0, _, _, _, _ => rfl
  | r + 1, k, w, q, h => by
    show it bgS r (k + 1) (bgS k w) q = w q
    rw [bg_o r (k + 1) _ q h]
    unfold bgS; split
    · exact upd_n (by omega)
    · rfl
theorem sm_it {h0 c : Int32} : ∀ (r k : Nat) (x : WN) (q : Nat), k + r ≤ 8 → 89 ≤ q → (it (smZ L P h0 c) r k x).1 q = x.1 q
  | 0, _, _, _, _, _ => rfl
  | r + 1, k, x, q, hk, h => by
    show (it (smZ L P h0 c) r (k + 1) (smW L P h0 c k x.1, smN L P c k x.1 x.2)).1 q = x.1 q
    rw [sm_it r (k + 1) _ q (by omega) h]
    exact sm_o (by omega) (by omega)
theorem bnd_c {w' : Nat → Int32} (hB : B ≤ 12) (h : bnd B w) (e : ∀ q, 89 ≤ q → q < 221 → w' q = w q) : bnd B w' := by
  intro b hb
  obtain ⟨a, r, t, z⟩ := h b hb
  refine ⟨a, r, t, ?_⟩
  rw [e _ (by omega) (by omega), e _ (by omega) (by omega), e _ (by omega) (by omega)]
  exact z
end HJ
section HK
variable {S B L P : Nat} {g w : Nat → Int32}
/-- an hour keeps the agreement, and as many loans become overdue -/
theorem hour_ag (nz : Nat → Int32) (h : ag S B L P g w) (hW : wf w S B L P) (hb : bnd B w) : ag S B L P (hoS S B L P g) (hmS S B L P (w, nz)).1 ∧ chN L 0 (hoA S B L P g) = clN L 0 (hmA S B L P w nz) ∧ wf (hmA S B L P w nz) S B L P ∧ bnd B (hmA S B L P w nz) := by
  have hS := hW.2.1
  have hB := hW.2.2.2.1
  have hL := hW.2.2.2.2.2.1
  obtain ⟨b1, w1⟩ := ag_bgI h hW
  have bb : bnd B (it bgS L 0 w) := bnd_c hB hb (fun q _ h2 => bg_o L 0 w q (by omega))
  obtain ⟨s1, sn, sW⟩ := so_sm (q := quF (it bgS L 0 g) L) (h0 := hoF (it bgS L 0 w) L (it bgS L 0 w 2)) (c := it bgS L 0 w 2) S 0 (it bgS L 0 g) (it bgS L 0 w) nz (by omega) b1 w1 rfl (fun j hj => by omega) (ho_q b1 w1)
  have sb : bnd B (it (smZ L P (hoF (it bgS L 0 w) L (it bgS L 0 w 2)) (it bgS L 0 w 2)) S 0 (it bgS L 0 w, nz)).1 := bnd_c hB bb (fun q h1 _ => sm_it S 0 _ q (by omega) h1)
  obtain ⟨e1, eW, eb⟩ := he_lp B 0 _ _ (by omega) s1 sW sb (fun j hj => sn j (by omega))
  have fA : ag S B L P (upd (it heS B 0 (soF (it bgS L 0 g) S L P)) 2 (it heS B 0 (soF (it bgS L 0 g) S L P) 2 + 1)) (hmA S B L P w nz) := by
    refine ag_upd (w := hmF S B L P w nz) e1 ?_
    have z := ag_n e1 (by decide : 2 < 9)
    exact congrArg (· + 1) z
  have fW : wf (hmA S B L P w nz) S B L P := wf_upd eW (by omega) (fun b _ => by omega) (fun k _ => by omega)
  have fb : bnd B (hmA S B L P w nz) := bnd_c hB eb (fun q h1 _ => upd_n (by omega))
  have gW := ag_wf fA fW
  refine ⟨?_, ?_, fW, fb⟩
  · have e := it_cl L 0 _ gW (by omega)
    have r := (ag_clI fA fW).1
    rw [← e] at r
    exact r
  · exact (ch_cl L 0 _ gW (by omega)).trans (ag_clN L 0 _ _ (by omega) fA fW)
end HK
