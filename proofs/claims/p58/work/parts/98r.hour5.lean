section HG
variable {S B L P : Nat} {g w : Nat → Int32}
theorem ag_bg (h : ag S B L P g w) {k : Nat} (hk : k < L) : ag S B L P (bgS k g) (bgS k w) := by
  have e : bgP g k ↔ bgP w k := by
    unfold bgP
    rw [h.2.2.2.2 k 1 hk (by decide), h.2.2.2.2 k 4 hk (by decide), ag_n h (by decide : 2 < 9)]
  unfold bgS
  by_cases c : bgP w k
  · rw [if_pos c, if_pos (e.mpr c)]; exact ag_upd h rfl
  · rw [if_neg c, if_neg (fun z => c (e.mp z))]; exact h
theorem ag_en (h : ag S B L P g w) {k : Nat} (hk : k < L) : ag S B L P (enS k g) (enS k w) := by
  have e : enP g k ↔ enP w k := by
    unfold enP
    rw [h.2.2.2.2 k 1 hk (by decide), h.2.2.2.2 k 2 hk (by decide), h.2.2.2.2 k 4 hk (by decide), ag_n h (by decide : 2 < 9)]
  unfold enS
  by_cases c : enP w k
  · rw [if_pos c, if_pos (e.mpr c)]; exact ag_upd h rfl
  · rw [if_neg c, if_neg (fun z => c (e.mp z))]; exact h
theorem ag_la (h : ag S B L P g w) {k : Nat} (hk : k < L) : laP g k ↔ laP w k := by
  unfold laP
  rw [h.2.2.2.2 k 1 hk (by decide), h.2.2.2.2 k 2 hk (by decide), h.2.2.2.2 k 4 hk (by decide), ag_n h (by decide : 2 < 9), ag_n h (by decide : 0 < 9)]
theorem ag_ch (h : ag S B L P g w) (hW : wf w S B L P) {k : Nat} (hk : k < L) : ag S B L P (chS k g) (chS k w) := by
  have e := ag_la h hk
  have ho := (hW.2.2.2.2.2.2.2.2.2 k hk).2
  unfold chS
  by_cases c : laP w k
  · rw [if_pos c, if_pos (e.mpr c), ag_ow h hk, h.2.2.1 _ 2 ho (by decide), ag_n h (by decide : 1 < 9), ag_n h (by decide : 8 < 9)]
    exact ag_upd (ag_upd (ag_upd h rfl) rfl) rfl
  · rw [if_neg c, if_neg (fun z => c (e.mp z))]; exact h
theorem ag_cl (h : ag S B L P g w) (hW : wf w S B L P) {k : Nat} (hk : k < L) : ag S B L P (clS k g) (clS k w) := ag_ch (ag_en h hk) (wf_en hW (by have := hW.2.2.2.2.2.1; omega)) hk
theorem ag_clI (h : ag S B L P g w) (hW : wf w S B L P) : ag S B L P (it clS L 0 g) (it clS L 0 w) ∧ wf (it clS L 0 w) S B L P :=
  ag_it (f := clS) (f' := clS) (fun k g w hk h hW => ⟨ag_cl h hW hk, wf_cl2 hW hk⟩) L 0 g w (by omega) h hW
theorem ag_bgI (h : ag S B L P g w) (hW : wf w S B L P) : ag S B L P (it bgS L 0 g) (it bgS L 0 w) ∧ wf (it bgS L 0 w) S B L P :=
  ag_it (f := bgS) (f' := bgS) (fun k g w hk h hW => ⟨ag_bg h hk, wf_bg hW (by have := hW.2.2.2.2.2.1; omega)⟩) L 0 g w (by omega) h hW
theorem ag_clN : ∀ (r k : Nat) (g w : Nat → Int32), k + r ≤ L → ag S B L P g w → wf w S B L P → clN r k g = clN r k w
  | 0, _, _, _, _, _, _ => rfl
  | r + 1, k, g, w, hk, h, hW => by
    have e := ag_la (ag_en h (by omega : k < L)) (by omega : k < L)
    show (if laP (enS k g) k then 1 else 0) + clN r (k + 1) (clS k g) = (if laP (enS k w) k then 1 else 0) + clN r (k + 1) (clS k w)
    rw [ag_clN r (k + 1) (clS k g) (clS k w) (by omega) (ag_cl h hW (by omega)) (wf_cl2 hW (by omega))]
    by_cases c : laP (enS k w) k
    · rw [if_pos c, if_pos (e.mpr c)]
    · rw [if_neg c, if_neg (fun z => c (e.mp z))]
end HG
