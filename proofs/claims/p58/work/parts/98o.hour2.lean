section HS
variable {S B L P : Nat} {g w : Nat → Int32}
theorem ag_u5 (h : ag S B L P g w) (hS : S ≤ 8) {k : Nat} (hk : k < 8) {v : Int32} : ag S B L P (upd g (9 + 10 * k + 5) v) w :=
  ⟨fun i hi => by rw [upd_n (by omega)]; exact h.1 i hi, fun j i hj hi => by rw [upd_n (by omega)]; exact h.2.1 j i hj hi, fun j i hj hi => by rw [upd_n (by omega)]; exact h.2.2.1 j i hj hi, fun j i hj hi => by rw [upd_n (by omega)]; exact h.2.2.2.1 j i hj hi, fun j i hj hi => by rw [upd_n (by omega)]; exact h.2.2.2.2 j i hj hi⟩
theorem upd_idd {f : Nat → Int32} {i : Nat} {v : Int32} (h : f i = v) : upd f i v = f := by
  funext q
  by_cases c : q = i
  · subst c; rw [upd_s, h]
  · rw [upd_n c]
theorem sm_o {h0 c : Int32} {k q : Nat} (h2 : q ≠ 9 + 10 * k + 2) (h3 : q ≠ 9 + 10 * k + 3) : smW L P h0 c k w q = w q := by
  unfold smW
  rw [upd_n h3, upd_n h2]
theorem so_sm1 {q h0 c : Int32} {k : Nat} (hk : k < S) (h : ag S B L P g w) (hW : wf w S B L P) (hc : w 2 = c) (hq : nI k = q ↔ ¬ h0 = -1 ∧ w (89 + 11 * ow w h0.toNatClampNeg) = nI k) : ag S B L P (soS L P q k g) (smW L P h0 c k w) ∧ soS L P q k g (9 + 10 * k + 5) = noF w L P k c ∧ ∀ j, j ≠ k → soS L P q k g (9 + 10 * j + 5) = g (9 + 10 * j + 5) := by
  have hS := hW.2.1
  have hn : noF g L P k (g 2) = noF w L P k c := by rw [ag_no h hW hk, ag_n h (by decide : 2 < 9), hc]
  have e2 := h.2.1 k 2 hk (by decide)
  have e3 := h.2.1 k 3 hk (by decide)
  unfold soS
  rw [hn, e2]
  by_cases c1 : nI k = q
  · rw [if_pos c1]
    refine ⟨?_, by rw [upd_n (by omega), upd_n (by omega), upd_s], fun j hj => by rw [upd_n (by omega), upd_n (by omega), upd_n (by omega)]⟩
    have : smW L P h0 c k w = upd (upd w (9 + 10 * k + 2) (w (9 + 10 * k + 2) + noF w L P k c)) (9 + 10 * k + 3) (w (9 + 10 * k + 3) + 1) := by
      unfold smW; rw [if_pos (hq.mp c1)]
    rw [this]
    exact ag_upd (ag_upd (ag_u5 h hS (by omega)) rfl) (by rw [e3])
  · rw [if_neg c1]
    refine ⟨?_, by rw [upd_n (by omega), upd_s], fun j hj => by rw [upd_n (by omega), upd_n (by omega)]⟩
    have : smW L P h0 c k w = upd w (9 + 10 * k + 2) (w (9 + 10 * k + 2) + noF w L P k c) := by
      unfold smW
      rw [if_neg (fun z => c1 (hq.mpr z)), Int32.add_zero]
      exact upd_idd (upd_n (by omega))
    rw [this]
    exact ag_upd (ag_u5 h hS (by omega)) rfl
theorem so_sm {q h0 c : Int32} : ∀ (r k : Nat) (g w nz : Nat → Int32), k + r ≤ S → ag S B L P g w → wf w S B L P → w 2 = c → (∀ j, j < k → g (9 + 10 * j + 5) = nz j) → (∀ i : Nat, i < 8 → (nI i = q ↔ ¬ h0 = -1 ∧ w (89 + 11 * ow w h0.toNatClampNeg) = nI i)) → ag S B L P (it (soS L P q) r k g) (it (smZ L P h0 c) r k (w, nz)).1 ∧ (∀ j, j < k + r → it (soS L P q) r k g (9 + 10 * j + 5) = (it (smZ L P h0 c) r k (w, nz)).2 j) ∧ wf (it (smZ L P h0 c) r k (w, nz)).1 S B L P
  | 0, k, g, w, nz, _, h, hW, _, hj, _ => ⟨h, hj, hW⟩
  | r + 1, k, g, w, nz, hr, h, hW, hc, hj, hq => by
    have hS := hW.2.1
    obtain ⟨a1, a2, a3⟩ := so_sm1 (by omega : k < S) h hW hc (hq k (by omega))
    have ho : ow (smW L P h0 c k w) h0.toNatClampNeg = ow w h0.toNatClampNeg := by
      show (smW L P h0 c k w (261 + 5 * h0.toNatClampNeg)).toNatClampNeg = _
      rw [sm_o (by omega) (by omega)]
      rfl
    have z := so_sm (q := q) (h0 := h0) (c := c) r (k + 1) (soS L P q k g) (smW L P h0 c k w) (smN L P c k w nz) (by omega) a1 (wf_sm hW (by omega)) ((sm_o (by omega) (by omega)).trans hc) (fun j hj2 => by
      by_cases e : j = k
      · subst e
        rw [a2]
        exact (upd_s _ _ _).symm
      · rw [a3 j e, hj j (by omega)]
        exact (upd_n e).symm) (fun i hi => by rw [ho, sm_o (by omega) (by omega)]; exact hq i hi)
    rw [show k + 1 + r = k + (r + 1) by omega] at z
    exact z
end HS
