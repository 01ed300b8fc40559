/-! ===== an act keeps the invariant; the sum over rows that agree; a row copied ===== -/
theorem it_cf {α : Type} {f f' : Nat → α → α} : ∀ (r k : Nat) (x : α), (∀ j y, k ≤ j → j < k + r → f j y = f' j y) → it f r k x = it f' r k x
  | 0, _, _, _ => rfl
  | r + 1, k, x, h => by
    show it f r (k + 1) (f k x) = it f' r (k + 1) (f' k x)
    rw [h k x (Nat.le_refl _) (by omega)]
    exact it_cf r (k + 1) _ (fun j y a b => h j y (by omega) (by omega))
section IV7
variable {N N' T T' S B L P : Nat} {g g' w : Nat → Int32}
theorem iv_stp {L2 P2 T2 : Nat} {g2 : Nat → Int32} (h : iv N T S B L P g) (hT : T + 12 ≤ 9900) (hN : N ≤ 400000) (hB1 : 1 ≤ B) (hs : stp S B L P T g g2 L2 P2 T2) : iv (N + 1800) T2 S B L2 P2 g2 ∧ T ≤ T2 ∧ T2 ≤ T + 12 := by
  rcases hs with ⟨b, s, n, hb, h1, h2, h3, h4, h5, rfl, rfl, rfl, rfl⟩ | ⟨k, hk, h0, rfl, rfl, rfl, rfl⟩ | ⟨k, hk, h0, rfl, rfl, rfl, rfl⟩ | ⟨s1, s, n, h1, h2, h3, h4, h5, ⟨h6, h7⟩, rfl, rfl, rfl, rfl⟩ | ⟨k, hk, h0, rfl, rfl, rfl, rfl⟩ | ⟨b, n, hb, h1, h2, rfl, rfl, rfl, rfl⟩ | ⟨n, h1, h2, rfl, rfl, rfl, rfl⟩
  · exact ⟨(iv_ad h (by omega) (by omega) hb h1 h2 h3 h4 h5).1, by omega, by omega⟩
  · exact ⟨iv_mono (iv_ca h hk h0 (by omega)) (by omega), by omega, by omega⟩
  · exact ⟨iv_mono (iv_ws h hk h0) (by omega), by omega, by omega⟩
  · exact ⟨iv_mono (iv_ap h (by omega) h1 h2 h3 h4 h5 h6 h7) (by omega), by omega, by omega⟩
  · exact ⟨iv_mono (iv_rv h hk) (by omega), by omega, by omega⟩
  · exact ⟨iv_mono (iv_py h hb h2 (by omega)) (by omega), by omega, by omega⟩
  · exact ⟨iv_mono (iv_pa (by omega) hB1 n T g h (by omega)) (by omega), by omega, by omega⟩
/-- a row that is copied -/
theorem iv_cp (h : iv N T S B L P w) (g : Nat → Int32) : ag S B L P (cpF w S B L P g) w := ag_cp (ag_rf w) h.1 h.2.2.2.2.2.2.2.2.1
theorem iv_sum (h : ag S B L P g w) (hi : iv N T S B L P w) (hT : T ≤ 9900) : sumF g S B L P T = sumF w S B L P T := by
  have hW := hi.1
  have hgT : g 2 = w 2 := h.1 2 (by decide)
  unfold sumF
  have e1 : it (smS g L P) S 0 (31 * (31 * (nI T).toInt64 + (nI P).toInt64) + (nI L).toInt64) = it (smS w L P) S 0 (31 * (31 * (nI T).toInt64 + (nI P).toInt64) + (nI L).toInt64) := it_cf S 0 _ (fun j y _ hj => by
    unfold smS
    rw [h.2.1 j 2 (by omega) (by decide), h.2.1 j 3 (by omega) (by decide), hgT, ag_no h hW (by omega)])
  have e2 : ∀ x, it (smB g L P) B 0 x = it (smB w L P) B 0 x := fun x => it_cf B 0 _ (fun j y _ hj => by
    unfold smB
    have c0 : g (89 + 11 * j) = w (89 + 11 * j) := h.2.2.1 j 0 (by omega) (by decide)
    rw [c0, h.2.2.1 j 1 (by omega) (by decide), h.2.2.1 j 2 (by omega) (by decide), fc_eq (hh := 20) (fun _ => 0) h hW hi.2.2.1 hi.2.1 (by omega) (by omega) (by omega), fc_eq (hh := 20) (fun _ => 0) (ag_rf w) hW hi.2.2.1 hi.2.1 (by omega) (by omega) (by omega)])
  have e3 : ∀ x, it (smL g) L 0 x = it (smL w) L 0 x := fun x => it_cf L 0 _ (fun j y _ hj => by
    unfold smL
    have c0 : g (261 + 5 * j) = w (261 + 5 * j) := h.2.2.2.2 j 0 (by omega) (by decide)
    rw [c0, h.2.2.2.2 j 1 (by omega) (by decide), h.2.2.2.2 j 2 (by omega) (by decide), h.2.2.2.2 j 3 (by omega) (by decide), h.2.2.2.2 j 4 (by omega) (by decide)])
  have e4 : ∀ x, it (smP g S P T) 48 0 x = it (smP w S P T) 48 0 x := fun x => it_cf 48 0 _ (fun j y _ hj => by
    unfold smP
    exact it_cf S 0 _ (fun i z _ hi => by unfold smQ; rw [ag_pe h]))
  rw [e1, e2, e3, e4]
end IV7
