/-! ===== the beginning, every case by its place ===== -/
section FIN1
variable {t : Nat} {g w av od sv sl nz ip ot F sf Fm inp out : Nat → Int32} {G : Nat → Nat → Int32}
theorem rel_qn (h : REL0 t g G F sf inp out Fm w av od sv sl nz ip ot) {i : Nat} (hi : i < 9) : g i = w i := by
  obtain ⟨S, B, L, P, T, a, -⟩ := lw_good0 _ _ _ _ _ _ _ _ _ _ _ _ _ _ _ _ h
  exact ag_n a hi
theorem rel_q2 (h : REL0 t g G F sf inp out Fm w av od sv sl nz ip ot) : F 2 = Fm 5 := by
  obtain ⟨nx, ct, il, ol, s0, s1, -, -, -, n, -⟩ := h
  exact n.1
theorem rel_q3 (h : REL0 t g G F sf inp out Fm w av od sv sl nz ip ot) : F 3 = Fm 6 := by
  obtain ⟨nx, ct, il, ol, s0, s1, -, -, -, n, -⟩ := h
  exact n.2.1
theorem rel_q5 (h : REL0 t g G F sf inp out Fm w av od sv sl nz ip ot) : F 5 = Fm 1 := by
  obtain ⟨nx, ct, il, ol, s0, s1, -, -, -, n, -⟩ := h
  exact n.2.2.2.2.1.2.2.2.1.trans n.2.2.2.2.1.2.2.2.2.symm
end FIN1
theorem lw_skip0 (tb : Nat → ClassId) (z0 t : Nat) (M : me_M) (_ : t < 512) (h : lw_LR REL0 tb z0 t M) : lw_LR REL0 tb z0 (t + 1) M := by
  obtain ⟨g, G, F, sf, inp, out, Fm, w, av, od, sv, sl, nz, ip, ot, ha, hr⟩ := h
  have z := lw_keep0 _ _ _ _ _ _ _ _ _ _ _ _ _ _ _ _ (Fm 0) hr
  rw [upd_id (F := Fm) (i := 0) rfl] at z
  exact ⟨g, G, F, sf, inp, out, Fm, w, av, od, sv, sl, nz, ip, ot, ha, z⟩
theorem rel_h0 : REL0 0 (rG ftY) (fun _ _ => 0) (upd (fun _ => 0) 3 (-1)) (fun _ => 0) (fun _ => 0) (fun _ => 0) (upd zz 6 (-1)) iwZ.1 zz zz zz isE iwZ.2 zz zz := by
  refine ⟨0, 0, 0, 0, false, false, ⟨2, 3, 2, 1, 5, rv_mono rv_h0 (Nat.le_trans (by decide) (lim_0 0)), oi_Z, by decide⟩, fun i hi => absurd hi (by omega), ⟨fun z => absurd z (by decide), fun z => absurd z (by decide)⟩, ⟨?_, ?_, ⟨by omega, ?_, ?_⟩, ⟨by omega, ?_, ?_⟩, ⟨by omega, by omega, ?_, ?_, ?_⟩, rfl, rfl, ?_⟩, rfl, rfl⟩
  · rw [upd_n (by decide), upd_n (by decide)]
  · rw [upd_s, upd_s]
  all_goals (rw [upd_n (by decide)]; rfl)
theorem lw_h0 (tb : Nat → ClassId) (z0 : Nat) : lw_LR REL0 tb z0 0 (lw_MA tb z0) := by
  refine ⟨rG ftY, fun _ _ => 0, upd (fun _ => 0) 3 (-1), fun _ => 0, fun _ => 0, fun _ => 0, upd zz 6 (-1), iwZ.1, zz, zz, zz, isE, iwZ.2, zz, zz, ⟨?_, ?_, ⟨fun _ => 0, ?_⟩, fun _ => 0, me_up_s _ _ _⟩, rel_h0⟩
  · have h : sp tb (z0 + 722) (rG ftY) (bq tb z0 (fun _ _ => 0) (upd (fun _ => 0) 3 (-1)) (fun _ => 0) (fun _ => 0) (fun _ => 0) (lw_Mc tb z0)) = lw_Mc tb z0 := lw_lay_c.idem
    refine lw_lay_c.absorb h (fun q a b => ?_)
    unfold lw_MA
    rw [me_up_n (by omega), me_up_n (by omega)]
    exact lw_lay_m.out (Or.inl (by omega))
  · have h : mq tb (z0 + 919) (upd zz 6 (-1)) iwZ.1 zz zz zz isE iwZ.2 zz zz (lw_Mm tb z0) = lw_Mm tb z0 := lw_lay_m.idem
    refine lw_lay_m.absorb h (fun q a b => ?_)
    unfold lw_MA
    rw [me_up_n (by omega), me_up_n (by omega)]
  · unfold lw_MA
    rw [me_up_n (by omega), me_up_s]
section FIN2
variable {p : Program} {e : Env} {s : State} {m : MethodId} {args : Array Value} {below : List Frame} {meth : Method} {c : Code} {Q : State → Prop}
variable {D : va_G} {tb : Nat → ClassId} {z0 b L : Nat} {xs : Nat → Int32} {kK kV : Nat → Nat} {kO kT : Nat}
theorem lw_all (l : Launch) (hfl : l.stackTraces = false) (hC : me_cx ws_all p c cL_law 10 s args m RL D tb (lw_X kK kV kO kT z0) z0) (hX : va_X b L xs s s.heap) (hbl : b < s.heap.size) (hbA : ¬ me_A z0 b) (hL : L ≤ 3072) : ∀ k pc0 : Nat, lw_hd[k]? = some pc0 → lw_ck p l e room_1 s m args below meth c Q D z0 b L z0 (z0 + 919) (z0 + 929) (z0 + 930) (lw_LR REL0 tb z0) pc0 := by
  have hN : ∀ U, lw_X kK kV kO kT z0 U → me_nest U := fun U h => h.1
  have hXs : ∀ U, lw_X kK kV kO kT z0 U → me_xs z0 U := fun U h => h.2.1
  have hKS : ∀ U, lw_X kK kV kO kT z0 U → me_ks kK kV z0 U := fun U h => h.2.2.1
  have hKD : ∀ U, lw_X kK kV kO kT z0 U → me_kd kO kT z0 U := fun U h => h.2.2.2.1
  have hCE : ∀ U, lw_X kK kV kO kT z0 U → me_ce U := fun U h => h.2.2.2.2.1
  intro k pc0 h
  match k, h with
  | 0, h =>
    have e : some 280 = some pc0 := h
    cases e
    exact lw_n0 l hfl hC hN hXs hCE hX hbl hbA hL
  | 1, h =>
    have e : some 384 = some pc0 := h
    cases e
    exact lw_n1 l hfl hC hN hXs hCE kK kV hKS hX hbl hbA hL
  | 2, h =>
    have e : some 440 = some pc0 := h
    cases e
    exact lw_n2 l hC hL (fun t g G F sf inp out Fm w av od sv sl nz ip ot h => lw_keep0 _ _ _ _ _ _ _ _ _ _ _ _ _ _ _ _ 0 h) (fun t g G F sf inp out Fm w av od sv sl nz ip ot h => rel_q2 h)
  | 3, h =>
    have e : some 453 = some pc0 := h
    cases e
    exact lw_n3 l hC hL (fun t g G F sf inp out Fm w av od sv sl nz ip ot h => lw_keep0 _ _ _ _ _ _ _ _ _ _ _ _ _ _ _ _ 0 h) (fun t g G F sf inp out Fm w av od sv sl nz ip ot h => rel_q3 h)
  | 4, h =>
    have e : some 466 = some pc0 := h
    cases e
    exact lw_n4 l hC hL (fun t g G F sf inp out Fm w av od sv sl nz ip ot h => lw_keep0 _ _ _ _ _ _ _ _ _ _ _ _ _ _ _ _ 0 h) (fun t g G F sf inp out Fm w av od sv sl nz ip ot h => rel_qn h (by decide : 2 < 9))
  | 5, h =>
    have e : some 479 = some pc0 := h
    cases e
    exact lw_n5 l hC hL (fun t g G F sf inp out Fm w av od sv sl nz ip ot h => lw_keep0 _ _ _ _ _ _ _ _ _ _ _ _ _ _ _ _ 0 h) (fun t g G F sf inp out Fm w av od sv sl nz ip ot h => by rw [rel_qn h (by decide : 2 < 9)])
  | 6, h =>
    have e : some 492 = some pc0 := h
    cases e
    exact lw_n6 l hC hL (fun t g G F sf inp out Fm w av od sv sl nz ip ot h => lw_keep0 _ _ _ _ _ _ _ _ _ _ _ _ _ _ _ _ 0 h) (fun t g G F sf inp out Fm w av od sv sl nz ip ot h => rel_qn h (by decide : 0 < 9))
  | 7, h =>
    have e : some 505 = some pc0 := h
    cases e
    exact lw_n7 l hC hL (fun t g G F sf inp out Fm w av od sv sl nz ip ot h => lw_keep0 _ _ _ _ _ _ _ _ _ _ _ _ _ _ _ _ 0 h) (fun t g G F sf inp out Fm w av od sv sl nz ip ot h => rel_qn h (by decide : 1 < 9))
  | 8, h =>
    have e : some 518 = some pc0 := h
    cases e
    exact lw_n8 l hC hL (fun t g G F sf inp out Fm w av od sv sl nz ip ot h => lw_keep0 _ _ _ _ _ _ _ _ _ _ _ _ _ _ _ _ 0 h) (fun t g G F sf inp out Fm w av od sv sl nz ip ot h => rel_qn h (by decide : 3 < 9))
  | 9, h =>
    have e : some 531 = some pc0 := h
    cases e
    exact lw_n9 l hC hL (fun t g G F sf inp out Fm w av od sv sl nz ip ot h => lw_keep0 _ _ _ _ _ _ _ _ _ _ _ _ _ _ _ _ 0 h) (fun t g G F sf inp out Fm w av od sv sl nz ip ot h => rel_qn h (by decide : 4 < 9))
  | 10, h =>
    have e : some 544 = some pc0 := h
    cases e
    exact lw_n10 l hC hL (fun t g G F sf inp out Fm w av od sv sl nz ip ot h => lw_keep0 _ _ _ _ _ _ _ _ _ _ _ _ _ _ _ _ 0 h) (fun t g G F sf inp out Fm w av od sv sl nz ip ot h => rel_qn h (by decide : 6 < 9))
  | 11, h =>
    have e : some 557 = some pc0 := h
    cases e
    exact lw_n11 l hC hL (fun t g G F sf inp out Fm w av od sv sl nz ip ot h => lw_keep0 _ _ _ _ _ _ _ _ _ _ _ _ _ _ _ _ 0 h) (fun t g G F sf inp out Fm w av od sv sl nz ip ot h => rel_qn h (by decide : 5 < 9))
  | 12, h =>
    have e : some 570 = some pc0 := h
    cases e
    exact lw_n12 l hfl hC hN hXs hCE hX hbl hbA hL lw_good0 lw_keep0
  | 13, h =>
    have e : some 626 = some pc0 := h
    cases e
    exact lw_n13 l hC hL (fun t g G F sf inp out Fm w av od sv sl nz ip ot h => lw_keep0 _ _ _ _ _ _ _ _ _ _ _ _ _ _ _ _ 0 h) (fun t g G F sf inp out Fm w av od sv sl nz ip ot h => rel_q5 h)
  | 14, h =>
    have e : some 639 = some pc0 := h
    cases e
    exact lw_n14 l hfl hC hN hXs hCE hX hbl hbA hL lw_good0 lw_keep0
  | 15, h =>
    have e : some 695 = some pc0 := h
    cases e
    exact lw_n15 l hfl hC hN hXs hCE hX hbl hbA hL lw_good0 lw_keep0
  | 16, h =>
    have e : some 763 = some pc0 := h
    cases e
    exact lw_n16 l hfl hC hN hXs hCE hX hbl hbA hL lw_good0 lw_keep0
  | 17, h =>
    have e : some 819 = some pc0 := h
    cases e
    exact lw_n17 l hfl hC hN hXs hCE hX hbl hbA hL lw_good0 lw_keep0
  | 18, h =>
    have e : some 875 = some pc0 := h
    cases e
    exact lw_n18 l hC hL lw_good0 lw_keep0
  | 19, h =>
    have e : some 888 = some pc0 := h
    cases e
    exact lw_n19 l hfl hC hN hXs hCE hX hbl hbA hL lw_good0 lw_keep0
  | 20, h =>
    have e : some 944 = some pc0 := h
    cases e
    exact lw_n20 l hfl hC hN hXs hCE hX hbl hbA hL lw_good0 lw_keep0
  | 21, h =>
    have e : some 1000 = some pc0 := h
    cases e
    exact lw_n21 l hfl hC hN hXs hCE hX hbl hbA hL lw_good0 lw_keep0
  | 22, h =>
    have e : some 1056 = some pc0 := h
    cases e
    exact lw_n22 l hfl hC hN hXs hCE hX hbl hbA hL lw_good0 lw_keep0
  | 23, h =>
    have e : some 1112 = some pc0 := h
    cases e
    exact lw_n23 l hC hL lw_good0 lw_keep0
  | 24, h =>
    have e : some 1125 = some pc0 := h
    cases e
    exact lw_n24 l hfl hC hN hXs hCE hX hbl hbA hL lw_good0 lw_keep0
  | 25, h =>
    have e : some 1181 = some pc0 := h
    cases e
    exact lw_n25 l hfl hC hN hXs hCE hX hbl hbA hL lw_good0 lw_keep0
  | 26, h =>
    have e : some 1237 = some pc0 := h
    cases e
    exact lw_n26 l hfl hC hN hXs hCE hX hbl hbA hL lw_good0 lw_keep0
  | 27, h =>
    have e : some 1293 = some pc0 := h
    cases e
    exact lw_n27 l hfl hC hN hXs hCE hX hbl hbA hL lw_good0 lw_keep0
  | 28, h =>
    have e : some 1349 = some pc0 := h
    cases e
    exact lw_n28 l hfl hC hN hXs hCE hX hbl hbA hL lw_good0 lw_keep0
  | 29, h =>
    have e : some 1405 = some pc0 := h
    cases e
    exact lw_n29 l hfl hC hN hXs hCE hX hbl hbA hL lw_good0 lw_keep0
  | 30, h =>
    have e : some 1461 = some pc0 := h
    cases e
    exact lw_n30 l hfl hC hN hXs hCE hX hbl hbA hL lw_good0 lw_keep0
  | 31, h =>
    have e : some 1529 = some pc0 := h
    cases e
    exact lw_n31 l hC hL lw_good0 lw_keep0
  | 32, h =>
    have e : some 1542 = some pc0 := h
    cases e
    exact lw_n32 l hfl hC hN hXs hCE hX hbl hbA hL lw_good0 lw_keep0
  | 33, h =>
    have e : some 1610 = some pc0 := h
    cases e
    exact lw_n33 l hfl hC hN hXs hCE hX hbl hbA hL lw_good0 lw_keep0
  | 34, h =>
    have e : some 1690 = some pc0 := h
    cases e
    exact lw_n34 l hfl hC hN hXs hCE hX hbl hbA hL lw_good0 lw_keep0
  | 35, h =>
    have e : some 1770 = some pc0 := h
    cases e
    exact lw_n35 l hfl hC hN hXs hCE hX hbl hbA hL lw_good0 lw_keep0
  | 36, h =>
    have e : some 1850 = some pc0 := h
    cases e
    exact lw_n36 l hfl hC hN hXs hCE hX hbl hbA hL lw_good0 lw_keep0
  | 37, h =>
    have e : some 1918 = some pc0 := h
    cases e
    exact lw_n37 l hfl hC hN hXs hCE hX hbl hbA hL lw_good0 lw_keep0
  | 38, h =>
    have e : some 1986 = some pc0 := h
    cases e
    exact lw_n38 l hfl hC hN hXs hCE hX hbl hbA hL
  | 39, h =>
    have e : some 2054 = some pc0 := h
    cases e
    exact lw_n39 l hfl hC hN hXs hCE hX hbl hbA hL lw_good0 lw_keep0
  | 40, h =>
    have e : some 2131 = some pc0 := h
    cases e
    exact lw_n40 l hC hL lw_good0 lw_keep0
  | 41, h =>
    have e : some 2174 = some pc0 := h
    cases e
    exact lw_n41 l hC hL lw_good0 lw_keep0
  | 42, h =>
    have e : some 2187 = some pc0 := h
    cases e
    exact lw_n42 l hfl hC hN hXs hCE hX hbl hbA hL
  | 43, h =>
    have e : some 2267 = some pc0 := h
    cases e
    exact lw_n43 l hfl hC hN hXs hCE hX hbl hbA hL
  | 44, h =>
    have e : some 2323 = some pc0 := h
    cases e
    exact lw_n44 l hfl hC hN hXs hCE hX hbl hbA hL
  | 45, h =>
    have e : some 2379 = some pc0 := h
    cases e
    exact lw_n45 l hfl hC hN hXs hCE hX hbl hbA hL
  | 46, h =>
    have e : some 2459 = some pc0 := h
    cases e
    exact lw_n46 l hfl hC hN hXs hCE hX hbl hbA hL
  | 47, h =>
    have e : some 2515 = some pc0 := h
    cases e
    exact lw_n47 l hfl hC hN hXs hCE hX hbl hbA hL
  | 48, h =>
    have e : some 2583 = some pc0 := h
    cases e
    exact lw_n48 l hfl hC hN hXs hCE hX hbl hbA hL
  | 49, h =>
    have e : some 2639 = some pc0 := h
    cases e
    exact lw_n49 l hfl hC hN hXs hCE hX hbl hbA hL
  | 50, h =>
    have e : some 2695 = some pc0 := h
    cases e
    exact lw_n50 l hfl hC hN hXs hCE hX hbl hbA hL
  | 51, h =>
    have e : some 2739 = some pc0 := h
    cases e
    exact lw_n51 l hfl hC hN hXs hCE hX hbl hbA hL
  | 52, h =>
    have e : some 2795 = some pc0 := h
    cases e
    exact lw_n52 l hfl hC hN hXs hCE hX hbl hbA hL
  | 53, h =>
    have e : some 2808 = some pc0 := h
    cases e
    exact lw_n53 l hfl hC hN hXs hCE kK kV kO kT hKS hKD hX hbl hbA hL
  | 54, h =>
    have e : some 2864 = some pc0 := h
    cases e
    exact lw_n54 l hfl hC hN hXs hCE hX hbl hbA hL
  | k + 55, h =>
    have e : lw_hd[k + 55]? = none := List.getElem?_eq_none (by rw [lw_hd_len]; omega)
    rw [e] at h
    cases h
end FIN2
