/-! ===== saved states, and what the other calls keep ===== -/
section RLZ
variable {N N' S B L P T nx ct il ol t k : Nat} {s0 s1 : Bool} {g g' w w' av av' od sv sl sl' nz nz' ip ot F sf Fm inp out : Nat → Int32} {G : Nat → Nat → Int32}
def sk (s0 s1 : Bool) (k : Nat) : Bool := if k = 0 then s0 else s1
theorem sb_0 (s : Bool) : sb s = 0 ↔ s = false := by cases s <;> decide
theorem sv_bit : ∀ s0 s1 : Bool, (nI (sn2 s0 s1) >>> (nI 0 &&& 31) &&& 1 : Int32) = sb s0 ∧ (nI (sn2 s0 s1) >>> (nI 1 &&& 31) &&& 1 : Int32) = sb s1 := by decide +kernel
theorem sv_or : ∀ s0 s1 : Bool, (nI (sn2 s0 s1) ||| 1 <<< (nI 0 &&& 31) : Int32) = nI (sn2 true s1) ∧ (nI (sn2 s0 s1) ||| 1 <<< (nI 1 &&& 31) : Int32) = nI (sn2 s0 true) := by decide +kernel
theorem rn_sk (h : RN nx ct il ol s0 s1 F sf Fm) (hk : k < 2) : sf k = sb (sk s0 s1 k) ∧ (Fm 2 >>> (nI k &&& 31) &&& 1) = sb (sk s0 s1 k) := by
  obtain ⟨-, -, -, -, -, h6, h7, h8⟩ := h
  rw [h8]
  rcases (show k = 0 ∨ k = 1 by omega) with rfl | rfl
  · exact ⟨h6, (sv_bit s0 s1).1⟩
  · exact ⟨h7, (sv_bit s0 s1).2⟩
theorem rs_at (h : RS N s0 s1 G sv) (hk : k < 2) (hs : sk s0 s1 k = true) : RX N (G (12 + k)) (fun j => sv (k * 411 + j)) := by
  rcases (show k = 0 ∨ k = 1 by omega) with rfl | rfl
  · exact h.1 hs
  · exact h.2 hs
theorem le2 {x : Int32} (h : x < 0 ∨ nI 2 ≤ x) : x < 0 ∨ (1 : Int32) < x := by
  rcases h with h | h
  · exact Or.inl h
  · refine Or.inr ?_
    rw [Int32.le_iff_toInt_le, nI_toInt (by omega)] at h
    rw [Int32.lt_iff_toInt_lt]
    have e1 : (1 : Int32).toInt = 1 := by decide
    omega
/-- the present state is saved -/
theorem rel_save (hr : REL0 t g G F sf inp out Fm w av od sv sl nz ip ot) (hk : k < 2) (hV : RV (lim t) S B L P g w) (hO : ok1 S B L P T w) (hT : T ≤ 9999) : REL0 (t + 1) g (updG G (12 + k) (cpF g S B L P (G (12 + k)))) F (upd sf k (vp_nar .boolean 1)) inp out (upd (upd Fm 2 (Fm 2 ||| 1 <<< (nI k &&& 31))) 0 0) w av od (cq sv w (k * 411) 411) sl nz ip ot := by
  obtain ⟨nx, ct, il, ol, s0, s1, hX, hH, hS, ⟨m1, m2, n3, n4, n5, n6, n7, n8⟩, hip, hot⟩ := hr
  have hl := lim_le t
  have v : ∀ i, i ≠ 0 → i ≠ 2 → upd (upd Fm 2 (Fm 2 ||| 1 <<< (nI k &&& 31))) 0 0 i = Fm i := fun i h1 h2 => (upd_n h1).trans (upd_n h2)
  have vb : vp_nar .boolean 1 = 1 := by decide
  have hH2 : RH (lim (t + 1)) nx ct (updG G (12 + k) (cpF g S B L P (G (12 + k)))) od := fun i hi => by
    rw [updG_n (by omega)]
    exact rx_mono (hH i hi) hl
  have new : RX (lim (t + 1)) (cpF g S B L P (G (12 + k))) (fun j => cq sv w (k * 411) 411 (k * 411 + j)) := rx_cg (rx_mono (rx_cp hV hO hT) hl) (fun q hq => cq_i hq)
  have e2 : upd (upd Fm 2 (Fm 2 ||| 1 <<< (nI k &&& 31))) 0 0 2 = nI (sn2 s0 s1) ||| 1 <<< (nI k &&& 31) := by
    rw [upd_n (by decide), upd_s, n8]
  rcases (show k = 0 ∨ k = 1 by omega) with rfl | rfl
  · refine ⟨nx, ct, il, ol, true, s1, rx_mono hX hl, hH2, ⟨fun _ => ?_, fun z => ?_⟩, ⟨?_, ?_, ⟨n3.1, n3.2.1, ?_⟩, ⟨n4.1, n4.2.1, ?_⟩, ⟨n5.1, n5.2.1, n5.2.2.1, n5.2.2.2.1, ?_⟩, ?_, ?_, ?_⟩, hip, hot⟩
    · rw [updG_s]; exact new
    · rw [updG_n (by decide)]
      exact rx_cg (rx_mono (hS.2 z) hl) (fun q hq => cq_n (by omega))
    · rw [v 5 (by decide) (by decide)]; exact m1
    · rw [v 6 (by decide) (by decide)]; exact m2
    · rw [v 3 (by decide) (by decide)]; exact n3.2.2
    · rw [v 4 (by decide) (by decide)]; exact n4.2.2
    · rw [v 1 (by decide) (by decide)]; exact n5.2.2.2.2
    · rw [upd_s, vb]; rfl
    · rw [upd_n (by decide)]; exact n7
    · rw [e2]; exact (sv_or s0 s1).1
  · refine ⟨nx, ct, il, ol, s0, true, rx_mono hX hl, hH2, ⟨fun z => ?_, fun _ => ?_⟩, ⟨?_, ?_, ⟨n3.1, n3.2.1, ?_⟩, ⟨n4.1, n4.2.1, ?_⟩, ⟨n5.1, n5.2.1, n5.2.2.1, n5.2.2.2.1, ?_⟩, ?_, ?_, ?_⟩, hip, hot⟩
    · rw [updG_n (by decide)]
      exact rx_cg (rx_mono (hS.1 z) hl) (fun q hq => cq_n (by omega))
    · rw [updG_s]; exact new
    · rw [v 5 (by decide) (by decide)]; exact m1
    · rw [v 6 (by decide) (by decide)]; exact m2
    · rw [v 3 (by decide) (by decide)]; exact n3.2.2
    · rw [v 4 (by decide) (by decide)]; exact n4.2.2
    · rw [v 1 (by decide) (by decide)]; exact n5.2.2.2.2
    · rw [upd_n (by decide)]; exact n6
    · rw [upd_s, vb]; rfl
    · rw [e2]; exact (sv_or s0 s1).2
/-- a change is undone -/
theorem rel_undo {om py : Nat} (hX : RX (lim (t + 1)) g' w') (hH : RH (lim t) nx (om + 1) G od) (hS : RS (lim t) s0 s1 G sv) (hN : RN nx (om + 1) il ol s0 s1 F sf Fm) (hpy : (nx + 10 - 1) % 10 = py) (hip : inp = ip) (hot : out = ot) : REL0 (t + 1) g' G (upd (upd F 4 (nI py)) 5 (nI om)) sf inp out (upd (upd Fm 1 (nI om)) 0 0) w' av od sv sl nz ip ot := by
  have hl := lim_le t
  obtain ⟨m1, m2, n3, n4, n5, n6, n7, n8⟩ := hN
  have v : ∀ i, 1 < i → upd (upd Fm 1 (nI om)) 0 0 i = Fm i := fun i hi => by rw [upd_n (by omega), upd_n (by omega)]
  have u : ∀ i, i < 4 → upd (upd F 4 (nI py)) 5 (nI om) i = F i := fun i hi => by rw [upd_n (by omega), upd_n (by omega)]
  refine ⟨py, om, il, ol, s0, s1, hX, fun i hi => ?_, rs_mono hS hl, ⟨?_, ?_, ⟨n3.1, ?_, ?_⟩, ⟨n4.1, ?_, ?_⟩, ⟨by omega, by omega, ?_, ?_, ?_⟩, n6, n7, ?_⟩, hip, hot⟩
  · have z := hH i (by omega)
    have n0 := n5.1
    have n1 := n5.2.1
    rw [show (py + 10 - om + i) % 10 = (nx + 10 - (om + 1) + i) % 10 by omega]
    exact rx_mono z hl
  · rw [u 2 (by omega), v 5 (by omega)]; exact m1
  · rw [u 3 (by omega), v 6 (by omega)]; exact m2
  · rw [u 0 (by omega)]; exact n3.2.1
  · rw [v 3 (by omega)]; exact n3.2.2
  · rw [u 1 (by omega)]; exact n4.2.1
  · rw [v 4 (by omega)]; exact n4.2.2
  · rw [upd_n (by decide), upd_s]
  · rw [upd_s]
  · rw [upd_n (by decide), upd_s]
  · rw [v 2 (by omega)]; exact n8
/-- the row of the model is what it was, where it counts -/
theorem rel_same (hr : REL0 t g G F sf inp out Fm w av od sv sl nz ip ot) (e : ∀ q, q < 411 → w' q = w q) : REL0 (t + 1) g G F sf inp out (upd Fm 0 0) w' av' od sv sl' nz' ip ot := by
  obtain ⟨nx, ct, il, ol, s0, s1, h1, h2, h3, h4, h5, h6⟩ := lw_keep0 _ _ _ _ _ _ _ _ _ _ _ _ _ _ _ _ 0 hr
  exact ⟨nx, ct, il, ol, s0, s1, rx_cg h1 e, h2, h3, h4, h5, h6⟩
/-- something is written -/
theorem rel_out {n : Nat} {o : Nat → Int32} (hr : REL0 t g G F sf inp out Fm w av od sv sl nz ip ot) (hn : n ≤ 40) : REL0 (t + 1) g G (upd F 1 (nI n)) sf inp o (upd (upd Fm 4 (nI n)) 0 0) w av od sv sl nz ip o := by
  obtain ⟨nx, ct, il, ol, s0, s1, h1, h2, h3, ⟨m1, m2, n3, n4, n5, n6, n7, n8⟩, h5, h6⟩ := hr
  have hl := lim_le t
  have v : ∀ i, i ≠ 0 → i ≠ 4 → upd (upd Fm 4 (nI n)) 0 0 i = Fm i := fun i h1 h2 => (upd_n h1).trans (upd_n h2)
  refine ⟨nx, ct, il, n, s0, s1, rx_mono h1 hl, rh_mono h2 hl, rs_mono h3 hl, ⟨?_, ?_, ⟨n3.1, ?_, ?_⟩, ⟨hn, upd_s _ _ _, ?_⟩, ⟨n5.1, n5.2.1, ?_, ?_, ?_⟩, n6, n7, ?_⟩, h5, rfl⟩
  · rw [upd_n (by decide), v 5 (by decide) (by decide)]; exact m1
  · rw [upd_n (by decide), v 6 (by decide) (by decide)]; exact m2
  · rw [upd_n (by decide)]; exact n3.2.1
  · rw [v 3 (by decide) (by decide)]; exact n3.2.2
  · rw [upd_n (by decide), upd_s]
  · rw [upd_n (by decide)]; exact n5.2.2.1
  · rw [upd_n (by decide)]; exact n5.2.2.2.1
  · rw [v 1 (by decide) (by decide)]; exact n5.2.2.2.2
  · rw [v 2 (by decide) (by decide)]; exact n8
/-- bytes are appended -/
theorem rel_app {n : Nat} {i2 : Nat → Int32} (hr : REL0 t g G F sf inp out Fm w av od sv sl nz ip ot) (hn : n ≤ 700) : REL0 (t + 1) g G (upd F 0 (nI n)) sf i2 out (upd (upd Fm 3 (nI n)) 0 0) w av od sv sl nz i2 ot := by
  obtain ⟨nx, ct, il, ol, s0, s1, h1, h2, h3, ⟨m1, m2, n3, n4, n5, n6, n7, n8⟩, h5, h6⟩ := hr
  have hl := lim_le t
  have v : ∀ i, i ≠ 0 → i ≠ 3 → upd (upd Fm 3 (nI n)) 0 0 i = Fm i := fun i h1 h2 => (upd_n h1).trans (upd_n h2)
  refine ⟨nx, ct, n, ol, s0, s1, rx_mono h1 hl, rh_mono h2 hl, rs_mono h3 hl, ⟨?_, ?_, ⟨hn, upd_s _ _ _, ?_⟩, ⟨n4.1, ?_, ?_⟩, ⟨n5.1, n5.2.1, ?_, ?_, ?_⟩, n6, n7, ?_⟩, rfl, h6⟩
  · rw [upd_n (by decide), v 5 (by decide) (by decide)]; exact m1
  · rw [upd_n (by decide), v 6 (by decide) (by decide)]; exact m2
  · rw [upd_n (by decide), upd_s]
  · rw [upd_n (by decide)]; exact n4.2.1
  · rw [v 4 (by decide) (by decide)]; exact n4.2.2
  · rw [upd_n (by decide)]; exact n5.2.2.1
  · rw [upd_n (by decide)]; exact n5.2.2.2.1
  · rw [v 1 (by decide) (by decide)]; exact n5.2.2.2.2
  · rw [v 2 (by decide) (by decide)]; exact n8
/-- a text is read, and has an error -/
theorem rel_ldx {gd : Nat → Int32} {kd len : Nat} {eo : Int32} {q : QS} (hr : REL0 t g G F sf inp out Fm w av od sv sl nz ip ot) (hk : qFl q = kd) (he : eo = qFa q) (e : ∀ j, j < 411 → w' j = w j) : REL0 (t + 1) g (updG G 0 gd) (upd (upd (upd F 0 0) 2 (nI kd)) 3 eo) sf inp out (upd (upd (upd (upd (pqF (upd Fm 7 (nI len)) q) 3 0) 5 (nI (qFl q))) 6 (qFa q)) 0 2) w' av' od sv sl' nz' ip ot := by
  obtain ⟨nx, ct, il, ol, s0, s1, h1, h2, h3, ⟨m1, m2, n3, n4, n5, n6, n7, n8⟩, h5, h6⟩ := hr
  have hl := lim_le t
  have v : ∀ i, i ≠ 0 → i ≠ 3 → i ≠ 5 → i ≠ 6 → i < 7 → upd (upd (upd (upd (pqF (upd Fm 7 (nI len)) q) 3 0) 5 (nI (qFl q))) 6 (qFa q)) 0 2 i = Fm i := fun i h0 h3 h5 h6 h7 => by
    rw [upd_n h0, upd_n h6, upd_n h5, upd_n h3, pqF_r (by omega), upd_n (by omega)]
  have u : ∀ i, i ≠ 0 → i ≠ 2 → i ≠ 3 → upd (upd (upd F 0 0) 2 (nI kd)) 3 eo i = F i := fun i h0 h2 h3 => by
    rw [upd_n h3, upd_n h2, upd_n h0]
  refine ⟨nx, ct, 0, ol, s0, s1, rx_cg (rx_mono h1 hl) e, fun i hi => ?_, ⟨fun z => ?_, fun z => ?_⟩, ⟨?_, ?_, ⟨by omega, ?_, ?_⟩, ⟨n4.1, ?_, ?_⟩, ⟨n5.1, n5.2.1, ?_, ?_, ?_⟩, n6, n7, ?_⟩, h5, h6⟩
  · rw [updG_n (by omega)]; exact rx_mono (h2 i hi) hl
  · rw [updG_n (by decide)]; exact rx_mono (h3.1 z) hl
  · rw [updG_n (by decide)]; exact rx_mono (h3.2 z) hl
  · rw [upd_n (by decide), upd_s, upd_n (by decide), upd_n (by decide), upd_s, hk]
  · rw [upd_s, upd_n (by decide), upd_s, he]
  · rw [upd_n (by decide), upd_n (by decide), upd_s]; rfl
  · rw [upd_n (by decide), upd_n (by decide), upd_n (by decide), upd_s]; rfl
  · rw [u 1 (by decide) (by decide) (by decide)]; exact n4.2.1
  · rw [v 4 (by decide) (by decide) (by decide) (by decide) (by decide)]; exact n4.2.2
  · rw [u 4 (by decide) (by decide) (by decide)]; exact n5.2.2.1
  · rw [u 5 (by decide) (by decide) (by decide)]; exact n5.2.2.2.1
  · rw [v 1 (by decide) (by decide) (by decide) (by decide) (by decide)]; exact n5.2.2.2.2
  · rw [v 2 (by decide) (by decide) (by decide) (by decide) (by decide)]; exact n8
/-- a text is read, and is good -/
theorem rel_ld {gd : Nat → Int32} {kd len : Nat} {eo : Int32} {q : QS} (hr : REL0 t g G F sf inp out Fm w av od sv sl nz ip ot) (hk : qFl q = kd) (hk0 : kd = 0) (he : eo = -1) (hX : RX (lim (t + 1)) g' w') : REL0 (t + 1) g' (updG G 0 gd) (upd (upd (upd (upd F 0 0) 2 (nI kd)) 3 eo) 5 0) (upd (upd sf 0 (vp_nar .boolean 0)) 1 (vp_nar .boolean 0)) inp out (upd (upd (upd (upd (upd (upd (pqF (upd Fm 7 (nI len)) q) 3 0) 5 (nI (qFl q))) 6 (-1)) 1 0) 2 0) 0 0) w' av' od sv sl' nz' ip ot := by
  obtain ⟨nx, ct, il, ol, s0, s1, h1, h2, h3, ⟨m1, m2, n3, n4, n5, n6, n7, n8⟩, h5, h6⟩ := hr
  have vb : vp_nar .boolean 0 = 0 := by decide
  refine ⟨nx, 0, 0, ol, false, false, hX, fun i hi => absurd hi (by omega), ⟨fun z => absurd z (by decide), fun z => absurd z (by decide)⟩, ⟨?_, ?_, ⟨by omega, ?_, ?_⟩, ⟨n4.1, ?_, ?_⟩, ⟨n5.1, by omega, ?_, ?_, ?_⟩, ?_, ?_, ?_⟩, h5, h6⟩
  · rw [upd_n (by decide), upd_n (by decide), upd_s, upd_n (by decide), upd_n (by decide), upd_n (by decide), upd_n (by decide), upd_s, hk]
  · rw [upd_n (by decide), upd_s, upd_n (by decide), upd_n (by decide), upd_n (by decide), upd_s, he]
  · rw [upd_n (by decide), upd_n (by decide), upd_n (by decide), upd_s]; rfl
  · rw [upd_n (by decide), upd_n (by decide), upd_n (by decide), upd_n (by decide), upd_n (by decide), upd_s]; rfl
  · rw [upd_n (by decide), upd_n (by decide), upd_n (by decide), upd_n (by decide)]; exact n4.2.1
  · rw [upd_n (by decide), upd_n (by decide), upd_n (by decide), upd_n (by decide), upd_n (by decide), upd_n (by decide), pqF_r (by decide), upd_n (by decide)]; exact n4.2.2
  · rw [upd_n (by decide), upd_n (by decide), upd_n (by decide), upd_n (by decide)]; exact n5.2.2.1
  · rw [upd_s]; rfl
  · rw [upd_n (by decide), upd_n (by decide), upd_s]; rfl
  · rw [upd_n (by decide), upd_s, vb]; rfl
  · rw [upd_s, vb]; rfl
  · rw [upd_n (by decide), upd_s]; rfl
theorem nI_tn (x : Int32) : nI x.toBitVec.toNat = x := by
  apply Int32.toBitVec_inj.mp
  show BitVec.ofNat 32 x.toBitVec.toNat = x.toBitVec
  rw [BitVec.ofNat_toNat, BitVec.setWidth_eq]
/-- any numbers of the model are a reader's place -/
def pqO (Fm : Nat → Int32) : QS := ((Fm 8).toBitVec.toNat, (Fm 9).toBitVec.toNat, (Fm 10).toBitVec.toNat, Fm 11, (Fm 12).toBitVec.toNat, Fm 13)
theorem pqO_e (Fm : Nat → Int32) : pqF Fm (pqO Fm) = Fm := by
  funext i
  unfold pqF
  show (if i = 8 then nI (Fm 8).toBitVec.toNat else if i = 9 then nI (Fm 9).toBitVec.toNat else if i = 10 then nI (Fm 10).toBitVec.toNat else if i = 11 then Fm 11 else if i = 12 then nI (Fm 12).toBitVec.toNat else if i = 13 then Fm 13 else Fm i) = Fm i
  rw [nI_tn, nI_tn, nI_tn, nI_tn]
  by_cases c8 : i = 8
  · subst c8; rfl
  by_cases c9 : i = 9
  · subst c9; rfl
  by_cases c10 : i = 10
  · subst c10; rfl
  by_cases c11 : i = 11
  · subst c11; rfl
  by_cases c12 : i = 12
  · subst c12; rfl
  by_cases c13 : i = 13
  · subst c13; rfl
  rw [if_neg c8, if_neg c9, if_neg c10, if_neg c11, if_neg c12, if_neg c13]
end RLZ
