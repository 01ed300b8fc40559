section LNC2
variable {p : Program} {e : Env} {s : State} {m : MethodId} {args : Array Value} {below : List Frame} {meth : Method} {c : Code} {Q : State → Prop}
variable {D : va_G} {tb : Nat → ClassId} {X : State → Prop} {z0 b L : Nat} {xs : Nat → Int32}
set_option maxHeartbeats 1000000 in
theorem lw_n49 (l : Launch) (hfl : l.stackTraces = false) (hC : me_cx ws_all p c cL_law 10 s args m RL D tb X z0) (hN : ∀ U, X U → me_nest U) (hXs : ∀ U, X U → me_xs z0 U) (hCE : ∀ U, X U → me_ce U) (hX : va_X b L xs s s.heap) (hbl : b < s.heap.size) (hbA : ¬ me_A z0 b) (hL : L ≤ 3072) : lw_ck p l e room_1 s m args below meth c Q D z0 b L z0 (z0 + 919) (z0 + 929) (z0 + 930) (lw_LR REL0 tb z0) 2639 := by
  intro t n M ls H locs h6 hR hM hl kk
  obtain ⟨g, G, F, sf, inp, out, Fm, w, av, od, sv, sl, nz, ip, ot, ha, hr⟩ := hR
  have hr0 := hr
  obtain ⟨nx, ct, il, ol, s0, s1, ⟨S, B, L9, P, T, hV, hO, hT⟩, hH, hS, hNN, hip, hot⟩ := hr0
  have hNN2 := hNN
  obtain ⟨m1, m2, ⟨il0, il1, il2⟩, ⟨ol0, ol1, ol2⟩, ⟨nx0, ct0, nx1, ct1, om1⟩, sf0, sf1, sf2⟩ := hNN2
  have hag := hV.1
  have hW := ag_wf hag hO.1
  have hT2 : g 2 = nI T := (ag_n hag (by decide)).trans hO.2.2
  have hS3 : g 3 = nI S := hW.1
  have hB4 : g 4 = nI B := hW.2.2.1
  have hL6 : g 6 = nI L9 := hW.2.2.2.2.1
  have hP5 : g 5 = nI P := hW.2.2.2.2.2.2.1
  have hw2 : w 2 = nI T := hO.2.2
  have hw3 : w 3 = nI S := hO.1.1
  have hw4 : w 4 = nI B := hO.1.2.2.1
  have hw5 : w 5 = nI P := hO.1.2.2.2.2.2.2.1
  have hw6 : w 6 = nI L9 := hO.1.2.2.2.2.1
  have hS8 := hO.1.2.1
  have hB12 := hO.1.2.2.2.1
  have hL30 := hO.1.2.2.2.2.2.1
  have hP10 := hO.1.2.2.2.2.2.2.2.1
  have ht : t ≤ 511 := by omega
  have hlb := lim_b (t := t) (by omega)
  have hls := lim_s t
  have hl0 := lim_0 t
  rcases lw_ix (xs (6 * t + 1)) 2 (by omega) with hb | ⟨i0, u0, e0⟩
  · have ct7 := (c_X7_restore_x1 l D tb X z0 n z0 g G F sf inp out M S B L9 P (xs (6 * t + 1)) hfl hXs hW hb)
    rw [ha.1] at ct7
    exact lw_b49_x1 l (mc := 1) (ms := 6) (mc2 := 0) (ms2 := 0) hCE hC hX hbl hbA hL h6 hM hl rfl ha ha rfl rfl ⟨by decide, by decide⟩ ⟨by decide, by decide⟩ rfl rfl ⟨by decide, by decide⟩ (upd_s _ _ _) (lw_keep0 _ _ _ _ _ _ _ _ _ _ _ _ _ _ _ _ 1 hr) ct7 (fun n1 M0 => (c_X8_restore_x1 l D tb X z0 n1 (z0 + 919) Fm w av od sv sl nz ip ot M0 S B L9 P T (xs (6 * t + 1)) hO (by omega) (le2 hb))) kk
  obtain ⟨k1, k2⟩ := rn_sk hNN u0
  by_cases hs : sk s0 s1 i0 = true
  rotate_left
  · have hs2 : sb (sk s0 s1 i0) = 0 := (sb_0 _).mpr (by
      cases hq : sk s0 s1 i0 with
      | false => rfl
      | true => exact absurd hq hs)
    have ct7 := (c_X7_restore_x2 l D tb X z0 n z0 g G F sf inp out M S B L9 P i0 hfl hXs hW u0 (k1.trans hs2))
    rw [ha.1] at ct7
    exact lw_b49_x2 l (mc := 1) (ms := 6) (mc2 := 0) (ms2 := 0) hCE hC hX hbl hbA hL h6 hM hl e0 ha ha rfl rfl ⟨by decide, by decide⟩ ⟨by decide, by decide⟩ rfl rfl ⟨by decide, by decide⟩ (upd_s _ _ _) (lw_keep0 _ _ _ _ _ _ _ _ _ _ _ _ _ _ _ _ 2 hr) ct7 (fun n1 M0 => (c_X8_restore_x2 l D tb X z0 n1 (z0 + 919) Fm w av od sv sl nz ip ot M0 S B L9 P T i0 hO (by omega) u0 (k2.trans hs2))) kk
  have hs3 : ¬ sb (sk s0 s1 i0) = 0 := fun z => by
    rw [(sb_0 _).mp z] at hs
    exact absurd hs (by decide)
  have hrs := rs_at hS u0 hs
  have hrs2 := hrs
  obtain ⟨S2, B2, L2, P2, T2, hV2, hO2, hT22⟩ := hrs2
  have eG : recG G g S B L9 P nx (12 + i0) = G (12 + i0) := by
    unfold recG
    exact updG_n (by omega)
  have eq1 : ∀ q, q < 411 → cq w (fun j => sv (i0 * 411 + j)) 0 411 q = sv (i0 * 411 + q) := fun q hq => by
    have z := cq_i (d := w) (s := fun j => sv (i0 * 411 + j)) (o := 0) hq
    rwa [Nat.zero_add] at z
  have hq : cpF (G (12 + i0)) S2 B2 L2 P2 g 2 = cq w (fun j => sv (i0 * 411 + j)) 0 411 2 := by
    rw [eq1 2 (by decide), cpF_n hO2.1.2.1 hO2.1.2.2.2.1 hO2.1.2.2.2.2.2.1 hO2.1.2.2.2.2.2.2.2.1 (by decide)]
    exact ag_n hV2.1 (by decide)
  have ct7 := (c_X7_restore l D tb X z0 n z0 g G F sf inp out M S B L9 P nx ct i0 S2 B2 L2 P2 hW nx1 nx0 ct1 ct0 u0 (by rw [k1]; exact hs3) (ag_wf hV2.1 hO2.1))
  rw [ha.1, eG, hq] at ct7
  have hll := lim_le t
  exact lw_a49 l (mc := 0) (ms := 0) (mc2 := 0) (ms2 := 0) hC hX hbl hbA hL h6 hM hl e0 ha ha.cls rfl rfl ⟨by decide, by decide⟩ ⟨by decide, by decide⟩ rfl rfl ⟨by decide, by decide⟩ (upd_s _ _ _) (rel_rec ht (rx_mono (rx_cg (rx_cp hV2 hO2 hT22) eq1) hll) hV hO hT hH hS hNN hip hot) ct7 (fun n1 M0 => (c_X8_restore l D tb X z0 n1 (z0 + 919) Fm w av od sv sl nz ip ot M0 S B L9 P T ct i0 hO (by omega) om1 ct0 u0 (by rw [k2]; exact hs3))) kk
set_option maxHeartbeats 1000000 in
theorem lw_n50 (l : Launch) (hfl : l.stackTraces = false) (hC : me_cx ws_all p c cL_law 10 s args m RL D tb X z0) (hN : ∀ U, X U → me_nest U) (hXs : ∀ U, X U → me_xs z0 U) (hCE : ∀ U, X U → me_ce U) (hX : va_X b L xs s s.heap) (hbl : b < s.heap.size) (hbA : ¬ me_A z0 b) (hL : L ≤ 3072) : lw_ck p l e room_1 s m args below meth c Q D z0 b L z0 (z0 + 919) (z0 + 929) (z0 + 930) (lw_LR REL0 tb z0) 2695 := by
  intro t n M ls H locs h6 hR hM hl kk
  obtain ⟨g, G, F, sf, inp, out, Fm, w, av, od, sv, sl, nz, ip, ot, ha, hr⟩ := hR
  have hr0 := hr
  obtain ⟨nx, ct, il, ol, s0, s1, ⟨S, B, L9, P, T, hV, hO, hT⟩, hH, hS, hNN, hip, hot⟩ := hr0
  have hNN2 := hNN
  obtain ⟨m1, m2, ⟨il0, il1, il2⟩, ⟨ol0, ol1, ol2⟩, ⟨nx0, ct0, nx1, ct1, om1⟩, sf0, sf1, sf2⟩ := hNN2
  have hag := hV.1
  have hW := ag_wf hag hO.1
  have hT2 : g 2 = nI T := (ag_n hag (by decide)).trans hO.2.2
  have hS3 : g 3 = nI S := hW.1
  have hB4 : g 4 = nI B := hW.2.2.1
  have hL6 : g 6 = nI L9 := hW.2.2.2.2.1
  have hP5 : g 5 = nI P := hW.2.2.2.2.2.2.1
  have hw2 : w 2 = nI T := hO.2.2
  have hw3 : w 3 = nI S := hO.1.1
  have hw4 : w 4 = nI B := hO.1.2.2.1
  have hw5 : w 5 = nI P := hO.1.2.2.2.2.2.2.1
  have hw6 : w 6 = nI L9 := hO.1.2.2.2.2.1
  have hS8 := hO.1.2.1
  have hB12 := hO.1.2.2.2.1
  have hL30 := hO.1.2.2.2.2.2.1
  have hP10 := hO.1.2.2.2.2.2.2.2.1
  have ht : t ≤ 511 := by omega
  have hlb := lim_b (t := t) (by omega)
  have hls := lim_s t
  have hl0 := lim_0 t
  rcases Nat.eq_zero_or_pos ct with h0 | h0
  · have ct7 := (c_X7_undo_x1 l D tb X z0 n z0 g G F sf inp out M S B L9 P hfl hXs hW (by rw [ct1, h0]; rfl))
    rw [ha.1] at ct7
    exact lw_b50_x1 l (mc := 1) (ms := 6) (mc2 := 0) (ms2 := 0) hCE hC hX hbl hbA hL h6 hM hl  ha ha rfl rfl ⟨by decide, by decide⟩ ⟨by decide, by decide⟩ rfl rfl ⟨by decide, by decide⟩ (upd_s _ _ _) (lw_keep0 _ _ _ _ _ _ _ _ _ _ _ _ _ _ _ _ 1 hr) ct7 (fun n1 M0 => (c_X8_undo_x1 l D tb X z0 n1 (z0 + 919) Fm w av od sv sl nz ip ot M0 (by rw [om1, h0]; rfl))) kk
  obtain ⟨om, rfl⟩ : ∃ om, ct = om + 1 := ⟨ct - 1, by omega⟩
  have hz := hH om (by omega)
  rw [show (nx + 10 - (om + 1) + om) % 10 = (nx + 10 - 1) % 10 by omega] at hz
  obtain ⟨S2, B2, L2, P2, T2, hV2, hO2, hT22⟩ := hz
  have eq1 : ∀ q, q < 411 → cq w (fun j => od (om * 411 + j)) 0 411 q = od (om * 411 + q) := fun q hq => by
    have z := cq_i (d := w) (s := fun j => od (om * 411 + j)) (o := 0) hq
    rwa [Nat.zero_add] at z
  have hq : F 5 - 1 = nI om := by
    rw [ct1]
    exact nI_pred om
  have hll := lim_le t
  have ct7 := (c_X7_undo l D tb X z0 n z0 g G F sf inp out M S B L9 P nx ((nx + 10 - 1) % 10) (om + 1) S2 B2 L2 P2 hW nx1 nx0 ct1 ct0 (by omega) rfl (ag_wf hV2.1 hO2.1))
  rw [ha.1, hq] at ct7
  exact lw_a50 l (mc := 0) (ms := 0) (mc2 := 0) (ms2 := 0) hC hX hbl hbA hL h6 hM hl  ha ha.cls rfl rfl ⟨by decide, by decide⟩ ⟨by decide, by decide⟩ rfl rfl ⟨by decide, by decide⟩ (upd_s _ _ _) (rel_undo (rx_mono (rx_cg (rx_cp hV2 hO2 hT22) eq1) hll) hH hS hNN rfl hip hot) ct7 (fun n1 M0 => (c_X8_undo l D tb X z0 n1 (z0 + 919) Fm w av od sv sl nz ip ot M0 om om1 (by omega))) kk
set_option maxHeartbeats 1000000 in
theorem lw_n51 (l : Launch) (hfl : l.stackTraces = false) (hC : me_cx ws_all p c cL_law 10 s args m RL D tb X z0) (hN : ∀ U, X U → me_nest U) (hXs : ∀ U, X U → me_xs z0 U) (hCE : ∀ U, X U → me_ce U) (hX : va_X b L xs s s.heap) (hbl : b < s.heap.size) (hbA : ¬ me_A z0 b) (hL : L ≤ 3072) : lw_ck p l e room_1 s m args below meth c Q D z0 b L z0 (z0 + 919) (z0 + 929) (z0 + 930) (lw_LR REL0 tb z0) 2739 := by
  intro t n M ls H locs h6 hR hM hl kk
  obtain ⟨g, G, F, sf, inp, out, Fm, w, av, od, sv, sl, nz, ip, ot, ha, hr⟩ := hR
  have hr0 := hr
  obtain ⟨nx, ct, il, ol, s0, s1, ⟨S, B, L9, P, T, hV, hO, hT⟩, hH, hS, hNN, hip, hot⟩ := hr0
  have hNN2 := hNN
  obtain ⟨m1, m2, ⟨il0, il1, il2⟩, ⟨ol0, ol1, ol2⟩, ⟨nx0, ct0, nx1, ct1, om1⟩, sf0, sf1, sf2⟩ := hNN2
  have hag := hV.1
  have hW := ag_wf hag hO.1
  have hT2 : g 2 = nI T := (ag_n hag (by decide)).trans hO.2.2
  have hS3 : g 3 = nI S := hW.1
  have hB4 : g 4 = nI B := hW.2.2.1
  have hL6 : g 6 = nI L9 := hW.2.2.2.2.1
  have hP5 : g 5 = nI P := hW.2.2.2.2.2.2.1
  have hw2 : w 2 = nI T := hO.2.2
  have hw3 : w 3 = nI S := hO.1.1
  have hw4 : w 4 = nI B := hO.1.2.2.1
  have hw5 : w 5 = nI P := hO.1.2.2.2.2.2.2.1
  have hw6 : w 6 = nI L9 := hO.1.2.2.2.2.1
  have hS8 := hO.1.2.1
  have hB12 := hO.1.2.2.2.1
  have hL30 := hO.1.2.2.2.2.2.1
  have hP10 := hO.1.2.2.2.2.2.2.2.1
  have ht : t ≤ 511 := by omega
  have hlb := lim_b (t := t) (by omega)
  have hls := lim_s t
  have hl0 := lim_0 t
  rcases lw_ix (xs (6 * t + 1)) 2 (by omega) with hb | ⟨i0, u0, e0⟩
  · have ct7 := (c_X7_save_x1 l D tb X z0 n z0 g G F sf inp out M S B L9 P (xs (6 * t + 1)) hfl hXs hW hb)
    rw [ha.1] at ct7
    exact lw_b51_x1 l (mc := 1) (ms := 6) (mc2 := 0) (ms2 := 0) hCE hC hX hbl hbA hL h6 hM hl rfl ha ha rfl rfl ⟨by decide, by decide⟩ ⟨by decide, by decide⟩ rfl rfl ⟨by decide, by decide⟩ (upd_s _ _ _) (lw_keep0 _ _ _ _ _ _ _ _ _ _ _ _ _ _ _ _ 1 hr) ct7 (fun n1 M0 => (c_X8_save_x1 l D tb X z0 n1 (z0 + 919) Fm w av od sv sl nz ip ot M0 S B L9 P T (xs (6 * t + 1)) hO (by omega) (le2 hb))) kk
  have ct7 := (c_X7_save l D tb X z0 n z0 g G F sf inp out M S B L9 P i0 hW u0)
  rw [ha.1] at ct7
  have hq := ag_n hag (by decide : 2 < 9)
  rw [hq] at ct7
  exact lw_a51 l (mc := 0) (ms := 0) (mc2 := 0) (ms2 := 0) hC hX hbl hbA hL h6 hM hl e0 ha ha.cls rfl rfl ⟨by decide, by decide⟩ ⟨by decide, by decide⟩ rfl rfl ⟨by decide, by decide⟩ (upd_s _ _ _) (rel_save hr u0 hV hO hT) ct7 (fun n1 M0 => (c_X8_save l D tb X z0 n1 (z0 + 919) Fm w av od sv sl nz ip ot M0 S B L9 P T i0 hO (by omega) u0)) kk
set_option maxHeartbeats 1000000 in
theorem lw_n38 (l : Launch) (hfl : l.stackTraces = false) (hC : me_cx ws_all p c cL_law 10 s args m RL D tb X z0) (hN : ∀ U, X U → me_nest U) (hXs : ∀ U, X U → me_xs z0 U) (hCE : ∀ U, X U → me_ce U) (hX : va_X b L xs s s.heap) (hbl : b < s.heap.size) (hbA : ¬ me_A z0 b) (hL : L ≤ 3072) : lw_ck p l e room_1 s m args below meth c Q D z0 b L z0 (z0 + 919) (z0 + 929) (z0 + 930) (lw_LR REL0 tb z0) 1986 := by
  intro t n M ls H locs h6 hR hM hl kk
  obtain ⟨g, G, F, sf, inp, out, Fm, w, av, od, sv, sl, nz, ip, ot, ha, hr⟩ := hR
  have hr0 := hr
  obtain ⟨nx, ct, il, ol, s0, s1, ⟨S, B, L9, P, T, hV, hO, hT⟩, hH, hS, hNN, hip, hot⟩ := hr0
  have hNN2 := hNN
  obtain ⟨m1, m2, ⟨il0, il1, il2⟩, ⟨ol0, ol1, ol2⟩, ⟨nx0, ct0, nx1, ct1, om1⟩, sf0, sf1, sf2⟩ := hNN2
  have hag := hV.1
  have hW := ag_wf hag hO.1
  have hT2 : g 2 = nI T := (ag_n hag (by decide)).trans hO.2.2
  have hS3 : g 3 = nI S := hW.1
  have hB4 : g 4 = nI B := hW.2.2.1
  have hL6 : g 6 = nI L9 := hW.2.2.2.2.1
  have hP5 : g 5 = nI P := hW.2.2.2.2.2.2.1
  have hw2 : w 2 = nI T := hO.2.2
  have hw3 : w 3 = nI S := hO.1.1
  have hw4 : w 4 = nI B := hO.1.2.2.1
  have hw5 : w 5 = nI P := hO.1.2.2.2.2.2.2.1
  have hw6 : w 6 = nI L9 := hO.1.2.2.2.2.1
  have hS8 := hO.1.2.1
  have hB12 := hO.1.2.2.2.1
  have hL30 := hO.1.2.2.2.2.2.1
  have hP10 := hO.1.2.2.2.2.2.2.2.1
  have ht : t ≤ 511 := by omega
  have hlb := lim_b (t := t) (by omega)
  have hls := lim_s t
  have hl0 := lim_0 t
  have hnn : z0 + 931 ≤ n := by
    obtain ⟨-, -, -, f9, h9⟩ := ha
    have y1 := hM.1.lt h9
    have y2 := hM.2.1
    omega
  rcases lw_ix (xs (6 * t + 1)) B (by omega) with hb | ⟨i0, u0, e0⟩
  · have ct7 := (c_X7_illnessAfter_x1 l D tb X z0 n z0 g G F sf inp out M S B L9 P (xs (6 * t + 1)) (xs (6 * t + 2)) hfl hXs (by rw [hB4]; exact hb))
    rw [ha.1] at ct7
    exact lw_b38_x1 l (mc := 1) (ms := 6) (mc2 := 0) (ms2 := 0) hCE hC hX hbl hbA hL h6 hM hl rfl rfl ha ha rfl rfl ⟨by decide, by decide⟩ ⟨by decide, by decide⟩ rfl rfl ⟨by decide, by decide⟩ (upd_s _ _ _) (lw_keep0 _ _ _ _ _ _ _ _ _ _ _ _ _ _ _ _ 1 hr) ct7 (fun n1 M0 => (c_X8_illnessAfter_x1 l D tb X z0 n1 (z0 + 919) Fm w av od sv sl nz ip ot M0 S B L9 P T (xs (6 * t + 1)) (xs (6 * t + 2)) hO (by omega) (by rw [hw4]; exact hb))) kk
  rcases lw_rg (xs (6 * t + 2)) 0 200 (by omega) with hb | ⟨i1, u1, v1, e1⟩
  · have ct7 := (c_X7_illnessAfter_x2 l D tb X z0 n z0 g G F sf inp out M S B L9 P i0 (xs (6 * t + 2)) hfl hXs hW (by omega) hb)
    rw [ha.1] at ct7
    exact lw_b38_x2 l (mc := 1) (ms := 6) (mc2 := 0) (ms2 := 0) hCE hC hX hbl hbA hL h6 hM hl e0 rfl ha ha rfl rfl ⟨by decide, by decide⟩ ⟨by decide, by decide⟩ rfl rfl ⟨by decide, by decide⟩ (upd_s _ _ _) (lw_keep0 _ _ _ _ _ _ _ _ _ _ _ _ _ _ _ _ 2 hr) ct7 (fun n1 M0 => (c_X8_illnessAfter_x2 l D tb X z0 n1 (z0 + 919) Fm w av od sv sl nz ip ot M0 S B L9 P T i0 (xs (6 * t + 2)) hO (by omega) (by omega) hb)) kk
  have eq1 : ∀ q, q < 411 → cq (mpS S B L9 P i1 (w, nz)).1 (cq av w 0 411) 0 411 q = w q := fun q hq => by
    have z := cq_i (d := (mpS S B L9 P i1 (w, nz)).1) (s := cq av w 0 411) (o := 0) hq
    have z2 := cq_i (d := av) (s := w) (o := 0) hq
    rw [Nat.zero_add] at z z2
    rw [z, z2]
  have ct7 := (c_X7_illnessAfter l D tb X z0 n z0 g G F sf inp out M S B L9 P hN i0 i1 hW (by omega) (by omega) (by omega))
  rw [ha.1] at ct7
  have hq := fc_eq nz hag hO.1 hV.2.1 hO.2.2 hT u0 v1
  rw [hq] at ct7
  exact lw_a38 l (mc := 1) (ms := 6) (mc2 := 0) (ms2 := 0) hC hX hbl hbA hL h6 hM hl e0 e1 ha ((ha.same (M2 := me_up M n (.inr (0, fcC g L9 P i0 i1))) (fun q y1 y2 => me_up_n (by omega))).cls) rfl rfl ⟨by decide, by decide⟩ ⟨by decide, by decide⟩ rfl rfl ⟨by decide, by decide⟩ (upd_s _ _ _) (rel_same hr eq1) ct7 (fun n1 M0 => (c_X8_illnessAfter l D tb X z0 n1 (z0 + 919) Fm w av od sv sl nz ip ot M0 S B L9 P T i0 i1 hO (by omega) (by omega) (by omega))) kk
set_option maxHeartbeats 1000000 in
theorem lw_n52 (l : Launch) (hfl : l.stackTraces = false) (hC : me_cx ws_all p c cL_law 10 s args m RL D tb X z0) (hN : ∀ U, X U → me_nest U) (hXs : ∀ U, X U → me_xs z0 U) (hCE : ∀ U, X U → me_ce U) (hX : va_X b L xs s s.heap) (hbl : b < s.heap.size) (hbA : ¬ me_A z0 b) (hL : L ≤ 3072) : lw_ck p l e room_1 s m args below meth c Q D z0 b L z0 (z0 + 919) (z0 + 929) (z0 + 930) (lw_LR REL0 tb z0) 2795 := by
  intro t n M ls H locs h6 hR hM hl kk
  obtain ⟨g, G, F, sf, inp, out, Fm, w, av, od, sv, sl, nz, ip, ot, ha, hr⟩ := hR
  have hr0 := hr
  obtain ⟨nx, ct, il, ol, s0, s1, ⟨S, B, L9, P, T, hV, hO, hT⟩, hH, hS, hNN, hip, hot⟩ := hr0
  have hNN2 := hNN
  obtain ⟨m1, m2, ⟨il0, il1, il2⟩, ⟨ol0, ol1, ol2⟩, ⟨nx0, ct0, nx1, ct1, om1⟩, sf0, sf1, sf2⟩ := hNN2
  have hag := hV.1
  have hW := ag_wf hag hO.1
  have hT2 : g 2 = nI T := (ag_n hag (by decide)).trans hO.2.2
  have hS3 : g 3 = nI S := hW.1
  have hB4 : g 4 = nI B := hW.2.2.1
  have hL6 : g 6 = nI L9 := hW.2.2.2.2.1
  have hP5 : g 5 = nI P := hW.2.2.2.2.2.2.1
  have hw2 : w 2 = nI T := hO.2.2
  have hw3 : w 3 = nI S := hO.1.1
  have hw4 : w 4 = nI B := hO.1.2.2.1
  have hw5 : w 5 = nI P := hO.1.2.2.2.2.2.2.1
  have hw6 : w 6 = nI L9 := hO.1.2.2.2.2.1
  have hS8 := hO.1.2.1
  have hB12 := hO.1.2.2.2.1
  have hL30 := hO.1.2.2.2.2.2.1
  have hP10 := hO.1.2.2.2.2.2.2.2.1
  have ht : t ≤ 511 := by omega
  have hlb := lim_b (t := t) (by omega)
  have hls := lim_s t
  have hl0 := lim_0 t
  have c1 := (c_X7_writeSchedule l D tb X z0 n z0 g G F sf inp out M S B L9 P hW)
  rw [ha.1, hot, sc_W (out := ot) hV.2.2.1 hag hO] at c1
  have ha2 := ha.cls (g' := g) (G' := G) (F' := upd F 1 24) (sf' := sf) (inp' := inp) (out' := cq ot (shW w L9 T) 0 24)
  have c2 := (c_X8_writeSchedule l D tb X z0 n (z0 + 919) Fm w av od sv sl nz ip ot (sp tb (z0 + 722) g (bq tb z0 G (upd F 1 24) sf inp (cq ot (shW w L9 T) 0 24) M)) S B L9 P T hO hT)
  rw [ha2.2.1] at c2
  exact lw_c52 (mc := 0) (ms := 0) (mc2 := 0) (ms2 := 0) hC hl ⟨by decide, by decide⟩ hM rfl rfl ⟨by decide, by decide⟩ rfl rfl ⟨by decide, by decide⟩ ha.bo ha2.mo ⟨by show 1000 + 100 * t + 0 + 0 ≤ 601024; omega, by show 14000 + 2000 * t + 0 + 0 ≤ 7293034; omega⟩ c1 c2 (fun ls1 H1 locs1 n5 hl1 hM1 => W.widen (by omega) (by omega) (kk ls1 H1 locs1 n5 _ hl1 ⟨g, G, upd F 1 24, sf, inp, cq ot (shW w L9 T) 0 24, upd (upd Fm 4 24) 0 0, w, av, od, sv, sl, nz, ip, cq ot (shW w L9 T) 0 24, ha2.mod, rel_out (n := 24) hr (by decide)⟩ hM1))
set_option maxHeartbeats 1000000 in
theorem lw_n53 (l : Launch) (hfl : l.stackTraces = false) (hC : me_cx ws_all p c cL_law 10 s args m RL D tb X z0) (hN : ∀ U, X U → me_nest U) (hXs : ∀ U, X U → me_xs z0 U) (hCE : ∀ U, X U → me_ce U) (kK kV : Nat → Nat) (kO kT : Nat) (hKS : ∀ U, X U → me_ks kK kV z0 U) (hKD : ∀ U, X U → me_kd kO kT z0 U) (hX : va_X b L xs s s.heap) (hbl : b < s.heap.size) (hbA : ¬ me_A z0 b) (hL : L ≤ 3072) : lw_ck p l e room_1 s m args below meth c Q D z0 b L z0 (z0 + 919) (z0 + 929) (z0 + 930) (lw_LR REL0 tb z0) 2808 := by
  intro t n M ls H locs h6 hR hM hl kk
  obtain ⟨g, G, F, sf, inp, out, Fm, w, av, od, sv, sl, nz, ip, ot, ha, hr⟩ := hR
  have hr0 := hr
  obtain ⟨nx, ct, il, ol, s0, s1, ⟨S, B, L9, P, T, hV, hO, hT⟩, hH, hS, hNN, hip, hot⟩ := hr0
  have hNN2 := hNN
  obtain ⟨m1, m2, ⟨il0, il1, il2⟩, ⟨ol0, ol1, ol2⟩, ⟨nx0, ct0, nx1, ct1, om1⟩, sf0, sf1, sf2⟩ := hNN2
  have hag := hV.1
  have hW := ag_wf hag hO.1
  have hT2 : g 2 = nI T := (ag_n hag (by decide)).trans hO.2.2
  have hS3 : g 3 = nI S := hW.1
  have hB4 : g 4 = nI B := hW.2.2.1
  have hL6 : g 6 = nI L9 := hW.2.2.2.2.1
  have hP5 : g 5 = nI P := hW.2.2.2.2.2.2.1
  have hw2 : w 2 = nI T := hO.2.2
  have hw3 : w 3 = nI S := hO.1.1
  have hw4 : w 4 = nI B := hO.1.2.2.1
  have hw5 : w 5 = nI P := hO.1.2.2.2.2.2.2.1
  have hw6 : w 6 = nI L9 := hO.1.2.2.2.2.1
  have hS8 := hO.1.2.1
  have hB12 := hO.1.2.2.2.1
  have hL30 := hO.1.2.2.2.2.2.1
  have hP10 := hO.1.2.2.2.2.2.2.2.1
  have ht : t ≤ 511 := by omega
  have hlb := lim_b (t := t) (by omega)
  have hls := lim_s t
  have hl0 := lim_0 t
  have hnn : z0 + 931 ≤ n := by
    obtain ⟨-, -, -, f9, h9⟩ := ha
    have y1 := hM.1.lt h9
    have y2 := hM.2.1
    omega
  rcases lw_ix (xs (6 * t + 1)) B (by omega) with hb | ⟨i0, u0, e0⟩
  · have ct7 := (c_X7_writeBorrower_x1 l D tb X z0 n z0 g G F sf inp out M S B L9 P (xs (6 * t + 1)) hfl hXs (by rw [hB4]; exact hb))
    rw [ha.1] at ct7
    exact lw_b53_x1 l (mc := 1) (ms := 6) (mc2 := 0) (ms2 := 0) hCE hC hX hbl hbA hL h6 hM hl rfl ha ha rfl rfl ⟨by decide, by decide⟩ ⟨by decide, by decide⟩ rfl rfl ⟨by decide, by decide⟩ (upd_s _ _ _) (lw_keep0 _ _ _ _ _ _ _ _ _ _ _ _ _ _ _ _ 1 hr) ct7 (fun n1 M0 => (c_X8_writeBorrower_x1 l D tb X z0 n1 (z0 + 919) Fm w av od sv sl nz ip ot M0 S B L9 P T (xs (6 * t + 1)) hO (by omega) (by rw [hw4]; exact hb))) kk
  obtain ⟨a, r9, t9, a10, -, -, ea, -, -⟩ := hV.2.1 i0 u0
  have ega : g (89 + 11 * i0 + 1) = nI a := (hag.2.2.1 i0 1 u0 (by decide)).trans ea
  have egc := hag.2.2.1 i0 2 u0 (by decide)
  have hcb := hV.2.2.2.2.2.2 i0 u0
  have hwn := wrn_b w i0
  have hd1 := dg_9 (show a ≤ 9 by omega)
  by_cases hc : 0 ≤ (w (89 + 11 * i0 + 2)).toInt
  · obtain ⟨cr, ecr⟩ : ∃ cr : Nat, (w (89 + 11 * i0 + 2)).toInt = cr := ⟨_, (Int.toNat_of_nonneg hc).symm⟩
    have ec : w (89 + 11 * i0 + 2) = nI cr := Int32.toInt_inj.mp (by rw [nI_toInt (by omega)]; exact ecr)
    have hdc := (dgM_b cr).2
    obtain ⟨q1, q2⟩ := wr_D (out := ot) (cr := cr) hV.2.2.1 hag hO.1 u0 (show a ≤ 9 by omega) (by omega)
    have ct7 := (c_X7_writeBorrower_0 l D tb X z0 n z0 g G F sf inp out M S B L9 P kK kV kO kT i0 a cr hW hKS hKD (by omega) (by omega) ega (by omega) (egc.trans ec) (by omega))
    rw [ha.1, hot, q2, q1] at ct7
    exact lw_a53 l (mc := 19) (ms := 598) (mc2 := 0) (ms2 := 0) hC hX hbl hbA hL h6 hM hl e0 ha ha.cls rfl rfl ⟨by decide, by decide⟩ ⟨by decide, by decide⟩ rfl rfl ⟨by decide, by decide⟩ (upd_s _ _ _) (rel_out (n := wrn w i0 + 1 + dgM a + 1 + dgM cr) hr (by omega)) ct7 (fun n1 M0 => (c_X8_writeBorrower_0 l D tb X z0 n1 (z0 + 919) Fm w av od sv sl nz ip ot M0 S B L9 P T i0 a cr hO (by omega) (by omega) ea (by omega) ec (by omega))) kk
  · obtain ⟨cr, ecr⟩ : ∃ cr : Nat, -(w (89 + 11 * i0 + 2)).toInt = cr := ⟨_, (Int.toNat_of_nonneg (by omega)).symm⟩
    have ec : w (89 + 11 * i0 + 2) = -nI cr := Int32.toInt_inj.mp (by rw [sb_negT (by omega)]; omega)
    have hdc := (dgM_b cr).2
    obtain ⟨q1, q2⟩ := wr_E (out := ot) (cr := cr) hV.2.2.1 hag hO.1 u0 (show a ≤ 9 by omega) (by omega)
    have ct7 := (c_X7_writeBorrower_1 l D tb X z0 n z0 g G F sf inp out M S B L9 P kK kV kO kT i0 a cr hW hKS hKD (by omega) (by omega) ega (by omega) (egc.trans ec) (by omega) (by omega))
    rw [ha.1, hot, q2, q1] at ct7
    exact lw_a53 l (mc := 19) (ms := 598) (mc2 := 0) (ms2 := 0) hC hX hbl hbA hL h6 hM hl e0 ha ha.cls rfl rfl ⟨by decide, by decide⟩ ⟨by decide, by decide⟩ rfl rfl ⟨by decide, by decide⟩ (upd_s _ _ _) (rel_out (n := wrn w i0 + 1 + dgM a + 1 + 1 + dgM cr) hr (by omega)) ct7 (fun n1 M0 => (c_X8_writeBorrower_1 l D tb X z0 n1 (z0 + 919) Fm w av od sv sl nz ip ot M0 S B L9 P T i0 a cr hO (by omega) (by omega) ea (by omega) ec (by omega) (by omega))) kk
set_option maxHeartbeats 1000000 in
theorem lw_n54 (l : Launch) (hfl : l.stackTraces = false) (hC : me_cx ws_all p c cL_law 10 s args m RL D tb X z0) (hN : ∀ U, X U → me_nest U) (hXs : ∀ U, X U → me_xs z0 U) (hCE : ∀ U, X U → me_ce U) (hX : va_X b L xs s s.heap) (hbl : b < s.heap.size) (hbA : ¬ me_A z0 b) (hL : L ≤ 3072) : lw_ck p l e room_1 s m args below meth c Q D z0 b L z0 (z0 + 919) (z0 + 929) (z0 + 930) (lw_LR REL0 tb z0) 2864 := by
  intro t n M ls H locs h6 hR hM hl kk
  obtain ⟨g, G, F, sf, inp, out, Fm, w, av, od, sv, sl, nz, ip, ot, ha, hr⟩ := hR
  have hr0 := hr
  obtain ⟨nx, ct, il, ol, s0, s1, ⟨S, B, L9, P, T, hV, hO, hT⟩, hH, hS, hNN, hip, hot⟩ := hr0
  have hNN2 := hNN
  obtain ⟨m1, m2, ⟨il0, il1, il2⟩, ⟨ol0, ol1, ol2⟩, ⟨nx0, ct0, nx1, ct1, om1⟩, sf0, sf1, sf2⟩ := hNN2
  have hag := hV.1
  have hW := ag_wf hag hO.1
  have hT2 : g 2 = nI T := (ag_n hag (by decide)).trans hO.2.2
  have hS3 : g 3 = nI S := hW.1
  have hB4 : g 4 = nI B := hW.2.2.1
  have hL6 : g 6 = nI L9 := hW.2.2.2.2.1
  have hP5 : g 5 = nI P := hW.2.2.2.2.2.2.1
  have hw2 : w 2 = nI T := hO.2.2
  have hw3 : w 3 = nI S := hO.1.1
  have hw4 : w 4 = nI B := hO.1.2.2.1
  have hw5 : w 5 = nI P := hO.1.2.2.2.2.2.2.1
  have hw6 : w 6 = nI L9 := hO.1.2.2.2.2.1
  have hS8 := hO.1.2.1
  have hB12 := hO.1.2.2.2.1
  have hL30 := hO.1.2.2.2.2.2.1
  have hP10 := hO.1.2.2.2.2.2.2.2.1
  have ht : t ≤ 511 := by omega
  have hlb := lim_b (t := t) (by omega)
  have hls := lim_s t
  have hl0 := lim_0 t
  rcases lw_ix (xs (6 * t + 1)) ol (by omega) with hb | ⟨i0, u0, e0⟩
  · have ct7 := (c_X7_outputByte_x1 l D tb X z0 n z0 g G F sf inp out M S B L9 P (xs (6 * t + 1)) hfl hXs (by rw [ol1]; exact hb))
    rw [ha.1] at ct7
    exact lw_b54_x1 l (mc := 1) (ms := 6) (mc2 := 0) (ms2 := 0) hCE hC hX hbl hbA hL h6 hM hl rfl ha ha rfl rfl ⟨by decide, by decide⟩ ⟨by decide, by decide⟩ rfl rfl ⟨by decide, by decide⟩ (upd_s _ _ _) (lw_keep0 _ _ _ _ _ _ _ _ _ _ _ _ _ _ _ _ 1 hr) ct7 (fun n1 M0 => (c_X8_outputByte_x1 l D tb X z0 n1 (z0 + 919) Fm w av od sv sl nz ip ot M0 (xs (6 * t + 1)) ol ol2 ol0 (by rw [ol2]; exact hb))) kk
  have ct7 := (c_X7_outputByte l D tb X z0 n z0 g G F sf inp out M S B L9 P i0 ol hW ol1 (by omega) (by omega))
  rw [ha.1] at ct7
  have hq := (show out i0 = ot i0 from by rw [hot])
  rw [hq] at ct7
  exact lw_a54 l (mc := 0) (ms := 0) (mc2 := 0) (ms2 := 0) hC hX hbl hbA hL h6 hM hl e0 ha ha rfl rfl ⟨by decide, by decide⟩ ⟨by decide, by decide⟩ rfl rfl ⟨by decide, by decide⟩ (upd_s _ _ _) (lw_keep0 _ _ _ _ _ _ _ _ _ _ _ _ _ _ _ _ 0 hr) ct7 (fun n1 M0 => (c_X8_outputByte l D tb X z0 n1 (z0 + 919) Fm w av od sv sl nz ip ot M0 i0 ol ol2 ol0 (by omega))) kk
set_option maxHeartbeats 1000000 in
theorem lw_n0 (l : Launch) (hfl : l.stackTraces = false) (hC : me_cx ws_all p c cL_law 10 s args m RL D tb X z0) (hN : ∀ U, X U → me_nest U) (hXs : ∀ U, X U → me_xs z0 U) (hCE : ∀ U, X U → me_ce U) (hX : va_X b L xs s s.heap) (hbl : b < s.heap.size) (hbA : ¬ me_A z0 b) (hL : L ≤ 3072) : lw_ck p l e room_1 s m args below meth c Q D z0 b L z0 (z0 + 919) (z0 + 929) (z0 + 930) (lw_LR REL0 tb z0) 280 := by
  intro t n M ls H locs h6 hR hM hl kk
  obtain ⟨g, G, F, sf, inp, out, Fm, w, av, od, sv, sl, nz, ip, ot, ha, hr⟩ := hR
  have hr0 := hr
  obtain ⟨nx, ct, il, ol, s0, s1, ⟨S, B, L9, P, T, hV, hO, hT⟩, hH, hS, hNN, hip, hot⟩ := hr0
  have hNN2 := hNN
  obtain ⟨m1, m2, ⟨il0, il1, il2⟩, ⟨ol0, ol1, ol2⟩, ⟨nx0, ct0, nx1, ct1, om1⟩, sf0, sf1, sf2⟩ := hNN2
  have hag := hV.1
  have hW := ag_wf hag hO.1
  have hT2 : g 2 = nI T := (ag_n hag (by decide)).trans hO.2.2
  have hS3 : g 3 = nI S := hW.1
  have hB4 : g 4 = nI B := hW.2.2.1
  have hL6 : g 6 = nI L9 := hW.2.2.2.2.1
  have hP5 : g 5 = nI P := hW.2.2.2.2.2.2.1
  have hw2 : w 2 = nI T := hO.2.2
  have hw3 : w 3 = nI S := hO.1.1
  have hw4 : w 4 = nI B := hO.1.2.2.1
  have hw5 : w 5 = nI P := hO.1.2.2.2.2.2.2.1
  have hw6 : w 6 = nI L9 := hO.1.2.2.2.2.1
  have hS8 := hO.1.2.1
  have hB12 := hO.1.2.2.2.1
  have hL30 := hO.1.2.2.2.2.2.1
  have hP10 := hO.1.2.2.2.2.2.2.2.1
  have ht : t ≤ 511 := by omega
  have hlb := lim_b (t := t) (by omega)
  have hls := lim_s t
  have hl0 := lim_0 t
  by_cases h20 : il + 20 ≤ 700
  rotate_left
  · have ct7 := (c_X7_append_x1 l D tb X z0 n z0 g G F sf inp out M S B L9 P (xs (6 * t + 1)) (xs (6 * t + 2)) (xs (6 * t + 3)) (xs (6 * t + 4)) (xs (6 * t + 5)) il hfl hXs hW il1 (by omega) il0)
    rw [ha.1] at ct7
    exact lw_b0_x1 l (mc := 1) (ms := 6) (mc2 := 0) (ms2 := 0) hCE hC hX hbl hbA hL h6 hM hl rfl rfl rfl rfl rfl ha ha rfl rfl ⟨by decide, by decide⟩ ⟨by decide, by decide⟩ rfl rfl ⟨by decide, by decide⟩ (upd_s _ _ _) (lw_keep0 _ _ _ _ _ _ _ _ _ _ _ _ _ _ _ _ 1 hr) ct7 (fun n1 M0 => (c_X8_append_x1 l D tb X z0 n1 (z0 + 919) Fm w av od sv sl nz ip ot M0 (xs (6 * t + 1)) (xs (6 * t + 2)) (xs (6 * t + 3)) (xs (6 * t + 4)) (xs (6 * t + 5)) il il2 (by omega) il0)) kk
  have ct7 := (c_X7_append l D tb X z0 n z0 g G F sf inp out M S B L9 P (xs (6 * t + 1)) (xs (6 * t + 2)) (xs (6 * t + 3)) (xs (6 * t + 4)) (xs (6 * t + 5)) il hW il1 h20)
  rw [ha.1, hip] at ct7
  simp only [ap_fe] at ct7
  exact lw_a0 l (mc := 0) (ms := 0) (mc2 := 0) (ms2 := 0) hC hX hbl hbA hL h6 hM hl rfl rfl rfl rfl rfl ha ha.cls rfl rfl ⟨by decide, by decide⟩ ⟨by decide, by decide⟩ rfl rfl ⟨by decide, by decide⟩ (upd_s _ _ _) (rel_app (n := il + 4 + 4 + 4 + 4 + 4) hr (by omega)) ct7 (fun n1 M0 => (c_X8_append l D tb X z0 n1 (z0 + 919) Fm w av od sv sl nz ip ot M0 (xs (6 * t + 1)) (xs (6 * t + 2)) (xs (6 * t + 3)) (xs (6 * t + 4)) (xs (6 * t + 5)) il il2 h20)) kk
set_option maxHeartbeats 1000000 in
theorem lw_n1 (l : Launch) (hfl : l.stackTraces = false) (hC : me_cx ws_all p c cL_law 10 s args m RL D tb X z0) (hN : ∀ U, X U → me_nest U) (hXs : ∀ U, X U → me_xs z0 U) (hCE : ∀ U, X U → me_ce U) (kK kV : Nat → Nat) (hKS : ∀ U, X U → me_ks kK kV z0 U) (hX : va_X b L xs s s.heap) (hbl : b < s.heap.size) (hbA : ¬ me_A z0 b) (hL : L ≤ 3072) : lw_ck p l e room_1 s m args below meth c Q D z0 b L z0 (z0 + 919) (z0 + 929) (z0 + 930) (lw_LR REL0 tb z0) 384 := by
  intro t n M ls H locs h6 hR hM hl kk
  obtain ⟨g, G, F, sf, inp, out, Fm, w, av, od, sv, sl, nz, ip, ot, ha, hr⟩ := hR
  have hr0 := hr
  obtain ⟨nx, ct, il, ol, s0, s1, ⟨S, B, L9, P, T, hV, hO, hT⟩, hH, hS, hNN, hip, hot⟩ := hr0
  have hNN2 := hNN
  obtain ⟨m1, m2, ⟨il0, il1, il2⟩, ⟨ol0, ol1, ol2⟩, ⟨nx0, ct0, nx1, ct1, om1⟩, sf0, sf1, sf2⟩ := hNN2
  have hag := hV.1
  have hW := ag_wf hag hO.1
  have hT2 : g 2 = nI T := (ag_n hag (by decide)).trans hO.2.2
  have hS3 : g 3 = nI S := hW.1
  have hB4 : g 4 = nI B := hW.2.2.1
  have hL6 : g 6 = nI L9 := hW.2.2.2.2.1
  have hP5 : g 5 = nI P := hW.2.2.2.2.2.2.1
  have hw2 : w 2 = nI T := hO.2.2
  have hw3 : w 3 = nI S := hO.1.1
  have hw4 : w 4 = nI B := hO.1.2.2.1
  have hw5 : w 5 = nI P := hO.1.2.2.2.2.2.2.1
  have hw6 : w 6 = nI L9 := hO.1.2.2.2.2.1
  have hS8 := hO.1.2.1
  have hB12 := hO.1.2.2.2.1
  have hL30 := hO.1.2.2.2.2.2.1
  have hP10 := hO.1.2.2.2.2.2.2.2.1
  have ht : t ≤ 511 := by omega
  have hlb := lim_b (t := t) (by omega)
  have hls := lim_s t
  have hl0 := lim_0 t
  have hnn : z0 + 931 ≤ n := by
    obtain ⟨-, -, -, f9, h9⟩ := ha
    have y1 := hM.1.lt h9
    have y2 := hM.2.1
    omega
  rcases lw_rg (xs (6 * t + 1)) 0 il (by omega) (Nat.zero_le _) with hb | ⟨i0, u0, v0, e0⟩
  · have ct7 := (c_X7_load_x1 l D tb X z0 n z0 g G F sf inp out M (xs (6 * t + 1)) hfl hXs (by rw [il1]; exact hb))
    rw [ha.1] at ct7
    exact lw_b1_x1 l (mc := 1) (ms := 6) (mc2 := 0) (ms2 := 0) hCE hC hX hbl hbA hL h6 hM hl rfl ha ha rfl rfl ⟨by decide, by decide⟩ ⟨by decide, by decide⟩ rfl rfl ⟨by decide, by decide⟩ (upd_s _ _ _) (lw_keep0 _ _ _ _ _ _ _ _ _ _ _ _ _ _ _ _ 1 hr) ct7 (fun n1 M0 => (c_X8_load_x1 l D tb X z0 n1 (z0 + 919) Fm w av od sv sl nz ip ot M0 (xs (6 * t + 1)) (by rw [il2]; exact hb))) kk
  have hyr := tx_rel (t := ip) (len := i0) (w := w) (sl := sl) (nz := nz) (by omega) (G 0) (pqO Fm)
  have hyo := ok_txY (t := ip) (len := i0) (w := w) (sl := sl) (nz := nz) (p := pqO Fm)
  obtain ⟨x, hx⟩ : ∃ x, ldF ip i0 (G 0) = x := ⟨_, rfl⟩
  obtain ⟨y, hy⟩ : ∃ y, txY ip i0 w sl nz (pqO Fm) = y := ⟨_, rfl⟩
  rw [hx, hy] at hyr
  rw [hy] at hyo
  have hxi : ldF inp i0 (G 0) = x := by rw [hip]; exact hx
  obtain ⟨hRB, hRow⟩ := hyr
  have hk := hRB.2.1
  have hll := lim_le t
  by_cases hek : pEk (rp x) = 0
  rotate_left
  · have eq1 : ∀ q, q < 411 → cq (yw y) (cq av w 0 411) 0 411 q = w q := fun q hq => by
      have z := cq_i (d := yw y) (s := cq av w 0 411) (o := 0) hq
      have z2 := cq_i (d := av) (s := w) (o := 0) hq
      rw [Nat.zero_add] at z z2
      rw [z, z2]
    have ct7 := (c_X7_load_x2 l D tb X z0 n z0 g G F sf inp out M hN kK kV i0 il hfl hXs hKS il1 il0 (by omega) (by omega) (by rw [hxi]; exact hek))
    rw [ha.1, hxi] at ct7
    have ct8 := fun (n1 : Nat) (M0 : me_M) => (c_X8_load_x2 l D tb X z0 n1 (z0 + 919) Fm w av od sv sl nz ip ot M0 i0 il (pqO Fm) il2 il0 (by omega) (by rw [hy]; exact fun z => hek (hk.symm.trans z)))
    simp only [pqO_e, hy] at ct8
    exact lw_b1_x2 l (mc := 2) (ms := 14) (mc2 := 0) (ms2 := 0) hCE hC hX hbl hbA hL h6 hM hl e0 ha ((ha.same (M2 := me_up M n (.inr (3, ps_fs (z0 + 720) i0 (z0 + 1) (rp x)))) (fun q y1 y2 => me_up_n (by omega))).cls) rfl rfl ⟨by decide, by decide⟩ ⟨by decide, by decide⟩ rfl rfl ⟨by decide, by decide⟩ (upd_s _ _ _) (rel_ldx (len := i0) hr hk (hRB.2.2.2 hek) eq1) ct7 (fun n1 M0 => ct8 n1 M0) kk
  obtain ⟨s1', s2', s3', s4', hV2⟩ := hRow hek
  obtain ⟨⟨T2, hT22, hO2⟩, -⟩ := hyo
  rw [← s1', ← s2', ← s3', ← s4'] at hO2
  have hq : cpF (rG x) (rS x) (rB x) (rL x) (rP x) g 6 = nI (yL y) := by
    rw [cpF_n hO2.1.2.1 hO2.1.2.2.2.1 hO2.1.2.2.2.2.2.1 hO2.1.2.2.2.2.2.2.2.1 (by decide), ag_n hV2.1 (by decide), ← s3']
    exact hO2.1.2.2.2.2.1
  have ct7 := (c_X7_load l D tb X z0 n z0 g G F sf inp out M hN kK kV i0 il hKS il1 il0 (by omega) (by omega) (by rw [hxi]; exact hek))
  rw [ha.1, hxi, hq] at ct7
  have ct8 := fun (n1 : Nat) (M0 : me_M) => (c_X8_load l D tb X z0 n1 (z0 + 919) Fm w av od sv sl nz ip ot M0 i0 il (pqO Fm) il2 il0 (by omega) (by rw [hy]; exact hk.trans hek))
  simp only [pqO_e, hy] at ct8
  exact lw_a1 l (mc := 1) (ms := 8) (mc2 := 0) (ms2 := 0) hC hX hbl hbA hL h6 hM hl e0 ha ((ha.same (M2 := me_up M n (.inr (3, ps_fs (z0 + 720) i0 (z0 + 1) (rp x)))) (fun q y1 y2 => me_up_n (by omega))).cls) rfl rfl ⟨by decide, by decide⟩ ⟨by decide, by decide⟩ rfl rfl ⟨by decide, by decide⟩ (upd_s _ _ _) (rel_ld (len := i0) hr hk hek (hRB.2.2.1 hek).1 (rx_mono (rx_cp hV2 hO2 hT22) (by omega))) ct7 (fun n1 M0 => ct8 n1 M0) kk
end LNC2
