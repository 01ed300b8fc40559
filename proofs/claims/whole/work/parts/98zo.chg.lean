section LNC1
variable {p : Program} {e : Env} {s : State} {m : MethodId} {args : Array Value} {below : List Frame} {meth : Method} {c : Code} {Q : State → Prop}
variable {D : va_G} {tb : Nat → ClassId} {X : State → Prop} {z0 b L : Nat} {xs : Nat → Int32}
set_option maxHeartbeats 1000000 in
theorem lw_n42 (l : Launch) (hfl : l.stackTraces = false) (hC : me_cx ws_all p c cL_law 10 s args m RL D tb X z0) (hN : ∀ U, X U → me_nest U) (hXs : ∀ U, X U → me_xs z0 U) (hCE : ∀ U, X U → me_ce U) (hX : va_X b L xs s s.heap) (hbl : b < s.heap.size) (hbA : ¬ me_A z0 b) (hL : L ≤ 3072) : lw_ck p l e room_1 s m args below meth c Q D z0 b L z0 (z0 + 919) (z0 + 929) (z0 + 930) (lw_LR REL0 tb z0) 2187 := by
  intro t n M ls H locs h6 hR hM hl kk
  obtain ⟨g, G, F, sf, inp, out, Fm, w, av, od, sv, sl, nz, ip, ot, ha, hr⟩ := hR
  have hr0 := hr
  obtain ⟨nx, ct, il, ol, s0, s1, ⟨S, B, L9, P, T, hV, hO, hT⟩, hH, hS, hNN, hip, hot⟩ := hr0
  have hNN2 := hNN
  obtain ⟨m1, m2, ⟨il0, il1, il2⟩, ⟨ol0, ol1, ol2⟩, ⟨nx0, ct0, nx1, ct1, om1⟩, sf0, sf1, sf2⟩ := hNN2
  have hag := hV.1
  have hW := ag_wf hag hO.1
  have hT2 : g 2 = nI T := (ag_n hag (by decide)).trans hO.2.2
  have hS3 : g 3 = nI S := hW.1
  have hB4 : g 4 = nI B := hW.2.2.1
  have hL6 : g 6 = nI L9 := hW.2.2.2.2.1
  have hP5 : g 5 = nI P := hW.2.2.2.2.2.2.1
  have hw2 : w 2 = nI T := hO.2.2
  have hw3 : w 3 = nI S := hO.1.1
  have hw4 : w 4 = nI B := hO.1.2.2.1
  have hw5 : w 5 = nI P := hO.1.2.2.2.2.2.2.1
  have hw6 : w 6 = nI L9 := hO.1.2.2.2.2.1
  have hS8 := hO.1.2.1
  have hB12 := hO.1.2.2.2.1
  have hL30 := hO.1.2.2.2.2.2.1
  have hP10 := hO.1.2.2.2.2.2.2.2.1
  have ht : t ≤ 511 := by omega
  have hlb := lim_b (t := t) (by omega)
  have hls := lim_s t
  have hl0 := lim_0 t
  rcases lw_ix (xs (6 * t + 1)) B (by omega) with hb | ⟨i0, u0, e0⟩
  · have ct7 := (c_X7_lend_x1 l D tb X z0 n z0 g G F sf inp out M S B L9 P (xs (6 * t + 1)) (xs (6 * t + 2)) (xs (6 * t + 3)) hfl hXs (by rw [hB4]; exact hb))
    rw [ha.1] at ct7
    exact lw_b42_x1 l (mc := 1) (ms := 6) (mc2 := 0) (ms2 := 0) hCE hC hX hbl hbA hL h6 hM hl rfl rfl rfl ha ha rfl rfl ⟨by decide, by decide⟩ ⟨by decide, by decide⟩ rfl rfl ⟨by decide, by decide⟩ (upd_s _ _ _) (lw_keep0 _ _ _ _ _ _ _ _ _ _ _ _ _ _ _ _ 1 hr) ct7 (fun n1 M0 => (c_X8_lend_x1 l D tb X z0 n1 (z0 + 919) Fm w av od sv sl nz ip ot M0 S B L9 P T (xs (6 * t + 1)) (xs (6 * t + 2)) (xs (6 * t + 3)) hO (by omega) (by rw [hw4]; exact hb))) kk
  rcases lw_rg (xs (6 * t + 3)) 1 6 (by omega) with hb | ⟨i2, u2, v2, e2⟩
  · have ct7 := (c_X7_lend_x2 l D tb X z0 n z0 g G F sf inp out M S B L9 P i0 (xs (6 * t + 2)) (xs (6 * t + 3)) hfl hXs hW (by omega) hb)
    rw [ha.1] at ct7
    exact lw_b42_x2 l (mc := 1) (ms := 6) (mc2 := 0) (ms2 := 0) hCE hC hX hbl hbA hL h6 hM hl e0 rfl rfl ha ha rfl rfl ⟨by decide, by decide⟩ ⟨by decide, by decide⟩ rfl rfl ⟨by decide, by decide⟩ (upd_s _ _ _) (lw_keep0 _ _ _ _ _ _ _ _ _ _ _ _ _ _ _ _ 2 hr) ct7 (fun n1 M0 => (c_X8_lend_x2 l D tb X z0 n1 (z0 + 919) Fm w av od sv sl nz ip ot M0 S B L9 P T i0 (xs (6 * t + 2)) (xs (6 * t + 3)) hO (by omega) (by omega) hb)) kk
  rcases lw_sr (xs (6 * t + 2)) T i2 (by omega) (by omega) with hb | ⟨i1, u1, v1, e1⟩
  · have ct7 := (c_X7_lend_x3 l D tb X z0 n z0 g G F sf inp out M S B L9 P i0 (xs (6 * t + 2)) i2 hfl hXs hW (by omega) (by omega) (by omega) (by rw [hT2]; exact hb))
    rw [ha.1] at ct7
    exact lw_b42_x2 l (mc := 1) (ms := 6) (mc2 := 0) (ms2 := 0) hCE hC hX hbl hbA hL h6 hM hl e0 rfl e2 ha ha rfl rfl ⟨by decide, by decide⟩ ⟨by decide, by decide⟩ rfl rfl ⟨by decide, by decide⟩ (upd_s _ _ _) (lw_keep0 _ _ _ _ _ _ _ _ _ _ _ _ _ _ _ _ 2 hr) ct7 (fun n1 M0 => (c_X8_lend_x3 l D tb X z0 n1 (z0 + 919) Fm w av od sv sl nz ip ot M0 S B L9 P T i0 (xs (6 * t + 2)) i2 hO (by omega) (by omega) (by omega) (by omega) (by rw [hw2]; exact hb))) kk
  have er := ag_re hag hO.1 u0 i1 i2
  by_cases hre : reF w L9 P i0 i1 i2 = 0
  rotate_left
  · have ct7 := (c_X7_lend_x4 l D tb X z0 n z0 g G F sf inp out M S B L9 P T i0 i1 i2 hfl hXs hW hT2 (by omega) (by omega) (by omega) (by omega) (by omega) (by omega) (by rw [er]; exact hre))
    rw [ha.1] at ct7
    exact lw_b42_x3 l (mc := 1) (ms := 6) (mc2 := 0) (ms2 := 0) hCE hC hX hbl hbA hL h6 hM hl e0 e1 e2 ha ha rfl rfl ⟨by decide, by decide⟩ ⟨by decide, by decide⟩ rfl rfl ⟨by decide, by decide⟩ (upd_s _ _ _) (lw_keep0 _ _ _ _ _ _ _ _ _ _ _ _ _ _ _ _ 3 hr) ct7 (fun n1 M0 => (c_X8_lend_x4 l D tb X z0 n1 (z0 + 919) Fm w av od sv sl nz ip ot M0 S B L9 P T i0 i1 i2 hO (by omega) (by omega) (by omega) (by omega) (by omega) (by omega) hre)) kk
  have hL9 : L9 < 30 := reF_L hO.1 hre
  have ct7 := (c_X7_lend l D tb X z0 n z0 g G F sf inp out M S B L9 P T nx ct i0 i1 i2 hW hT2 (by omega) nx1 nx0 ct1 ct0 (by omega) (by omega) (by omega) (by omega) (by omega) (by rw [er]; exact hre))
  rw [ha.1] at ct7
  exact lw_a42 l (mc := 0) (ms := 0) (mc2 := 0) (ms2 := 0) hC hX hbl hbA hL h6 hM hl e0 e1 e2 ha ha.cls rfl rfl ⟨by decide, by decide⟩ ⟨by decide, by decide⟩ rfl rfl ⟨by decide, by decide⟩ (upd_s _ _ _) (rel_rec ht ⟨S, B, L9 + 1, P, T, rv_mono (rv_ad hV hO.1 u0 hL9 (by omega) (by omega)) (by omega), ok_ad2 hO u0 hL9, hT⟩ hV hO hT hH hS hNN hip hot) ct7 (fun n1 M0 => (c_X8_lend l D tb X z0 n1 (z0 + 919) Fm w av od sv sl nz ip ot M0 S B L9 P T ct i0 i1 i2 hO (by omega) om1 ct0 (by omega) (by omega) (by omega) (by omega) (by omega) hre)) kk
set_option maxHeartbeats 1000000 in
theorem lw_n43 (l : Launch) (hfl : l.stackTraces = false) (hC : me_cx ws_all p c cL_law 10 s args m RL D tb X z0) (hN : ∀ U, X U → me_nest U) (hXs : ∀ U, X U → me_xs z0 U) (hCE : ∀ U, X U → me_ce U) (hX : va_X b L xs s s.heap) (hbl : b < s.heap.size) (hbA : ¬ me_A z0 b) (hL : L ≤ 3072) : lw_ck p l e room_1 s m args below meth c Q D z0 b L z0 (z0 + 919) (z0 + 929) (z0 + 930) (lw_LR REL0 tb z0) 2267 := by
  intro t n M ls H locs h6 hR hM hl kk
  obtain ⟨g, G, F, sf, inp, out, Fm, w, av, od, sv, sl, nz, ip, ot, ha, hr⟩ := hR
  have hr0 := hr
  obtain ⟨nx, ct, il, ol, s0, s1, ⟨S, B, L9, P, T, hV, hO, hT⟩, hH, hS, hNN, hip, hot⟩ := hr0
  have hNN2 := hNN
  obtain ⟨m1, m2, ⟨il0, il1, il2⟩, ⟨ol0, ol1, ol2⟩, ⟨nx0, ct0, nx1, ct1, om1⟩, sf0, sf1, sf2⟩ := hNN2
  have hag := hV.1
  have hW := ag_wf hag hO.1
  have hT2 : g 2 = nI T := (ag_n hag (by decide)).trans hO.2.2
  have hS3 : g 3 = nI S := hW.1
  have hB4 : g 4 = nI B := hW.2.2.1
  have hL6 : g 6 = nI L9 := hW.2.2.2.2.1
  have hP5 : g 5 = nI P := hW.2.2.2.2.2.2.1
  have hw2 : w 2 = nI T := hO.2.2
  have hw3 : w 3 = nI S := hO.1.1
  have hw4 : w 4 = nI B := hO.1.2.2.1
  have hw5 : w 5 = nI P := hO.1.2.2.2.2.2.2.1
  have hw6 : w 6 = nI L9 := hO.1.2.2.2.2.1
  have hS8 := hO.1.2.1
  have hB12 := hO.1.2.2.2.1
  have hL30 := hO.1.2.2.2.2.2.1
  have hP10 := hO.1.2.2.2.2.2.2.2.1
  have ht : t ≤ 511 := by omega
  have hlb := lim_b (t := t) (by omega)
  have hls := lim_s t
  have hl0 := lim_0 t
  rcases lw_ix (xs (6 * t + 1)) L9 (by omega) with hb | ⟨i0, u0, e0⟩
  · have ct7 := (c_X7_cancel_x1 l D tb X z0 n z0 g G F sf inp out M S B L9 P (xs (6 * t + 1)) hfl hXs (by rw [hL6]; exact hb))
    rw [ha.1] at ct7
    exact lw_b43_x1 l (mc := 1) (ms := 6) (mc2 := 0) (ms2 := 0) hCE hC hX hbl hbA hL h6 hM hl rfl ha ha rfl rfl ⟨by decide, by decide⟩ ⟨by decide, by decide⟩ rfl rfl ⟨by decide, by decide⟩ (upd_s _ _ _) (lw_keep0 _ _ _ _ _ _ _ _ _ _ _ _ _ _ _ _ 1 hr) ct7 (fun n1 M0 => (c_X8_cancel_x1 l D tb X z0 n1 (z0 + 919) Fm w av od sv sl nz ip ot M0 S B L9 P T (xs (6 * t + 1)) hO (by omega) (by rw [hw6]; exact hb))) kk
  have es := hag.2.2.2.2 i0 4 u0 (by decide)
  by_cases hst : w (261 + 5 * i0 + 4) = 0
  rotate_left
  · have ct7 := (c_X7_cancel_x2 l D tb X z0 n z0 g G F sf inp out M S B L9 P i0 hfl hXs hW (by omega) (by rw [es]; exact hst))
    rw [ha.1] at ct7
    exact lw_b43_x2 l (mc := 1) (ms := 6) (mc2 := 0) (ms2 := 0) hCE hC hX hbl hbA hL h6 hM hl e0 ha ha rfl rfl ⟨by decide, by decide⟩ ⟨by decide, by decide⟩ rfl rfl ⟨by decide, by decide⟩ (upd_s _ _ _) (lw_keep0 _ _ _ _ _ _ _ _ _ _ _ _ _ _ _ _ 2 hr) ct7 (fun n1 M0 => (c_X8_cancel_x2 l D tb X z0 n1 (z0 + 919) Fm w av od sv sl nz ip ot M0 S B L9 P T i0 hO (by omega) (by omega) hst)) kk
  have hca := ag_ca hag hO.1 u0
  have hcw := wf_ca hO.1 u0
  have ho := (hO.1.2.2.2.2.2.2.2.2.2 i0 u0).2
  have ct7 := (c_X7_cancel l D tb X z0 n z0 g G F sf inp out M S B L9 P nx ct i0 hW nx1 nx0 ct1 ct0 (by omega) (by rw [es]; exact hst))
  rw [ha.1] at ct7
  have hq := (show caS i0 g (89 + 11 * (ow (caS i0 g) i0) + 2) = caS i0 w (89 + 11 * ow (caS i0 w) i0 + 2) from by rw [ag_ow hca u0]; exact hca.2.2.1 _ 2 (hcw.2.2.2.2.2.2.2.2.2 i0 u0).2 (by decide))
  rw [hq] at ct7
  exact lw_a43 l (mc := 0) (ms := 0) (mc2 := 0) (ms2 := 0) hC hX hbl hbA hL h6 hM hl e0 ha ha.cls rfl rfl ⟨by decide, by decide⟩ ⟨by decide, by decide⟩ rfl rfl ⟨by decide, by decide⟩ (upd_s _ _ _) (rel_rec ht ⟨S, B, L9, P, T, rv_mono (rv_ca hV hO.1 u0 (by omega)) (by omega), ⟨hcw, wz_ca hO.2.1 (by omega) (by omega), (c2_ca i0 w).trans hO.2.2⟩, hT⟩ hV hO hT hH hS hNN hip hot) ct7 (fun n1 M0 => (c_X8_cancel l D tb X z0 n1 (z0 + 919) Fm w av od sv sl nz ip ot M0 S B L9 P T ct i0 hO (by omega) om1 ct0 (by omega) hst)) kk
set_option maxHeartbeats 1000000 in
theorem lw_n44 (l : Launch) (hfl : l.stackTraces = false) (hC : me_cx ws_all p c cL_law 10 s args m RL D tb X z0) (hN : ∀ U, X U → me_nest U) (hXs : ∀ U, X U → me_xs z0 U) (hCE : ∀ U, X U → me_ce U) (hX : va_X b L xs s s.heap) (hbl : b < s.heap.size) (hbA : ¬ me_A z0 b) (hL : L ≤ 3072) : lw_ck p l e room_1 s m args below meth c Q D z0 b L z0 (z0 + 919) (z0 + 929) (z0 + 930) (lw_LR REL0 tb z0) 2323 := by
  intro t n M ls H locs h6 hR hM hl kk
  obtain ⟨g, G, F, sf, inp, out, Fm, w, av, od, sv, sl, nz, ip, ot, ha, hr⟩ := hR
  have hr0 := hr
  obtain ⟨nx, ct, il, ol, s0, s1, ⟨S, B, L9, P, T, hV, hO, hT⟩, hH, hS, hNN, hip, hot⟩ := hr0
  have hNN2 := hNN
  obtain ⟨m1, m2, ⟨il0, il1, il2⟩, ⟨ol0, ol1, ol2⟩, ⟨nx0, ct0, nx1, ct1, om1⟩, sf0, sf1, sf2⟩ := hNN2
  have hag := hV.1
  have hW := ag_wf hag hO.1
  have hT2 : g 2 = nI T := (ag_n hag (by decide)).trans hO.2.2
  have hS3 : g 3 = nI S := hW.1
  have hB4 : g 4 = nI B := hW.2.2.1
  have hL6 : g 6 = nI L9 := hW.2.2.2.2.1
  have hP5 : g 5 = nI P := hW.2.2.2.2.2.2.1
  have hw2 : w 2 = nI T := hO.2.2
  have hw3 : w 3 = nI S := hO.1.1
  have hw4 : w 4 = nI B := hO.1.2.2.1
  have hw5 : w 5 = nI P := hO.1.2.2.2.2.2.2.1
  have hw6 : w 6 = nI L9 := hO.1.2.2.2.2.1
  have hS8 := hO.1.2.1
  have hB12 := hO.1.2.2.2.1
  have hL30 := hO.1.2.2.2.2.2.1
  have hP10 := hO.1.2.2.2.2.2.2.2.1
  have ht : t ≤ 511 := by omega
  have hlb := lim_b (t := t) (by omega)
  have hls := lim_s t
  have hl0 := lim_0 t
  rcases lw_ix (xs (6 * t + 1)) L9 (by omega) with hb | ⟨i0, u0, e0⟩
  · have ct7 := (c_X7_whistle_x1 l D tb X z0 n z0 g G F sf inp out M S B L9 P (xs (6 * t + 1)) hfl hXs (by rw [hL6]; exact hb))
    rw [ha.1] at ct7
    exact lw_b44_x1 l (mc := 1) (ms := 6) (mc2 := 0) (ms2 := 0) hCE hC hX hbl hbA hL h6 hM hl rfl ha ha rfl rfl ⟨by decide, by decide⟩ ⟨by decide, by decide⟩ rfl rfl ⟨by decide, by decide⟩ (upd_s _ _ _) (lw_keep0 _ _ _ _ _ _ _ _ _ _ _ _ _ _ _ _ 1 hr) ct7 (fun n1 M0 => (c_X8_whistle_x1 l D tb X z0 n1 (z0 + 919) Fm w av od sv sl nz ip ot M0 S B L9 P T (xs (6 * t + 1)) hO (by omega) (by rw [hw6]; exact hb))) kk
  have es := hag.2.2.2.2 i0 4 u0 (by decide)
  by_cases hst : whC w i0
  rotate_left
  · have ct7 := (c_X7_whistle_x2 l D tb X z0 n z0 g G F sf inp out M S B L9 P i0 hfl hXs hW (by omega) (by rw [es]; exact hst))
    rw [ha.1] at ct7
    exact lw_b44_x2 l (mc := 1) (ms := 6) (mc2 := 0) (ms2 := 0) hCE hC hX hbl hbA hL h6 hM hl e0 ha ha rfl rfl ⟨by decide, by decide⟩ ⟨by decide, by decide⟩ rfl rfl ⟨by decide, by decide⟩ (upd_s _ _ _) (lw_keep0 _ _ _ _ _ _ _ _ _ _ _ _ _ _ _ _ 2 hr) ct7 (fun n1 M0 => (c_X8_whistle_x2 l D tb X z0 n1 (z0 + 919) Fm w av od sv sl nz ip ot M0 S B L9 P T i0 hO (by omega) (by omega) hst)) kk
  have ct7 := (c_X7_whistle l D tb X z0 n z0 g G F sf inp out M S B L9 P nx ct i0 hW nx1 nx0 ct1 ct0 (by omega) (by rw [es]; exact hst))
  rw [ha.1] at ct7
  have hq := (show g 2 - (g (261 + 5 * i0 + 1) + g (261 + 5 * i0 + 2)) = w 2 - (w (261 + 5 * i0 + 1) + w (261 + 5 * i0 + 2)) from by rw [ag_n hag (by decide : 2 < 9), hag.2.2.2.2 i0 1 u0 (by decide), hag.2.2.2.2 i0 2 u0 (by decide)])
  rw [hq] at ct7
  exact lw_a44 l (mc := 0) (ms := 0) (mc2 := 0) (ms2 := 0) hC hX hbl hbA hL h6 hM hl e0 ha ha.cls rfl rfl ⟨by decide, by decide⟩ ⟨by decide, by decide⟩ rfl rfl ⟨by decide, by decide⟩ (upd_s _ _ _) (rel_rec ht ⟨S, B, L9, P, T, rv_mono (rv_ws hV hO.1) (by omega), ok_ws2 hO u0, hT⟩ hV hO hT hH hS hNN hip hot) ct7 (fun n1 M0 => (c_X8_whistle l D tb X z0 n1 (z0 + 919) Fm w av od sv sl nz ip ot M0 S B L9 P T ct i0 hO (by omega) om1 ct0 (by omega) hst)) kk
set_option maxHeartbeats 1000000 in
theorem lw_n45 (l : Launch) (hfl : l.stackTraces = false) (hC : me_cx ws_all p c cL_law 10 s args m RL D tb X z0) (hN : ∀ U, X U → me_nest U) (hXs : ∀ U, X U → me_xs z0 U) (hCE : ∀ U, X U → me_ce U) (hX : va_X b L xs s s.heap) (hbl : b < s.heap.size) (hbA : ¬ me_A z0 b) (hL : L ≤ 3072) : lw_ck p l e room_1 s m args below meth c Q D z0 b L z0 (z0 + 919) (z0 + 929) (z0 + 930) (lw_LR REL0 tb z0) 2379 := by
  intro t n M ls H locs h6 hR hM hl kk
  obtain ⟨g, G, F, sf, inp, out, Fm, w, av, od, sv, sl, nz, ip, ot, ha, hr⟩ := hR
  have hr0 := hr
  obtain ⟨nx, ct, il, ol, s0, s1, ⟨S, B, L9, P, T, hV, hO, hT⟩, hH, hS, hNN, hip, hot⟩ := hr0
  have hNN2 := hNN
  obtain ⟨m1, m2, ⟨il0, il1, il2⟩, ⟨ol0, ol1, ol2⟩, ⟨nx0, ct0, nx1, ct1, om1⟩, sf0, sf1, sf2⟩ := hNN2
  have hag := hV.1
  have hW := ag_wf hag hO.1
  have hT2 : g 2 = nI T := (ag_n hag (by decide)).trans hO.2.2
  have hS3 : g 3 = nI S := hW.1
  have hB4 : g 4 = nI B := hW.2.2.1
  have hL6 : g 6 = nI L9 := hW.2.2.2.2.1
  have hP5 : g 5 = nI P := hW.2.2.2.2.2.2.1
  have hw2 : w 2 = nI T := hO.2.2
  have hw3 : w 3 = nI S := hO.1.1
  have hw4 : w 4 = nI B := hO.1.2.2.1
  have hw5 : w 5 = nI P := hO.1.2.2.2.2.2.2.1
  have hw6 : w 6 = nI L9 := hO.1.2.2.2.2.1
  have hS8 := hO.1.2.1
  have hB12 := hO.1.2.2.2.1
  have hL30 := hO.1.2.2.2.2.2.1
  have hP10 := hO.1.2.2.2.2.2.2.2.1
  have ht : t ≤ 511 := by omega
  have hlb := lim_b (t := t) (by omega)
  have hls := lim_s t
  have hl0 := lim_0 t
  rcases lw_ix (xs (6 * t + 1)) S (by omega) with hb | ⟨i0, u0, e0⟩
  · have ct7 := (c_X7_grantPermit_x1 l D tb X z0 n z0 g G F sf inp out M S B L9 P (xs (6 * t + 1)) (xs (6 * t + 2)) (xs (6 * t + 3)) hfl hXs (by rw [hS3]; exact hb))
    rw [ha.1] at ct7
    exact lw_b45_x1 l (mc := 1) (ms := 6) (mc2 := 0) (ms2 := 0) hCE hC hX hbl hbA hL h6 hM hl rfl rfl rfl ha ha rfl rfl ⟨by decide, by decide⟩ ⟨by decide, by decide⟩ rfl rfl ⟨by decide, by decide⟩ (upd_s _ _ _) (lw_keep0 _ _ _ _ _ _ _ _ _ _ _ _ _ _ _ _ 1 hr) ct7 (fun n1 M0 => (c_X8_grantPermit_x1 l D tb X z0 n1 (z0 + 919) Fm w av od sv sl nz ip ot M0 S B L9 P T (xs (6 * t + 1)) (xs (6 * t + 2)) (xs (6 * t + 3)) hO (by omega) (by rw [hw3]; exact hb))) kk
  rcases lw_rg (xs (6 * t + 3)) 1 12 (by omega) with hb | ⟨i2, u2, v2, e2⟩
  · have ct7 := (c_X7_grantPermit_x2 l D tb X z0 n z0 g G F sf inp out M S B L9 P i0 (xs (6 * t + 2)) (xs (6 * t + 3)) hfl hXs hW (by omega) hb)
    rw [ha.1] at ct7
    exact lw_b45_x2 l (mc := 1) (ms := 6) (mc2 := 0) (ms2 := 0) hCE hC hX hbl hbA hL h6 hM hl e0 rfl rfl ha ha rfl rfl ⟨by decide, by decide⟩ ⟨by decide, by decide⟩ rfl rfl ⟨by decide, by decide⟩ (upd_s _ _ _) (lw_keep0 _ _ _ _ _ _ _ _ _ _ _ _ _ _ _ _ 2 hr) ct7 (fun n1 M0 => (c_X8_grantPermit_x2 l D tb X z0 n1 (z0 + 919) Fm w av od sv sl nz ip ot M0 S B L9 P T i0 (xs (6 * t + 2)) (xs (6 * t + 3)) hO (by omega) (by omega) hb)) kk
  rcases lw_sr (xs (6 * t + 2)) T i2 (by omega) (by omega) with hb | ⟨i1, u1, v1, e1⟩
  · have ct7 := (c_X7_grantPermit_x3 l D tb X z0 n z0 g G F sf inp out M S B L9 P i0 (xs (6 * t + 2)) i2 hfl hXs hW (by omega) (by omega) (by omega) (by rw [hT2]; exact hb))
    rw [ha.1] at ct7
    exact lw_b45_x2 l (mc := 1) (ms := 6) (mc2 := 0) (ms2 := 0) hCE hC hX hbl hbA hL h6 hM hl e0 rfl e2 ha ha rfl rfl ⟨by decide, by decide⟩ ⟨by decide, by decide⟩ rfl rfl ⟨by decide, by decide⟩ (upd_s _ _ _) (lw_keep0 _ _ _ _ _ _ _ _ _ _ _ _ _ _ _ _ 2 hr) ct7 (fun n1 M0 => (c_X8_grantPermit_x3 l D tb X z0 n1 (z0 + 919) Fm w av od sv sl nz ip ot M0 S B L9 P T i0 (xs (6 * t + 2)) i2 hO (by omega) (by omega) (by omega) (by omega) (by rw [hw2]; exact hb))) kk
  have er := ag_cpI hag hO.1 (nI i0) (nI i1) (nI i2)
  by_cases hre : fi (fun k => cpP w L9 (nI i0) (nI i1) (nI i2) k) L9 0 = -1 ∧ P < 10
  rotate_left
  · have ct7 := (c_X7_grantPermit_x4 l D tb X z0 n z0 g G F sf inp out M S B L9 P T i0 i1 i2 hfl hXs hW hT2 (by omega) (by omega) (by omega) (by omega) (by omega) (by omega) (by rw [er]; exact hre))
    rw [ha.1] at ct7
    exact lw_b45_x3 l (mc := 1) (ms := 6) (mc2 := 0) (ms2 := 0) hCE hC hX hbl hbA hL h6 hM hl e0 e1 e2 ha ha rfl rfl ⟨by decide, by decide⟩ ⟨by decide, by decide⟩ rfl rfl ⟨by decide, by decide⟩ (upd_s _ _ _) (lw_keep0 _ _ _ _ _ _ _ _ _ _ _ _ _ _ _ _ 3 hr) ct7 (fun n1 M0 => (c_X8_grantPermit_x4 l D tb X z0 n1 (z0 + 919) Fm w av od sv sl nz ip ot M0 S B L9 P T i0 i1 i2 hO (by omega) (by omega) (by omega) (by omega) (by omega) (by omega) hre)) kk
  have ct7 := (c_X7_grantPermit l D tb X z0 n z0 g G F sf inp out M S B L9 P T nx ct i0 i1 i2 hW hT2 (by omega) nx1 nx0 ct1 ct0 (by omega) (by omega) (by omega) (by omega) (by omega) (by rw [er]; exact hre))
  rw [ha.1] at ct7
  exact lw_a45 l (mc := 0) (ms := 0) (mc2 := 0) (ms2 := 0) hC hX hbl hbA hL h6 hM hl e0 e1 e2 ha ha.cls rfl rfl ⟨by decide, by decide⟩ ⟨by decide, by decide⟩ rfl rfl ⟨by decide, by decide⟩ (upd_s _ _ _) (rel_rec ht ⟨S, B, L9, P + 1, T, rv_mono (rv_ap hV hO.1 hre.2) (by omega), ok_ap2 hO hre.2, hT⟩ hV hO hT hH hS hNN hip hot) ct7 (fun n1 M0 => (c_X8_grantPermit l D tb X z0 n1 (z0 + 919) Fm w av od sv sl nz ip ot M0 S B L9 P T ct i0 i1 i2 hO (by omega) om1 ct0 (by omega) (by omega) (by omega) (by omega) (by omega) hre)) kk
set_option maxHeartbeats 1000000 in
theorem lw_n46 (l : Launch) (hfl : l.stackTraces = false) (hC : me_cx ws_all p c cL_law 10 s args m RL D tb X z0) (hN : ∀ U, X U → me_nest U) (hXs : ∀ U, X U → me_xs z0 U) (hCE : ∀ U, X U → me_ce U) (hX : va_X b L xs s s.heap) (hbl : b < s.heap.size) (hbA : ¬ me_A z0 b) (hL : L ≤ 3072) : lw_ck p l e room_1 s m args below meth c Q D z0 b L z0 (z0 + 919) (z0 + 929) (z0 + 930) (lw_LR REL0 tb z0) 2459 := by
  intro t n M ls H locs h6 hR hM hl kk
  obtain ⟨g, G, F, sf, inp, out, Fm, w, av, od, sv, sl, nz, ip, ot, ha, hr⟩ := hR
  have hr0 := hr
  obtain ⟨nx, ct, il, ol, s0, s1, ⟨S, B, L9, P, T, hV, hO, hT⟩, hH, hS, hNN, hip, hot⟩ := hr0
  have hNN2 := hNN
  obtain ⟨m1, m2, ⟨il0, il1, il2⟩, ⟨ol0, ol1, ol2⟩, ⟨nx0, ct0, nx1, ct1, om1⟩, sf0, sf1, sf2⟩ := hNN2
  have hag := hV.1
  have hW := ag_wf hag hO.1
  have hT2 : g 2 = nI T := (ag_n hag (by decide)).trans hO.2.2
  have hS3 : g 3 = nI S := hW.1
  have hB4 : g 4 = nI B := hW.2.2.1
  have hL6 : g 6 = nI L9 := hW.2.2.2.2.1
  have hP5 : g 5 = nI P := hW.2.2.2.2.2.2.1
  have hw2 : w 2 = nI T := hO.2.2
  have hw3 : w 3 = nI S := hO.1.1
  have hw4 : w 4 = nI B := hO.1.2.2.1
  have hw5 : w 5 = nI P := hO.1.2.2.2.2.2.2.1
  have hw6 : w 6 = nI L9 := hO.1.2.2.2.2.1
  have hS8 := hO.1.2.1
  have hB12 := hO.1.2.2.2.1
  have hL30 := hO.1.2.2.2.2.2.1
  have hP10 := hO.1.2.2.2.2.2.2.2.1
  have ht : t ≤ 511 := by omega
  have hlb := lim_b (t := t) (by omega)
  have hls := lim_s t
  have hl0 := lim_0 t
  rcases lw_ix (xs (6 * t + 1)) P (by omega) with hb | ⟨i0, u0, e0⟩
  · have ct7 := (c_X7_revokePermit_x1 l D tb X z0 n z0 g G F sf inp out M S B L9 P (xs (6 * t + 1)) hfl hXs hW (by rw [hP5]; exact hb))
    rw [ha.1] at ct7
    exact lw_b46_x1 l (mc := 1) (ms := 6) (mc2 := 0) (ms2 := 0) hCE hC hX hbl hbA hL h6 hM hl rfl ha ha rfl rfl ⟨by decide, by decide⟩ ⟨by decide, by decide⟩ rfl rfl ⟨by decide, by decide⟩ (upd_s _ _ _) (lw_keep0 _ _ _ _ _ _ _ _ _ _ _ _ _ _ _ _ 1 hr) ct7 (fun n1 M0 => (c_X8_revokePermit_x1 l D tb X z0 n1 (z0 + 919) Fm w av od sv sl nz ip ot M0 S B L9 P T (xs (6 * t + 1)) hO (by omega) (by rw [hw5]; exact hb))) kk
  have es : bz (g (221 + 4 * i0 + 3)) = w (221 + 4 * i0 + 3) := by rw [hag.2.2.2.1 i0 3 u0 (by decide)]; exact hO.2.1.1 i0 (by omega)
  by_cases hst : w (221 + 4 * i0 + 3) = 0
  rotate_left
  · have ct7 := (c_X7_revokePermit_x2 l D tb X z0 n z0 g G F sf inp out M S B L9 P i0 hfl hXs hW (by omega) (by rw [es]; exact hst))
    rw [ha.1] at ct7
    exact lw_b46_x2 l (mc := 1) (ms := 6) (mc2 := 0) (ms2 := 0) hCE hC hX hbl hbA hL h6 hM hl e0 ha ha rfl rfl ⟨by decide, by decide⟩ ⟨by decide, by decide⟩ rfl rfl ⟨by decide, by decide⟩ (upd_s _ _ _) (lw_keep0 _ _ _ _ _ _ _ _ _ _ _ _ _ _ _ _ 2 hr) ct7 (fun n1 M0 => (c_X8_revokePermit_x2 l D tb X z0 n1 (z0 + 919) Fm w av od sv sl nz ip ot M0 S B L9 P T i0 hO (by omega) (by omega) hst)) kk
  have hrv := ag_rv hag i0
  have hrz : wz (rvG i0 w) := wz_updP hO.2.1 (by omega) (by decide) (fun _ => by decide)
  have hrw : wf (rvG i0 w) S B L9 P := wf_upd hO.1 (by omega) (fun b hb => by omega) (fun k hk => by omega)
  have ct7 := (c_X7_revokePermit l D tb X z0 n z0 g G F sf inp out M S B L9 P nx ct i0 hW nx1 nx0 ct1 ct0 (by omega) (by rw [es]; exact hst))
  rw [ha.1] at ct7
  have hq := (show nI (co (fun k2 => bz (rvG i0 g (221 + 4 * k2 + 3)) = 0) P 0) = nI (co (fun j => rvG i0 w (221 + 4 * j + 3) = 0) P 0) from congrArg nI (co_eq P 0 (fun j _ hj => by rw [hrv.2.2.2.1 j 3 (by omega) (by decide), hrz.1 j (by omega)])))
  rw [hq] at ct7
  exact lw_a46 l (mc := 0) (ms := 0) (mc2 := 0) (ms2 := 0) hC hX hbl hbA hL h6 hM hl e0 ha ha.cls rfl rfl ⟨by decide, by decide⟩ ⟨by decide, by decide⟩ rfl rfl ⟨by decide, by decide⟩ (upd_s _ _ _) (rel_rec ht ⟨S, B, L9, P, T, rv_mono (rv_rv hV hO.1 (by omega)) (by omega), ⟨hrw, hrz, (upd_n (by omega)).trans hO.2.2⟩, hT⟩ hV hO hT hH hS hNN hip hot) ct7 (fun n1 M0 => (c_X8_revokePermit l D tb X z0 n1 (z0 + 919) Fm w av od sv sl nz ip ot M0 S B L9 P T ct i0 hO (by omega) om1 ct0 (by omega) hst)) kk
set_option maxHeartbeats 1000000 in
theorem lw_n47 (l : Launch) (hfl : l.stackTraces = false) (hC : me_cx ws_all p c cL_law 10 s args m RL D tb X z0) (hN : ∀ U, X U → me_nest U) (hXs : ∀ U, X U → me_xs z0 U) (hCE : ∀ U, X U → me_ce U) (hX : va_X b L xs s s.heap) (hbl : b < s.heap.size) (hbA : ¬ me_A z0 b) (hL : L ≤ 3072) : lw_ck p l e room_1 s m args below meth c Q D z0 b L z0 (z0 + 919) (z0 + 929) (z0 + 930) (lw_LR REL0 tb z0) 2515 := by
  intro t n M ls H locs h6 hR hM hl kk
  obtain ⟨g, G, F, sf, inp, out, Fm, w, av, od, sv, sl, nz, ip, ot, ha, hr⟩ := hR
  have hr0 := hr
  obtain ⟨nx, ct, il, ol, s0, s1, ⟨S, B, L9, P, T, hV, hO, hT⟩, hH, hS, hNN, hip, hot⟩ := hr0
  have hNN2 := hNN
  obtain ⟨m1, m2, ⟨il0, il1, il2⟩, ⟨ol0, ol1, ol2⟩, ⟨nx0, ct0, nx1, ct1, om1⟩, sf0, sf1, sf2⟩ := hNN2
  have hag := hV.1
  have hW := ag_wf hag hO.1
  have hT2 : g 2 = nI T := (ag_n hag (by decide)).trans hO.2.2
  have hS3 : g 3 = nI S := hW.1
  have hB4 : g 4 = nI B := hW.2.2.1
  have hL6 : g 6 = nI L9 := hW.2.2.2.2.1
  have hP5 : g 5 = nI P := hW.2.2.2.2.2.2.1
  have hw2 : w 2 = nI T := hO.2.2
  have hw3 : w 3 = nI S := hO.1.1
  have hw4 : w 4 = nI B := hO.1.2.2.1
  have hw5 : w 5 = nI P := hO.1.2.2.2.2.2.2.1
  have hw6 : w 6 = nI L9 := hO.1.2.2.2.2.1
  have hS8 := hO.1.2.1
  have hB12 := hO.1.2.2.2.1
  have hL30 := hO.1.2.2.2.2.2.1
  have hP10 := hO.1.2.2.2.2.2.2.2.1
  have ht : t ≤ 511 := by omega
  have hlb := lim_b (t := t) (by omega)
  have hls := lim_s t
  have hl0 := lim_0 t
  rcases lw_ix (xs (6 * t + 1)) B (by omega) with hb | ⟨i0, u0, e0⟩
  · have ct7 := (c_X7_pay_x1 l D tb X z0 n z0 g G F sf inp out M S B L9 P (xs (6 * t + 1)) (xs (6 * t + 2)) hfl hXs (by rw [hB4]; exact hb))
    rw [ha.1] at ct7
    exact lw_b47_x1 l (mc := 1) (ms := 6) (mc2 := 0) (ms2 := 0) hCE hC hX hbl hbA hL h6 hM hl rfl rfl ha ha rfl rfl ⟨by decide, by decide⟩ ⟨by decide, by decide⟩ rfl rfl ⟨by decide, by decide⟩ (upd_s _ _ _) (lw_keep0 _ _ _ _ _ _ _ _ _ _ _ _ _ _ _ _ 1 hr) ct7 (fun n1 M0 => (c_X8_pay_x1 l D tb X z0 n1 (z0 + 919) Fm w av od sv sl nz ip ot M0 S B L9 P T (xs (6 * t + 1)) (xs (6 * t + 2)) hO (by omega) (by rw [hw4]; exact hb))) kk
  rcases lw_rg (xs (6 * t + 2)) 1 999 (by omega) with hb | ⟨i1, u1, v1, e1⟩
  · have ct7 := (c_X7_pay_x2 l D tb X z0 n z0 g G F sf inp out M S B L9 P i0 (xs (6 * t + 2)) hfl hXs hW (by omega) hb)
    rw [ha.1] at ct7
    exact lw_b47_x2 l (mc := 1) (ms := 6) (mc2 := 0) (ms2 := 0) hCE hC hX hbl hbA hL h6 hM hl e0 rfl ha ha rfl rfl ⟨by decide, by decide⟩ ⟨by decide, by decide⟩ rfl rfl ⟨by decide, by decide⟩ (upd_s _ _ _) (lw_keep0 _ _ _ _ _ _ _ _ _ _ _ _ _ _ _ _ 2 hr) ct7 (fun n1 M0 => (c_X8_pay_x2 l D tb X z0 n1 (z0 + 919) Fm w av od sv sl nz ip ot M0 S B L9 P T i0 (xs (6 * t + 2)) hO (by omega) (by omega) hb)) kk
  have hpw : ok1 S B L9 P T (pyG i0 (nI i1) w) := by
    unfold pyG
    exact ⟨wf_upd (wf_upd hO.1 (by omega) (fun b hb => by omega) (fun k hk => by omega)) (by omega) (fun b hb => by omega) (fun k hk => by omega), wz_upd (wz_upd hO.2.1 (by omega)) (by omega), ((upd_n (by omega)).trans (upd_n (by omega))).trans hO.2.2⟩
  have ct7 := (c_X7_pay l D tb X z0 n z0 g G F sf inp out M S B L9 P nx ct i0 i1 hW nx1 nx0 ct1 ct0 (by omega) (by omega) (by omega))
  rw [ha.1] at ct7
  have hq := (show g (89 + 11 * i0 + 2) + nI i1 = w (89 + 11 * i0 + 2) + nI i1 from by rw [hag.2.2.1 i0 2 u0 (by decide)])
  rw [hq] at ct7
  exact lw_a47 l (mc := 0) (ms := 0) (mc2 := 0) (ms2 := 0) hC hX hbl hbA hL h6 hM hl e0 e1 ha ha.cls rfl rfl ⟨by decide, by decide⟩ ⟨by decide, by decide⟩ rfl rfl ⟨by decide, by decide⟩ (upd_s _ _ _) (rel_rec ht ⟨S, B, L9, P, T, rv_mono (rv_py hV hO.1 u0 (by omega) (by omega)) (by omega), hpw, hT⟩ hV hO hT hH hS hNN hip hot) ct7 (fun n1 M0 => (c_X8_pay l D tb X z0 n1 (z0 + 919) Fm w av od sv sl nz ip ot M0 S B L9 P T ct i0 i1 hO (by omega) om1 ct0 (by omega) (by omega) (by omega))) kk
set_option maxHeartbeats 1000000 in
theorem lw_n48 (l : Launch) (hfl : l.stackTraces = false) (hC : me_cx ws_all p c cL_law 10 s args m RL D tb X z0) (hN : ∀ U, X U → me_nest U) (hXs : ∀ U, X U → me_xs z0 U) (hCE : ∀ U, X U → me_ce U) (hX : va_X b L xs s s.heap) (hbl : b < s.heap.size) (hbA : ¬ me_A z0 b) (hL : L ≤ 3072) : lw_ck p l e room_1 s m args below meth c Q D z0 b L z0 (z0 + 919) (z0 + 929) (z0 + 930) (lw_LR REL0 tb z0) 2583 := by
  intro t n M ls H locs h6 hR hM hl kk
  obtain ⟨g, G, F, sf, inp, out, Fm, w, av, od, sv, sl, nz, ip, ot, ha, hr⟩ := hR
  have hr0 := hr
  obtain ⟨nx, ct, il, ol, s0, s1, ⟨S, B, L9, P, T, hV, hO, hT⟩, hH, hS, hNN, hip, hot⟩ := hr0
  have hNN2 := hNN
  obtain ⟨m1, m2, ⟨il0, il1, il2⟩, ⟨ol0, ol1, ol2⟩, ⟨nx0, ct0, nx1, ct1, om1⟩, sf0, sf1, sf2⟩ := hNN2
  have hag := hV.1
  have hW := ag_wf hag hO.1
  have hT2 : g 2 = nI T := (ag_n hag (by decide)).trans hO.2.2
  have hS3 : g 3 = nI S := hW.1
  have hB4 : g 4 = nI B := hW.2.2.1
  have hL6 : g 6 = nI L9 := hW.2.2.2.2.1
  have hP5 : g 5 = nI P := hW.2.2.2.2.2.2.1
  have hw2 : w 2 = nI T := hO.2.2
  have hw3 : w 3 = nI S := hO.1.1
  have hw4 : w 4 = nI B := hO.1.2.2.1
  have hw5 : w 5 = nI P := hO.1.2.2.2.2.2.2.1
  have hw6 : w 6 = nI L9 := hO.1.2.2.2.2.1
  have hS8 := hO.1.2.1
  have hB12 := hO.1.2.2.2.1
  have hL30 := hO.1.2.2.2.2.2.1
  have hP10 := hO.1.2.2.2.2.2.2.2.1
  have ht : t ≤ 511 := by omega
  have hlb := lim_b (t := t) (by omega)
  have hls := lim_s t
  have hl0 := lim_0 t
  rcases lw_rg (xs (6 * t + 1)) 1 99 (by omega) with hb | ⟨i0, u0, v0, e0⟩
  · have ct7 := (c_X7_advance_x1 l D tb X z0 n z0 g G F sf inp out M S B L9 P (xs (6 * t + 1)) hfl hXs hW hb)
    rw [ha.1] at ct7
    exact lw_b48_x1 l (mc := 1) (ms := 6) (mc2 := 0) (ms2 := 0) hCE hC hX hbl hbA hL h6 hM hl rfl ha ha rfl rfl ⟨by decide, by decide⟩ ⟨by decide, by decide⟩ rfl rfl ⟨by decide, by decide⟩ (upd_s _ _ _) (lw_keep0 _ _ _ _ _ _ _ _ _ _ _ _ _ _ _ _ 1 hr) ct7 (fun n1 M0 => (c_X8_advance_x1 l D tb X z0 n1 (z0 + 919) Fm w av od sv sl nz ip ot M0 S B L9 P T (xs (6 * t + 1)) hO (by omega) hb)) kk
  by_cases hTn : T + i0 ≤ 9999
  rotate_left
  · have ct7 := (c_X7_advance_x2 l D tb X z0 n z0 g G F sf inp out M S B L9 P T i0 hfl hXs hW hT2 (by omega) (by omega) (by omega) (by omega))
    rw [ha.1] at ct7
    exact lw_b48_x2 l (mc := 1) (ms := 6) (mc2 := 0) (ms2 := 0) hCE hC hX hbl hbA hL h6 hM hl e0 ha ha rfl rfl ⟨by decide, by decide⟩ ⟨by decide, by decide⟩ rfl rfl ⟨by decide, by decide⟩ (upd_s _ _ _) (lw_keep0 _ _ _ _ _ _ _ _ _ _ _ _ _ _ _ _ 2 hr) ct7 (fun n1 M0 => (c_X8_advance_x2 l D tb X z0 n1 (z0 + 919) Fm w av od sv sl nz ip ot M0 S B L9 P T i0 hO (by omega) (by omega) (by omega) (by omega))) kk
  have hk : 2970 * i0 ≤ 294030 := Nat.le_trans (Nat.mul_le_mul_left 2970 v0) (by decide)
  have hk2 : lim t + 2970 * i0 ≤ lim t + 294030 := Nat.add_le_add_left hk _
  have hk3 : lim t + 294030 ≤ 2000000000 := by omega
  have hk4 : lim t + 294030 ≤ lim (t + 1) := by omega
  have hrv := rv_hours (nz := nz) hV hO.1 i0 (Nat.le_trans hk2 hk3)
  have ct7 := (c_X7_advance l D tb X z0 n z0 g G F sf inp out M S B L9 P T nx ct hN i0 hW hT2 (by omega) nx1 nx0 ct1 ct0 (by omega) (by omega) (by omega))
  rw [ha.1] at ct7
  have hq := (show nI (paN S B L9 P i0 g) = nI (mpN S B L9 P i0 (w, nz)) from congrArg nI (hours_ag i0 g (w, nz) hag hO.1 hV.2.1).2.1)
  rw [hq] at ct7
  exact lw_a48 l (mc := 0) (ms := 0) (mc2 := 0) (ms2 := 0) hC hX hbl hbA hL h6 hM hl e0 ha ha.cls rfl rfl ⟨by decide, by decide⟩ ⟨by decide, by decide⟩ rfl rfl ⟨by decide, by decide⟩ (upd_s _ _ _) (rel_rec ht ⟨S, B, L9, P, T + i0, rv_mono hrv (Nat.le_trans hk2 hk4), ok_pS i0 T (w, nz) hO, hTn⟩ hV hO hT hH hS hNN hip hot) ct7 (fun n1 M0 => (c_X8_advance l D tb X z0 n1 (z0 + 919) Fm w av od sv sl nz ip ot M0 S B L9 P T ct i0 hO (by omega) om1 ct0 (by omega) (by omega) (by omega))) kk
end LNC1
