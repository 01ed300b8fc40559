section LN1
variable {p : Program} {e : Env} {s : State} {m : MethodId} {args : Array Value} {below : List Frame} {meth : Method} {c : Code} {Q : State → Prop} {REL : lw_RT}
variable {D : va_G} {tb : Nat → ClassId} {X : State → Prop} {z0 b L : Nat} {xs : Nat → Int32}
set_option maxHeartbeats 1000000 in
theorem lw_n12 (l : Launch) (hfl : l.stackTraces = false) (hC : me_cx ws_all p c cL_law 10 s args m RL D tb X z0) (hN : ∀ U, X U → me_nest U) (hXs : ∀ U, X U → me_xs z0 U) (hCE : ∀ U, X U → me_ce U) (hX : va_X b L xs s s.heap) (hbl : b < s.heap.size) (hbA : ¬ me_A z0 b) (hL : L ≤ 3072) (hgood : lw_good REL) (hkeep : lw_keep REL) : lw_ck p l e room_1 s m args below meth c Q D z0 b L z0 (z0 + 919) (z0 + 929) (z0 + 930) (lw_LR REL tb z0) 570 := by
  intro t n M ls H locs h6 hR hM hl kk
  obtain ⟨g, G, F, sf, inp, out, Fm, w, av, od, sv, sl, nz, ip, ot, ha, hr⟩ := hR
  obtain ⟨S, B, L9, P, T, hag, hO, hT⟩ := hgood _ _ _ _ _ _ _ _ _ _ _ _ _ _ _ _ hr
  have hW := ag_wf hag hO.1
  have hT2 : g 2 = nI T := (ag_n hag (by decide)).trans hO.2.2
  have hS3 : g 3 = nI S := hW.1
  have hB4 : g 4 = nI B := hW.2.2.1
  have hL6 : g 6 = nI L9 := hW.2.2.2.2.1
  have hw2 : w 2 = nI T := hO.2.2
  have hw3 : w 3 = nI S := hO.1.1
  have hw4 : w 4 = nI B := hO.1.2.2.1
  have hw6 : w 6 = nI L9 := hO.1.2.2.2.2.1
  have hS8 := hO.1.2.1
  have hB12 := hO.1.2.2.2.1
  have hL30 := hO.1.2.2.2.2.2.1
  rcases lw_rg (xs (6 * t + 1)) 0 5 (by omega) with hb | ⟨i0, u0, v0, e0⟩
  · have ct := (c_X7_loansWith_x1 l D tb X z0 n z0 g G F sf inp out M S B L9 P (xs (6 * t + 1)) hfl hXs hb hW)
    rw [ha.1] at ct
    exact lw_b12_x1 l (mc := 1) (ms := 6) (mc2 := 0) (ms2 := 0) hCE hC hX hbl hbA hL h6 hM hl rfl ha ha rfl rfl ⟨by decide, by decide⟩ ⟨by decide, by decide⟩ rfl rfl ⟨by decide, by decide⟩ (upd_s _ _ _) (hkeep _ _ _ _ _ _ _ _ _ _ _ _ _ _ _ _ 1 hr) ct (fun n1 M0 => (c_X8_loansWith_x1 l D tb X z0 n1 (z0 + 919) Fm w av od sv sl nz ip ot M0 S B L9 P T (xs (6 * t + 1)) hO (by omega) hb)) kk
  have ct := (c_X7_loansWith l D tb X z0 n z0 g G F sf inp out M S B L9 P i0 hW (by omega))
  rw [ha.1] at ct
  have hq := congrArg nI (ag_st hag (nI i0))
  rw [hq] at ct
  exact lw_a12 l (mc := 0) (ms := 0) (mc2 := 0) (ms2 := 0) hC hX hbl hbA hL h6 hM hl e0 ha ha rfl rfl ⟨by decide, by decide⟩ ⟨by decide, by decide⟩ rfl rfl ⟨by decide, by decide⟩ (upd_s _ _ _) (hkeep _ _ _ _ _ _ _ _ _ _ _ _ _ _ _ _ 0 hr) ct (fun n1 M0 => (c_X8_loansWith l D tb X z0 n1 (z0 + 919) Fm w av od sv sl nz ip ot M0 S B L9 P T i0 hO (by omega) (by omega))) kk
set_option maxHeartbeats 1000000 in
theorem lw_n14 (l : Launch) (hfl : l.stackTraces = false) (hC : me_cx ws_all p c cL_law 10 s args m RL D tb X z0) (hN : ∀ U, X U → me_nest U) (hXs : ∀ U, X U → me_xs z0 U) (hCE : ∀ U, X U → me_ce U) (hX : va_X b L xs s s.heap) (hbl : b < s.heap.size) (hbA : ¬ me_A z0 b) (hL : L ≤ 3072) (hgood : lw_good REL) (hkeep : lw_keep REL) : lw_ck p l e room_1 s m args below meth c Q D z0 b L z0 (z0 + 919) (z0 + 929) (z0 + 930) (lw_LR REL tb z0) 639 := by
  intro t n M ls H locs h6 hR hM hl kk
  obtain ⟨g, G, F, sf, inp, out, Fm, w, av, od, sv, sl, nz, ip, ot, ha, hr⟩ := hR
  obtain ⟨S, B, L9, P, T, hag, hO, hT⟩ := hgood _ _ _ _ _ _ _ _ _ _ _ _ _ _ _ _ hr
  have hW := ag_wf hag hO.1
  have hT2 : g 2 = nI T := (ag_n hag (by decide)).trans hO.2.2
  have hS3 : g 3 = nI S := hW.1
  have hB4 : g 4 = nI B := hW.2.2.1
  have hL6 : g 6 = nI L9 := hW.2.2.2.2.1
  have hw2 : w 2 = nI T := hO.2.2
  have hw3 : w 3 = nI S := hO.1.1
  have hw4 : w 4 = nI B := hO.1.2.2.1
  have hw6 : w 6 = nI L9 := hO.1.2.2.2.2.1
  have hS8 := hO.1.2.1
  have hB12 := hO.1.2.2.2.1
  have hL30 := hO.1.2.2.2.2.2.1
  rcases lw_ix (xs (6 * t + 1)) S (by omega) with hb | ⟨i0, u0, e0⟩
  · have ct := (c_X7_noiseNow_x1 l D tb X z0 n z0 g G F sf inp out M S B L9 P (xs (6 * t + 1)) hfl hXs (by rw [hS3]; exact hb))
    rw [ha.1] at ct
    exact lw_b14_x1 l (mc := 1) (ms := 6) (mc2 := 0) (ms2 := 0) hCE hC hX hbl hbA hL h6 hM hl rfl ha ha rfl rfl ⟨by decide, by decide⟩ ⟨by decide, by decide⟩ rfl rfl ⟨by decide, by decide⟩ (upd_s _ _ _) (hkeep _ _ _ _ _ _ _ _ _ _ _ _ _ _ _ _ 1 hr) ct (fun n1 M0 => (c_X8_noiseNow_x1 l D tb X z0 n1 (z0 + 919) Fm w av od sv sl nz ip ot M0 S B L9 P T (xs (6 * t + 1)) hO (by omega) (by rw [hw3]; exact hb))) kk
  have ct := (c_X7_noiseNow l D tb X z0 n z0 g G F sf inp out M S B L9 P hN i0 hW (by omega))
  rw [ha.1] at ct
  have hq := ag_no hag hO.1 u0 (nI T)
  rw [hT2, hq] at ct
  exact lw_a14 l (mc := 0) (ms := 0) (mc2 := 0) (ms2 := 0) hC hX hbl hbA hL h6 hM hl e0 ha ha rfl rfl ⟨by decide, by decide⟩ ⟨by decide, by decide⟩ rfl rfl ⟨by decide, by decide⟩ (upd_s _ _ _) (hkeep _ _ _ _ _ _ _ _ _ _ _ _ _ _ _ _ 0 hr) ct (fun n1 M0 => (c_X8_noiseNow l D tb X z0 n1 (z0 + 919) Fm w av od sv sl nz ip ot M0 S B L9 P T i0 hO (by omega) (by omega))) kk
set_option maxHeartbeats 1000000 in
theorem lw_n15 (l : Launch) (hfl : l.stackTraces = false) (hC : me_cx ws_all p c cL_law 10 s args m RL D tb X z0) (hN : ∀ U, X U → me_nest U) (hXs : ∀ U, X U → me_xs z0 U) (hCE : ∀ U, X U → me_ce U) (hX : va_X b L xs s s.heap) (hbl : b < s.heap.size) (hbA : ¬ me_A z0 b) (hL : L ≤ 3072) (hgood : lw_good REL) (hkeep : lw_keep REL) : lw_ck p l e room_1 s m args below meth c Q D z0 b L z0 (z0 + 919) (z0 + 929) (z0 + 930) (lw_LR REL tb z0) 695 := by
  intro t n M ls H locs h6 hR hM hl kk
  obtain ⟨g, G, F, sf, inp, out, Fm, w, av, od, sv, sl, nz, ip, ot, ha, hr⟩ := hR
  obtain ⟨S, B, L9, P, T, hag, hO, hT⟩ := hgood _ _ _ _ _ _ _ _ _ _ _ _ _ _ _ _ hr
  have hW := ag_wf hag hO.1
  have hT2 : g 2 = nI T := (ag_n hag (by decide)).trans hO.2.2
  have hS3 : g 3 = nI S := hW.1
  have hB4 : g 4 = nI B := hW.2.2.1
  have hL6 : g 6 = nI L9 := hW.2.2.2.2.1
  have hw2 : w 2 = nI T := hO.2.2
  have hw3 : w 3 = nI S := hO.1.1
  have hw4 : w 4 = nI B := hO.1.2.2.1
  have hw6 : w 6 = nI L9 := hO.1.2.2.2.2.1
  have hS8 := hO.1.2.1
  have hB12 := hO.1.2.2.2.1
  have hL30 := hO.1.2.2.2.2.2.1
  rcases lw_ix (xs (6 * t + 1)) S (by omega) with hb | ⟨i0, u0, e0⟩
  · have ct := (c_X7_noiseAt_x1 l D tb X z0 n z0 g G F sf inp out M S B L9 P (xs (6 * t + 1)) (xs (6 * t + 2)) hfl hXs (by rw [hS3]; exact hb))
    rw [ha.1] at ct
    exact lw_b15_x1 l (mc := 1) (ms := 6) (mc2 := 0) (ms2 := 0) hCE hC hX hbl hbA hL h6 hM hl rfl rfl ha ha rfl rfl ⟨by decide, by decide⟩ ⟨by decide, by decide⟩ rfl rfl ⟨by decide, by decide⟩ (upd_s _ _ _) (hkeep _ _ _ _ _ _ _ _ _ _ _ _ _ _ _ _ 1 hr) ct (fun n1 M0 => (c_X8_noiseAt_x1 l D tb X z0 n1 (z0 + 919) Fm w av od sv sl nz ip ot M0 S B L9 P T (xs (6 * t + 1)) (xs (6 * t + 2)) hO (by omega) (by rw [hw3]; exact hb))) kk
  rcases lw_hr (xs (6 * t + 2)) T (by omega) with hb | ⟨i1, u1, v1, e1⟩
  · have ct := (c_X7_noiseAt_x2 l D tb X z0 n z0 g G F sf inp out M S B L9 P i0 (xs (6 * t + 2)) hfl hXs hW (by omega) (by rw [hT2]; exact hb))
    rw [ha.1] at ct
    exact lw_b15_x2 l (mc := 1) (ms := 6) (mc2 := 0) (ms2 := 0) hCE hC hX hbl hbA hL h6 hM hl e0 rfl ha ha rfl rfl ⟨by decide, by decide⟩ ⟨by decide, by decide⟩ rfl rfl ⟨by decide, by decide⟩ (upd_s _ _ _) (hkeep _ _ _ _ _ _ _ _ _ _ _ _ _ _ _ _ 2 hr) ct (fun n1 M0 => (c_X8_noiseAt_x2 l D tb X z0 n1 (z0 + 919) Fm w av od sv sl nz ip ot M0 S B L9 P T i0 (xs (6 * t + 2)) hO (by omega) (by omega) (by rw [hw2]; exact hb))) kk
  have ct := (c_X7_noiseAt l D tb X z0 n z0 g G F sf inp out M S B L9 P T hN i0 i1 hW hT2 (by omega) (by omega) (by omega) (by omega))
  rw [ha.1] at ct
  have hq := ag_no hag hO.1 u0 (nI i1)
  rw [hq] at ct
  exact lw_a15 l (mc := 0) (ms := 0) (mc2 := 0) (ms2 := 0) hC hX hbl hbA hL h6 hM hl e0 e1 ha ha rfl rfl ⟨by decide, by decide⟩ ⟨by decide, by decide⟩ rfl rfl ⟨by decide, by decide⟩ (upd_s _ _ _) (hkeep _ _ _ _ _ _ _ _ _ _ _ _ _ _ _ _ 0 hr) ct (fun n1 M0 => (c_X8_noiseAt l D tb X z0 n1 (z0 + 919) Fm w av od sv sl nz ip ot M0 S B L9 P T i0 i1 hO (by omega) (by omega) (by omega) (by omega))) kk
set_option maxHeartbeats 1000000 in
theorem lw_n16 (l : Launch) (hfl : l.stackTraces = false) (hC : me_cx ws_all p c cL_law 10 s args m RL D tb X z0) (hN : ∀ U, X U → me_nest U) (hXs : ∀ U, X U → me_xs z0 U) (hCE : ∀ U, X U → me_ce U) (hX : va_X b L xs s s.heap) (hbl : b < s.heap.size) (hbA : ¬ me_A z0 b) (hL : L ≤ 3072) (hgood : lw_good REL) (hkeep : lw_keep REL) : lw_ck p l e room_1 s m args below meth c Q D z0 b L z0 (z0 + 919) (z0 + 929) (z0 + 930) (lw_LR REL tb z0) 763 := by
  intro t n M ls H locs h6 hR hM hl kk
  obtain ⟨g, G, F, sf, inp, out, Fm, w, av, od, sv, sl, nz, ip, ot, ha, hr⟩ := hR
  obtain ⟨S, B, L9, P, T, hag, hO, hT⟩ := hgood _ _ _ _ _ _ _ _ _ _ _ _ _ _ _ _ hr
  have hW := ag_wf hag hO.1
  have hT2 : g 2 = nI T := (ag_n hag (by decide)).trans hO.2.2
  have hS3 : g 3 = nI S := hW.1
  have hB4 : g 4 = nI B := hW.2.2.1
  have hL6 : g 6 = nI L9 := hW.2.2.2.2.1
  have hw2 : w 2 = nI T := hO.2.2
  have hw3 : w 3 = nI S := hO.1.1
  have hw4 : w 4 = nI B := hO.1.2.2.1
  have hw6 : w 6 = nI L9 := hO.1.2.2.2.2.1
  have hS8 := hO.1.2.1
  have hB12 := hO.1.2.2.2.1
  have hL30 := hO.1.2.2.2.2.2.1
  rcases lw_ix (xs (6 * t + 1)) S (by omega) with hb | ⟨i0, u0, e0⟩
  · have ct := (c_X7_noiseTotal_x1 l D tb X z0 n z0 g G F sf inp out M S B L9 P (xs (6 * t + 1)) hfl hXs (by rw [hS3]; exact hb))
    rw [ha.1] at ct
    exact lw_b16_x1 l (mc := 1) (ms := 6) (mc2 := 0) (ms2 := 0) hCE hC hX hbl hbA hL h6 hM hl rfl ha ha rfl rfl ⟨by decide, by decide⟩ ⟨by decide, by decide⟩ rfl rfl ⟨by decide, by decide⟩ (upd_s _ _ _) (hkeep _ _ _ _ _ _ _ _ _ _ _ _ _ _ _ _ 1 hr) ct (fun n1 M0 => (c_X8_noiseTotal_x1 l D tb X z0 n1 (z0 + 919) Fm w av od sv sl nz ip ot M0 S B L9 P T (xs (6 * t + 1)) hO (by omega) (by rw [hw3]; exact hb))) kk
  have ct := (c_X7_noiseTotal l D tb X z0 n z0 g G F sf inp out M S B L9 P i0 hW (by omega))
  rw [ha.1] at ct
  have hq := hag.2.1 i0 2 u0 (by decide)
  rw [hq] at ct
  exact lw_a16 l (mc := 0) (ms := 0) (mc2 := 0) (ms2 := 0) hC hX hbl hbA hL h6 hM hl e0 ha ha rfl rfl ⟨by decide, by decide⟩ ⟨by decide, by decide⟩ rfl rfl ⟨by decide, by decide⟩ (upd_s _ _ _) (hkeep _ _ _ _ _ _ _ _ _ _ _ _ _ _ _ _ 0 hr) ct (fun n1 M0 => (c_X8_noiseTotal l D tb X z0 n1 (z0 + 919) Fm w av od sv sl nz ip ot M0 S B L9 P T i0 hO (by omega) (by omega))) kk
set_option maxHeartbeats 1000000 in
theorem lw_n17 (l : Launch) (hfl : l.stackTraces = false) (hC : me_cx ws_all p c cL_law 10 s args m RL D tb X z0) (hN : ∀ U, X U → me_nest U) (hXs : ∀ U, X U → me_xs z0 U) (hCE : ∀ U, X U → me_ce U) (hX : va_X b L xs s s.heap) (hbl : b < s.heap.size) (hbA : ¬ me_A z0 b) (hL : L ≤ 3072) (hgood : lw_good REL) (hkeep : lw_keep REL) : lw_ck p l e room_1 s m args below meth c Q D z0 b L z0 (z0 + 919) (z0 + 929) (z0 + 930) (lw_LR REL tb z0) 819 := by
  intro t n M ls H locs h6 hR hM hl kk
  obtain ⟨g, G, F, sf, inp, out, Fm, w, av, od, sv, sl, nz, ip, ot, ha, hr⟩ := hR
  obtain ⟨S, B, L9, P, T, hag, hO, hT⟩ := hgood _ _ _ _ _ _ _ _ _ _ _ _ _ _ _ _ hr
  have hW := ag_wf hag hO.1
  have hT2 : g 2 = nI T := (ag_n hag (by decide)).trans hO.2.2
  have hS3 : g 3 = nI S := hW.1
  have hB4 : g 4 = nI B := hW.2.2.1
  have hL6 : g 6 = nI L9 := hW.2.2.2.2.1
  have hw2 : w 2 = nI T := hO.2.2
  have hw3 : w 3 = nI S := hO.1.1
  have hw4 : w 4 = nI B := hO.1.2.2.1
  have hw6 : w 6 = nI L9 := hO.1.2.2.2.2.1
  have hS8 := hO.1.2.1
  have hB12 := hO.1.2.2.2.1
  have hL30 := hO.1.2.2.2.2.2.1
  rcases lw_ix (xs (6 * t + 1)) S (by omega) with hb | ⟨i0, u0, e0⟩
  · have ct := (c_X7_quietHours_x1 l D tb X z0 n z0 g G F sf inp out M S B L9 P (xs (6 * t + 1)) hfl hXs (by rw [hS3]; exact hb))
    rw [ha.1] at ct
    exact lw_b17_x1 l (mc := 1) (ms := 6) (mc2 := 0) (ms2 := 0) hCE hC hX hbl hbA hL h6 hM hl rfl ha ha rfl rfl ⟨by decide, by decide⟩ ⟨by decide, by decide⟩ rfl rfl ⟨by decide, by decide⟩ (upd_s _ _ _) (hkeep _ _ _ _ _ _ _ _ _ _ _ _ _ _ _ _ 1 hr) ct (fun n1 M0 => (c_X8_quietHours_x1 l D tb X z0 n1 (z0 + 919) Fm w av od sv sl nz ip ot M0 S B L9 P T (xs (6 * t + 1)) hO (by omega) (by rw [hw3]; exact hb))) kk
  have ct := (c_X7_quietHours l D tb X z0 n z0 g G F sf inp out M S B L9 P i0 hW (by omega))
  rw [ha.1] at ct
  have hq := hag.2.1 i0 3 u0 (by decide)
  rw [hq] at ct
  exact lw_a17 l (mc := 0) (ms := 0) (mc2 := 0) (ms2 := 0) hC hX hbl hbA hL h6 hM hl e0 ha ha rfl rfl ⟨by decide, by decide⟩ ⟨by decide, by decide⟩ rfl rfl ⟨by decide, by decide⟩ (upd_s _ _ _) (hkeep _ _ _ _ _ _ _ _ _ _ _ _ _ _ _ _ 0 hr) ct (fun n1 M0 => (c_X8_quietHours l D tb X z0 n1 (z0 + 919) Fm w av od sv sl nz ip ot M0 S B L9 P T i0 hO (by omega) (by omega))) kk
set_option maxHeartbeats 1000000 in
theorem lw_n19 (l : Launch) (hfl : l.stackTraces = false) (hC : me_cx ws_all p c cL_law 10 s args m RL D tb X z0) (hN : ∀ U, X U → me_nest U) (hXs : ∀ U, X U → me_xs z0 U) (hCE : ∀ U, X U → me_ce U) (hX : va_X b L xs s s.heap) (hbl : b < s.heap.size) (hbA : ¬ me_A z0 b) (hL : L ≤ 3072) (hgood : lw_good REL) (hkeep : lw_keep REL) : lw_ck p l e room_1 s m args below meth c Q D z0 b L z0 (z0 + 919) (z0 + 929) (z0 + 930) (lw_LR REL tb z0) 888 := by
  intro t n M ls H locs h6 hR hM hl kk
  obtain ⟨g, G, F, sf, inp, out, Fm, w, av, od, sv, sl, nz, ip, ot, ha, hr⟩ := hR
  obtain ⟨S, B, L9, P, T, hag, hO, hT⟩ := hgood _ _ _ _ _ _ _ _ _ _ _ _ _ _ _ _ hr
  have hW := ag_wf hag hO.1
  have hT2 : g 2 = nI T := (ag_n hag (by decide)).trans hO.2.2
  have hS3 : g 3 = nI S := hW.1
  have hB4 : g 4 = nI B := hW.2.2.1
  have hL6 : g 6 = nI L9 := hW.2.2.2.2.1
  have hw2 : w 2 = nI T := hO.2.2
  have hw3 : w 3 = nI S := hO.1.1
  have hw4 : w 4 = nI B := hO.1.2.2.1
  have hw6 : w 6 = nI L9 := hO.1.2.2.2.2.1
  have hS8 := hO.1.2.1
  have hB12 := hO.1.2.2.2.1
  have hL30 := hO.1.2.2.2.2.2.1
  rcases lw_ix (xs (6 * t + 1)) B (by omega) with hb | ⟨i0, u0, e0⟩
  · have ct := (c_X7_streetOf_x1 l D tb X z0 n z0 g G F sf inp out M S B L9 P (xs (6 * t + 1)) hfl hXs (by rw [hB4]; exact hb))
    rw [ha.1] at ct
    exact lw_b19_x1 l (mc := 1) (ms := 6) (mc2 := 0) (ms2 := 0) hCE hC hX hbl hbA hL h6 hM hl rfl ha ha rfl rfl ⟨by decide, by decide⟩ ⟨by decide, by decide⟩ rfl rfl ⟨by decide, by decide⟩ (upd_s _ _ _) (hkeep _ _ _ _ _ _ _ _ _ _ _ _ _ _ _ _ 1 hr) ct (fun n1 M0 => (c_X8_streetOf_x1 l D tb X z0 n1 (z0 + 919) Fm w av od sv sl nz ip ot M0 S B L9 P T (xs (6 * t + 1)) hO (by omega) (by rw [hw4]; exact hb))) kk
  have ct := (c_X7_streetOf l D tb X z0 n z0 g G F sf inp out M S B L9 P i0 hW (by omega))
  rw [ha.1] at ct
  have hq := (show g (89 + 11 * i0) = w (89 + 11 * i0) from hag.2.2.1 i0 0 u0 (by decide))
  rw [hq] at ct
  exact lw_a19 l (mc := 0) (ms := 0) (mc2 := 0) (ms2 := 0) hC hX hbl hbA hL h6 hM hl e0 ha ha rfl rfl ⟨by decide, by decide⟩ ⟨by decide, by decide⟩ rfl rfl ⟨by decide, by decide⟩ (upd_s _ _ _) (hkeep _ _ _ _ _ _ _ _ _ _ _ _ _ _ _ _ 0 hr) ct (fun n1 M0 => (c_X8_streetOf l D tb X z0 n1 (z0 + 919) Fm w av od sv sl nz ip ot M0 S B L9 P T i0 hO (by omega) (by omega))) kk
set_option maxHeartbeats 1000000 in
theorem lw_n20 (l : Launch) (hfl : l.stackTraces = false) (hC : me_cx ws_all p c cL_law 10 s args m RL D tb X z0) (hN : ∀ U, X U → me_nest U) (hXs : ∀ U, X U → me_xs z0 U) (hCE : ∀ U, X U → me_ce U) (hX : va_X b L xs s s.heap) (hbl : b < s.heap.size) (hbA : ¬ me_A z0 b) (hL : L ≤ 3072) (hgood : lw_good REL) (hkeep : lw_keep REL) : lw_ck p l e room_1 s m args below meth c Q D z0 b L z0 (z0 + 919) (z0 + 929) (z0 + 930) (lw_LR REL tb z0) 944 := by
  intro t n M ls H locs h6 hR hM hl kk
  obtain ⟨g, G, F, sf, inp, out, Fm, w, av, od, sv, sl, nz, ip, ot, ha, hr⟩ := hR
  obtain ⟨S, B, L9, P, T, hag, hO, hT⟩ := hgood _ _ _ _ _ _ _ _ _ _ _ _ _ _ _ _ hr
  have hW := ag_wf hag hO.1
  have hT2 : g 2 = nI T := (ag_n hag (by decide)).trans hO.2.2
  have hS3 : g 3 = nI S := hW.1
  have hB4 : g 4 = nI B := hW.2.2.1
  have hL6 : g 6 = nI L9 := hW.2.2.2.2.1
  have hw2 : w 2 = nI T := hO.2.2
  have hw3 : w 3 = nI S := hO.1.1
  have hw4 : w 4 = nI B := hO.1.2.2.1
  have hw6 : w 6 = nI L9 := hO.1.2.2.2.2.1
  have hS8 := hO.1.2.1
  have hB12 := hO.1.2.2.2.1
  have hL30 := hO.1.2.2.2.2.2.1
  rcases lw_ix (xs (6 * t + 1)) B (by omega) with hb | ⟨i0, u0, e0⟩
  · have ct := (c_X7_illnessOf_x1 l D tb X z0 n z0 g G F sf inp out M S B L9 P (xs (6 * t + 1)) hfl hXs (by rw [hB4]; exact hb))
    rw [ha.1] at ct
    exact lw_b20_x1 l (mc := 1) (ms := 6) (mc2 := 0) (ms2 := 0) hCE hC hX hbl hbA hL h6 hM hl rfl ha ha rfl rfl ⟨by decide, by decide⟩ ⟨by decide, by decide⟩ rfl rfl ⟨by decide, by decide⟩ (upd_s _ _ _) (hkeep _ _ _ _ _ _ _ _ _ _ _ _ _ _ _ _ 1 hr) ct (fun n1 M0 => (c_X8_illnessOf_x1 l D tb X z0 n1 (z0 + 919) Fm w av od sv sl nz ip ot M0 S B L9 P T (xs (6 * t + 1)) hO (by omega) (by rw [hw4]; exact hb))) kk
  have ct := (c_X7_illnessOf l D tb X z0 n z0 g G F sf inp out M S B L9 P i0 hW (by omega))
  rw [ha.1] at ct
  have hq := hag.2.2.1 i0 1 u0 (by decide)
  rw [hq] at ct
  exact lw_a20 l (mc := 0) (ms := 0) (mc2 := 0) (ms2 := 0) hC hX hbl hbA hL h6 hM hl e0 ha ha rfl rfl ⟨by decide, by decide⟩ ⟨by decide, by decide⟩ rfl rfl ⟨by decide, by decide⟩ (upd_s _ _ _) (hkeep _ _ _ _ _ _ _ _ _ _ _ _ _ _ _ _ 0 hr) ct (fun n1 M0 => (c_X8_illnessOf l D tb X z0 n1 (z0 + 919) Fm w av od sv sl nz ip ot M0 S B L9 P T i0 hO (by omega) (by omega))) kk
set_option maxHeartbeats 1000000 in
theorem lw_n21 (l : Launch) (hfl : l.stackTraces = false) (hC : me_cx ws_all p c cL_law 10 s args m RL D tb X z0) (hN : ∀ U, X U → me_nest U) (hXs : ∀ U, X U → me_xs z0 U) (hCE : ∀ U, X U → me_ce U) (hX : va_X b L xs s s.heap) (hbl : b < s.heap.size) (hbA : ¬ me_A z0 b) (hL : L ≤ 3072) (hgood : lw_good REL) (hkeep : lw_keep REL) : lw_ck p l e room_1 s m args below meth c Q D z0 b L z0 (z0 + 919) (z0 + 929) (z0 + 930) (lw_LR REL tb z0) 1000 := by
  intro t n M ls H locs h6 hR hM hl kk
  obtain ⟨g, G, F, sf, inp, out, Fm, w, av, od, sv, sl, nz, ip, ot, ha, hr⟩ := hR
  obtain ⟨S, B, L9, P, T, hag, hO, hT⟩ := hgood _ _ _ _ _ _ _ _ _ _ _ _ _ _ _ _ hr
  have hW := ag_wf hag hO.1
  have hT2 : g 2 = nI T := (ag_n hag (by decide)).trans hO.2.2
  have hS3 : g 3 = nI S := hW.1
  have hB4 : g 4 = nI B := hW.2.2.1
  have hL6 : g 6 = nI L9 := hW.2.2.2.2.1
  have hw2 : w 2 = nI T := hO.2.2
  have hw3 : w 3 = nI S := hO.1.1
  have hw4 : w 4 = nI B := hO.1.2.2.1
  have hw6 : w 6 = nI L9 := hO.1.2.2.2.2.1
  have hS8 := hO.1.2.1
  have hB12 := hO.1.2.2.2.1
  have hL30 := hO.1.2.2.2.2.2.1
  rcases lw_ix (xs (6 * t + 1)) B (by omega) with hb | ⟨i0, u0, e0⟩
  · have ct := (c_X7_creditOf_x1 l D tb X z0 n z0 g G F sf inp out M S B L9 P (xs (6 * t + 1)) hfl hXs (by rw [hB4]; exact hb))
    rw [ha.1] at ct
    exact lw_b21_x1 l (mc := 1) (ms := 6) (mc2 := 0) (ms2 := 0) hCE hC hX hbl hbA hL h6 hM hl rfl ha ha rfl rfl ⟨by decide, by decide⟩ ⟨by decide, by decide⟩ rfl rfl ⟨by decide, by decide⟩ (upd_s _ _ _) (hkeep _ _ _ _ _ _ _ _ _ _ _ _ _ _ _ _ 1 hr) ct (fun n1 M0 => (c_X8_creditOf_x1 l D tb X z0 n1 (z0 + 919) Fm w av od sv sl nz ip ot M0 S B L9 P T (xs (6 * t + 1)) hO (by omega) (by rw [hw4]; exact hb))) kk
  have ct := (c_X7_creditOf l D tb X z0 n z0 g G F sf inp out M S B L9 P i0 hW (by omega))
  rw [ha.1] at ct
  have hq := hag.2.2.1 i0 2 u0 (by decide)
  rw [hq] at ct
  exact lw_a21 l (mc := 0) (ms := 0) (mc2 := 0) (ms2 := 0) hC hX hbl hbA hL h6 hM hl e0 ha ha rfl rfl ⟨by decide, by decide⟩ ⟨by decide, by decide⟩ rfl rfl ⟨by decide, by decide⟩ (upd_s _ _ _) (hkeep _ _ _ _ _ _ _ _ _ _ _ _ _ _ _ _ 0 hr) ct (fun n1 M0 => (c_X8_creditOf l D tb X z0 n1 (z0 + 919) Fm w av od sv sl nz ip ot M0 S B L9 P T i0 hO (by omega) (by omega))) kk
set_option maxHeartbeats 1000000 in
theorem lw_n22 (l : Launch) (hfl : l.stackTraces = false) (hC : me_cx ws_all p c cL_law 10 s args m RL D tb X z0) (hN : ∀ U, X U → me_nest U) (hXs : ∀ U, X U → me_xs z0 U) (hCE : ∀ U, X U → me_ce U) (hX : va_X b L xs s s.heap) (hbl : b < s.heap.size) (hbA : ¬ me_A z0 b) (hL : L ≤ 3072) (hgood : lw_good REL) (hkeep : lw_keep REL) : lw_ck p l e room_1 s m args below meth c Q D z0 b L z0 (z0 + 919) (z0 + 929) (z0 + 930) (lw_LR REL tb z0) 1056 := by
  intro t n M ls H locs h6 hR hM hl kk
  obtain ⟨g, G, F, sf, inp, out, Fm, w, av, od, sv, sl, nz, ip, ot, ha, hr⟩ := hR
  obtain ⟨S, B, L9, P, T, hag, hO, hT⟩ := hgood _ _ _ _ _ _ _ _ _ _ _ _ _ _ _ _ hr
  have hW := ag_wf hag hO.1
  have hT2 : g 2 = nI T := (ag_n hag (by decide)).trans hO.2.2
  have hS3 : g 3 = nI S := hW.1
  have hB4 : g 4 = nI B := hW.2.2.1
  have hL6 : g 6 = nI L9 := hW.2.2.2.2.1
  have hw2 : w 2 = nI T := hO.2.2
  have hw3 : w 3 = nI S := hO.1.1
  have hw4 : w 4 = nI B := hO.1.2.2.1
  have hw6 : w 6 = nI L9 := hO.1.2.2.2.2.1
  have hS8 := hO.1.2.1
  have hB12 := hO.1.2.2.2.1
  have hL30 := hO.1.2.2.2.2.2.1
  rcases lw_ix (xs (6 * t + 1)) B (by omega) with hb | ⟨i0, u0, e0⟩
  · have ct := (c_X7_overdueLoans_x1 l D tb X z0 n z0 g G F sf inp out M S B L9 P (xs (6 * t + 1)) hfl hXs (by rw [hB4]; exact hb))
    rw [ha.1] at ct
    exact lw_b22_x1 l (mc := 1) (ms := 6) (mc2 := 0) (ms2 := 0) hCE hC hX hbl hbA hL h6 hM hl rfl ha ha rfl rfl ⟨by decide, by decide⟩ ⟨by decide, by decide⟩ rfl rfl ⟨by decide, by decide⟩ (upd_s _ _ _) (hkeep _ _ _ _ _ _ _ _ _ _ _ _ _ _ _ _ 1 hr) ct (fun n1 M0 => (c_X8_overdueLoans_x1 l D tb X z0 n1 (z0 + 919) Fm w av od sv sl nz ip ot M0 S B L9 P T (xs (6 * t + 1)) hO (by omega) (by rw [hw4]; exact hb))) kk
  have ct := (c_X7_overdueLoans l D tb X z0 n z0 g G F sf inp out M S B L9 P i0 hW (by omega))
  rw [ha.1] at ct
  have hq := congrArg nI (ag_oN hag i0)
  rw [hq] at ct
  exact lw_a22 l (mc := 0) (ms := 0) (mc2 := 0) (ms2 := 0) hC hX hbl hbA hL h6 hM hl e0 ha ha rfl rfl ⟨by decide, by decide⟩ ⟨by decide, by decide⟩ rfl rfl ⟨by decide, by decide⟩ (upd_s _ _ _) (hkeep _ _ _ _ _ _ _ _ _ _ _ _ _ _ _ _ 0 hr) ct (fun n1 M0 => (c_X8_overdueLoans l D tb X z0 n1 (z0 + 919) Fm w av od sv sl nz ip ot M0 S B L9 P T i0 hO (by omega) (by omega))) kk
set_option maxHeartbeats 1000000 in
theorem lw_n24 (l : Launch) (hfl : l.stackTraces = false) (hC : me_cx ws_all p c cL_law 10 s args m RL D tb X z0) (hN : ∀ U, X U → me_nest U) (hXs : ∀ U, X U → me_xs z0 U) (hCE : ∀ U, X U → me_ce U) (hX : va_X b L xs s s.heap) (hbl : b < s.heap.size) (hbA : ¬ me_A z0 b) (hL : L ≤ 3072) (hgood : lw_good REL) (hkeep : lw_keep REL) : lw_ck p l e room_1 s m args below meth c Q D z0 b L z0 (z0 + 919) (z0 + 929) (z0 + 930) (lw_LR REL tb z0) 1125 := by
  intro t n M ls H locs h6 hR hM hl kk
  obtain ⟨g, G, F, sf, inp, out, Fm, w, av, od, sv, sl, nz, ip, ot, ha, hr⟩ := hR
  obtain ⟨S, B, L9, P, T, hag, hO, hT⟩ := hgood _ _ _ _ _ _ _ _ _ _ _ _ _ _ _ _ hr
  have hW := ag_wf hag hO.1
  have hT2 : g 2 = nI T := (ag_n hag (by decide)).trans hO.2.2
  have hS3 : g 3 = nI S := hW.1
  have hB4 : g 4 = nI B := hW.2.2.1
  have hL6 : g 6 = nI L9 := hW.2.2.2.2.1
  have hw2 : w 2 = nI T := hO.2.2
  have hw3 : w 3 = nI S := hO.1.1
  have hw4 : w 4 = nI B := hO.1.2.2.1
  have hw6 : w 6 = nI L9 := hO.1.2.2.2.2.1
  have hS8 := hO.1.2.1
  have hB12 := hO.1.2.2.2.1
  have hL30 := hO.1.2.2.2.2.2.1
  rcases lw_ix (xs (6 * t + 1)) L9 (by omega) with hb | ⟨i0, u0, e0⟩
  · have ct := (c_X7_borrowerOf_x1 l D tb X z0 n z0 g G F sf inp out M S B L9 P (xs (6 * t + 1)) hfl hXs (by rw [hL6]; exact hb))
    rw [ha.1] at ct
    exact lw_b24_x1 l (mc := 1) (ms := 6) (mc2 := 0) (ms2 := 0) hCE hC hX hbl hbA hL h6 hM hl rfl ha ha rfl rfl ⟨by decide, by decide⟩ ⟨by decide, by decide⟩ rfl rfl ⟨by decide, by decide⟩ (upd_s _ _ _) (hkeep _ _ _ _ _ _ _ _ _ _ _ _ _ _ _ _ 1 hr) ct (fun n1 M0 => (c_X8_borrowerOf_x1 l D tb X z0 n1 (z0 + 919) Fm w av od sv sl nz ip ot M0 S B L9 P T (xs (6 * t + 1)) hO (by omega) (by rw [hw6]; exact hb))) kk
  have ct := (c_X7_borrowerOf l D tb X z0 n z0 g G F sf inp out M S B L9 P i0 hW (by omega))
  rw [ha.1] at ct
  have hq := (show g (261 + 5 * i0) = w (261 + 5 * i0) from hag.2.2.2.2 i0 0 u0 (by decide))
  rw [hq] at ct
  exact lw_a24 l (mc := 0) (ms := 0) (mc2 := 0) (ms2 := 0) hC hX hbl hbA hL h6 hM hl e0 ha ha rfl rfl ⟨by decide, by decide⟩ ⟨by decide, by decide⟩ rfl rfl ⟨by decide, by decide⟩ (upd_s _ _ _) (hkeep _ _ _ _ _ _ _ _ _ _ _ _ _ _ _ _ 0 hr) ct (fun n1 M0 => (c_X8_borrowerOf l D tb X z0 n1 (z0 + 919) Fm w av od sv sl nz ip ot M0 S B L9 P T i0 hO (by omega) (by omega))) kk
set_option maxHeartbeats 1000000 in
theorem lw_n25 (l : Launch) (hfl : l.stackTraces = false) (hC : me_cx ws_all p c cL_law 10 s args m RL D tb X z0) (hN : ∀ U, X U → me_nest U) (hXs : ∀ U, X U → me_xs z0 U) (hCE : ∀ U, X U → me_ce U) (hX : va_X b L xs s s.heap) (hbl : b < s.heap.size) (hbA : ¬ me_A z0 b) (hL : L ≤ 3072) (hgood : lw_good REL) (hkeep : lw_keep REL) : lw_ck p l e room_1 s m args below meth c Q D z0 b L z0 (z0 + 919) (z0 + 929) (z0 + 930) (lw_LR REL tb z0) 1181 := by
  intro t n M ls H locs h6 hR hM hl kk
  obtain ⟨g, G, F, sf, inp, out, Fm, w, av, od, sv, sl, nz, ip, ot, ha, hr⟩ := hR
  obtain ⟨S, B, L9, P, T, hag, hO, hT⟩ := hgood _ _ _ _ _ _ _ _ _ _ _ _ _ _ _ _ hr
  have hW := ag_wf hag hO.1
  have hT2 : g 2 = nI T := (ag_n hag (by decide)).trans hO.2.2
  have hS3 : g 3 = nI S := hW.1
  have hB4 : g 4 = nI B := hW.2.2.1
  have hL6 : g 6 = nI L9 := hW.2.2.2.2.1
  have hw2 : w 2 = nI T := hO.2.2
  have hw3 : w 3 = nI S := hO.1.1
  have hw4 : w 4 = nI B := hO.1.2.2.1
  have hw6 : w 6 = nI L9 := hO.1.2.2.2.2.1
  have hS8 := hO.1.2.1
  have hB12 := hO.1.2.2.2.1
  have hL30 := hO.1.2.2.2.2.2.1
  rcases lw_ix (xs (6 * t + 1)) L9 (by omega) with hb | ⟨i0, u0, e0⟩
  · have ct := (c_X7_startOf_x1 l D tb X z0 n z0 g G F sf inp out M S B L9 P (xs (6 * t + 1)) hfl hXs (by rw [hL6]; exact hb))
    rw [ha.1] at ct
    exact lw_b25_x1 l (mc := 1) (ms := 6) (mc2 := 0) (ms2 := 0) hCE hC hX hbl hbA hL h6 hM hl rfl ha ha rfl rfl ⟨by decide, by decide⟩ ⟨by decide, by decide⟩ rfl rfl ⟨by decide, by decide⟩ (upd_s _ _ _) (hkeep _ _ _ _ _ _ _ _ _ _ _ _ _ _ _ _ 1 hr) ct (fun n1 M0 => (c_X8_startOf_x1 l D tb X z0 n1 (z0 + 919) Fm w av od sv sl nz ip ot M0 S B L9 P T (xs (6 * t + 1)) hO (by omega) (by rw [hw6]; exact hb))) kk
  have ct := (c_X7_startOf l D tb X z0 n z0 g G F sf inp out M S B L9 P i0 hW (by omega))
  rw [ha.1] at ct
  have hq := hag.2.2.2.2 i0 1 u0 (by decide)
  rw [hq] at ct
  exact lw_a25 l (mc := 0) (ms := 0) (mc2 := 0) (ms2 := 0) hC hX hbl hbA hL h6 hM hl e0 ha ha rfl rfl ⟨by decide, by decide⟩ ⟨by decide, by decide⟩ rfl rfl ⟨by decide, by decide⟩ (upd_s _ _ _) (hkeep _ _ _ _ _ _ _ _ _ _ _ _ _ _ _ _ 0 hr) ct (fun n1 M0 => (c_X8_startOf l D tb X z0 n1 (z0 + 919) Fm w av od sv sl nz ip ot M0 S B L9 P T i0 hO (by omega) (by omega))) kk
end LN1
