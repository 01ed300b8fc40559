section LN2
variable {p : Program} {e : Env} {s : State} {m : MethodId} {args : Array Value} {below : List Frame} {meth : Method} {c : Code} {Q : State → Prop} {REL : lw_RT}
variable {D : va_G} {tb : Nat → ClassId} {X : State → Prop} {z0 b L : Nat} {xs : Nat → Int32}
set_option maxHeartbeats 1000000 in
theorem lw_n26 (l : Launch) (hfl : l.stackTraces = false) (hC : me_cx ws_all p c cL_law 10 s args m RL D tb X z0) (hN : ∀ U, X U → me_nest U) (hXs : ∀ U, X U → me_xs z0 U) (hCE : ∀ U, X U → me_ce U) (hX : va_X b L xs s s.heap) (hbl : b < s.heap.size) (hbA : ¬ me_A z0 b) (hL : L ≤ 3072) (hgood : lw_good REL) (hkeep : lw_keep REL) : lw_ck p l e room_1 s m args below meth c Q D z0 b L z0 (z0 + 919) (z0 + 929) (z0 + 930) (lw_LR REL tb z0) 1237 := by
  intro t n M ls H locs h6 hR hM hl kk
  obtain ⟨g, G, F, sf, inp, out, Fm, w, av, od, sv, sl, nz, ip, ot, ha, hr⟩ := hR
  obtain ⟨S, B, L9, P, T, hag, hO, hT⟩ := hgood _ _ _ _ _ _ _ _ _ _ _ _ _ _ _ _ hr
  have hW := ag_wf hag hO.1
  have hT2 : g 2 = nI T := (ag_n hag (by decide)).trans hO.2.2
  have hS3 : g 3 = nI S := hW.1
  have hB4 : g 4 = nI B := hW.2.2.1
  have hL6 : g 6 = nI L9 := hW.2.2.2.2.1
  have hw2 : w 2 = nI T := hO.2.2
  have hw3 : w 3 = nI S := hO.1.1
  have hw4 : w 4 = nI B := hO.1.2.2.1
  have hw6 : w 6 = nI L9 := hO.1.2.2.2.2.1
  have hS8 := hO.1.2.1
  have hB12 := hO.1.2.2.2.1
  have hL30 := hO.1.2.2.2.2.2.1
  rcases lw_ix (xs (6 * t + 1)) L9 (by omega) with hb | ⟨i0, u0, e0⟩
  · have ct := (c_X7_lengthOf_x1 l D tb X z0 n z0 g G F sf inp out M S B L9 P (xs (6 * t + 1)) hfl hXs (by rw [hL6]; exact hb))
    rw [ha.1] at ct
    exact lw_b26_x1 l (mc := 1) (ms := 6) (mc2 := 0) (ms2 := 0) hCE hC hX hbl hbA hL h6 hM hl rfl ha ha rfl rfl ⟨by decide, by decide⟩ ⟨by decide, by decide⟩ rfl rfl ⟨by decide, by decide⟩ (upd_s _ _ _) (hkeep _ _ _ _ _ _ _ _ _ _ _ _ _ _ _ _ 1 hr) ct (fun n1 M0 => (c_X8_lengthOf_x1 l D tb X z0 n1 (z0 + 919) Fm w av od sv sl nz ip ot M0 S B L9 P T (xs (6 * t + 1)) hO (by omega) (by rw [hw6]; exact hb))) kk
  have ct := (c_X7_lengthOf l D tb X z0 n z0 g G F sf inp out M S B L9 P i0 hW (by omega))
  rw [ha.1] at ct
  have hq := hag.2.2.2.2 i0 2 u0 (by decide)
  rw [hq] at ct
  exact lw_a26 l (mc := 0) (ms := 0) (mc2 := 0) (ms2 := 0) hC hX hbl hbA hL h6 hM hl e0 ha ha rfl rfl ⟨by decide, by decide⟩ ⟨by decide, by decide⟩ rfl rfl ⟨by decide, by decide⟩ (upd_s _ _ _) (hkeep _ _ _ _ _ _ _ _ _ _ _ _ _ _ _ _ 0 hr) ct (fun n1 M0 => (c_X8_lengthOf l D tb X z0 n1 (z0 + 919) Fm w av od sv sl nz ip ot M0 S B L9 P T i0 hO (by omega) (by omega))) kk
set_option maxHeartbeats 1000000 in
theorem lw_n27 (l : Launch) (hfl : l.stackTraces = false) (hC : me_cx ws_all p c cL_law 10 s args m RL D tb X z0) (hN : ∀ U, X U → me_nest U) (hXs : ∀ U, X U → me_xs z0 U) (hCE : ∀ U, X U → me_ce U) (hX : va_X b L xs s s.heap) (hbl : b < s.heap.size) (hbA : ¬ me_A z0 b) (hL : L ≤ 3072) (hgood : lw_good REL) (hkeep : lw_keep REL) : lw_ck p l e room_1 s m args below meth c Q D z0 b L z0 (z0 + 919) (z0 + 929) (z0 + 930) (lw_LR REL tb z0) 1293 := by
  intro t n M ls H locs h6 hR hM hl kk
  obtain ⟨g, G, F, sf, inp, out, Fm, w, av, od, sv, sl, nz, ip, ot, ha, hr⟩ := hR
  obtain ⟨S, B, L9, P, T, hag, hO, hT⟩ := hgood _ _ _ _ _ _ _ _ _ _ _ _ _ _ _ _ hr
  have hW := ag_wf hag hO.1
  have hT2 : g 2 = nI T := (ag_n hag (by decide)).trans hO.2.2
  have hS3 : g 3 = nI S := hW.1
  have hB4 : g 4 = nI B := hW.2.2.1
  have hL6 : g 6 = nI L9 := hW.2.2.2.2.1
  have hw2 : w 2 = nI T := hO.2.2
  have hw3 : w 3 = nI S := hO.1.1
  have hw4 : w 4 = nI B := hO.1.2.2.1
  have hw6 : w 6 = nI L9 := hO.1.2.2.2.2.1
  have hS8 := hO.1.2.1
  have hB12 := hO.1.2.2.2.1
  have hL30 := hO.1.2.2.2.2.2.1
  rcases lw_ix (xs (6 * t + 1)) L9 (by omega) with hb | ⟨i0, u0, e0⟩
  · have ct := (c_X7_priceOf_x1 l D tb X z0 n z0 g G F sf inp out M S B L9 P (xs (6 * t + 1)) hfl hXs (by rw [hL6]; exact hb))
    rw [ha.1] at ct
    exact lw_b27_x1 l (mc := 1) (ms := 6) (mc2 := 0) (ms2 := 0) hCE hC hX hbl hbA hL h6 hM hl rfl ha ha rfl rfl ⟨by decide, by decide⟩ ⟨by decide, by decide⟩ rfl rfl ⟨by decide, by decide⟩ (upd_s _ _ _) (hkeep _ _ _ _ _ _ _ _ _ _ _ _ _ _ _ _ 1 hr) ct (fun n1 M0 => (c_X8_priceOf_x1 l D tb X z0 n1 (z0 + 919) Fm w av od sv sl nz ip ot M0 S B L9 P T (xs (6 * t + 1)) hO (by omega) (by rw [hw6]; exact hb))) kk
  have ct := (c_X7_priceOf l D tb X z0 n z0 g G F sf inp out M S B L9 P i0 hW (by omega))
  rw [ha.1] at ct
  have hq := hag.2.2.2.2 i0 3 u0 (by decide)
  rw [hq] at ct
  exact lw_a27 l (mc := 0) (ms := 0) (mc2 := 0) (ms2 := 0) hC hX hbl hbA hL h6 hM hl e0 ha ha rfl rfl ⟨by decide, by decide⟩ ⟨by decide, by decide⟩ rfl rfl ⟨by decide, by decide⟩ (upd_s _ _ _) (hkeep _ _ _ _ _ _ _ _ _ _ _ _ _ _ _ _ 0 hr) ct (fun n1 M0 => (c_X8_priceOf l D tb X z0 n1 (z0 + 919) Fm w av od sv sl nz ip ot M0 S B L9 P T i0 hO (by omega) (by omega))) kk
set_option maxHeartbeats 1000000 in
theorem lw_n28 (l : Launch) (hfl : l.stackTraces = false) (hC : me_cx ws_all p c cL_law 10 s args m RL D tb X z0) (hN : ∀ U, X U → me_nest U) (hXs : ∀ U, X U → me_xs z0 U) (hCE : ∀ U, X U → me_ce U) (hX : va_X b L xs s s.heap) (hbl : b < s.heap.size) (hbA : ¬ me_A z0 b) (hL : L ≤ 3072) (hgood : lw_good REL) (hkeep : lw_keep REL) : lw_ck p l e room_1 s m args below meth c Q D z0 b L z0 (z0 + 919) (z0 + 929) (z0 + 930) (lw_LR REL tb z0) 1349 := by
  intro t n M ls H locs h6 hR hM hl kk
  obtain ⟨g, G, F, sf, inp, out, Fm, w, av, od, sv, sl, nz, ip, ot, ha, hr⟩ := hR
  obtain ⟨S, B, L9, P, T, hag, hO, hT⟩ := hgood _ _ _ _ _ _ _ _ _ _ _ _ _ _ _ _ hr
  have hW := ag_wf hag hO.1
  have hT2 : g 2 = nI T := (ag_n hag (by decide)).trans hO.2.2
  have hS3 : g 3 = nI S := hW.1
  have hB4 : g 4 = nI B := hW.2.2.1
  have hL6 : g 6 = nI L9 := hW.2.2.2.2.1
  have hw2 : w 2 = nI T := hO.2.2
  have hw3 : w 3 = nI S := hO.1.1
  have hw4 : w 4 = nI B := hO.1.2.2.1
  have hw6 : w 6 = nI L9 := hO.1.2.2.2.2.1
  have hS8 := hO.1.2.1
  have hB12 := hO.1.2.2.2.1
  have hL30 := hO.1.2.2.2.2.2.1
  rcases lw_ix (xs (6 * t + 1)) L9 (by omega) with hb | ⟨i0, u0, e0⟩
  · have ct := (c_X7_statusOf_x1 l D tb X z0 n z0 g G F sf inp out M S B L9 P (xs (6 * t + 1)) hfl hXs (by rw [hL6]; exact hb))
    rw [ha.1] at ct
    exact lw_b28_x1 l (mc := 1) (ms := 6) (mc2 := 0) (ms2 := 0) hCE hC hX hbl hbA hL h6 hM hl rfl ha ha rfl rfl ⟨by decide, by decide⟩ ⟨by decide, by decide⟩ rfl rfl ⟨by decide, by decide⟩ (upd_s _ _ _) (hkeep _ _ _ _ _ _ _ _ _ _ _ _ _ _ _ _ 1 hr) ct (fun n1 M0 => (c_X8_statusOf_x1 l D tb X z0 n1 (z0 + 919) Fm w av od sv sl nz ip ot M0 S B L9 P T (xs (6 * t + 1)) hO (by omega) (by rw [hw6]; exact hb))) kk
  have ct := (c_X7_statusOf l D tb X z0 n z0 g G F sf inp out M S B L9 P i0 hW (by omega))
  rw [ha.1] at ct
  have hq := hag.2.2.2.2 i0 4 u0 (by decide)
  rw [hq] at ct
  exact lw_a28 l (mc := 0) (ms := 0) (mc2 := 0) (ms2 := 0) hC hX hbl hbA hL h6 hM hl e0 ha ha rfl rfl ⟨by decide, by decide⟩ ⟨by decide, by decide⟩ rfl rfl ⟨by decide, by decide⟩ (upd_s _ _ _) (hkeep _ _ _ _ _ _ _ _ _ _ _ _ _ _ _ _ 0 hr) ct (fun n1 M0 => (c_X8_statusOf l D tb X z0 n1 (z0 + 919) Fm w av od sv sl nz ip ot M0 S B L9 P T i0 hO (by omega) (by omega))) kk
set_option maxHeartbeats 1000000 in
theorem lw_n29 (l : Launch) (hfl : l.stackTraces = false) (hC : me_cx ws_all p c cL_law 10 s args m RL D tb X z0) (hN : ∀ U, X U → me_nest U) (hXs : ∀ U, X U → me_xs z0 U) (hCE : ∀ U, X U → me_ce U) (hX : va_X b L xs s s.heap) (hbl : b < s.heap.size) (hbA : ¬ me_A z0 b) (hL : L ≤ 3072) (hgood : lw_good REL) (hkeep : lw_keep REL) : lw_ck p l e room_1 s m args below meth c Q D z0 b L z0 (z0 + 919) (z0 + 929) (z0 + 930) (lw_LR REL tb z0) 1405 := by
  intro t n M ls H locs h6 hR hM hl kk
  obtain ⟨g, G, F, sf, inp, out, Fm, w, av, od, sv, sl, nz, ip, ot, ha, hr⟩ := hR
  obtain ⟨S, B, L9, P, T, hag, hO, hT⟩ := hgood _ _ _ _ _ _ _ _ _ _ _ _ _ _ _ _ hr
  have hW := ag_wf hag hO.1
  have hT2 : g 2 = nI T := (ag_n hag (by decide)).trans hO.2.2
  have hS3 : g 3 = nI S := hW.1
  have hB4 : g 4 = nI B := hW.2.2.1
  have hL6 : g 6 = nI L9 := hW.2.2.2.2.1
  have hw2 : w 2 = nI T := hO.2.2
  have hw3 : w 3 = nI S := hO.1.1
  have hw4 : w 4 = nI B := hO.1.2.2.1
  have hw6 : w 6 = nI L9 := hO.1.2.2.2.2.1
  have hS8 := hO.1.2.1
  have hB12 := hO.1.2.2.2.1
  have hL30 := hO.1.2.2.2.2.2.1
  rcases lw_hr (xs (6 * t + 1)) T (by omega) with hb | ⟨i0, u0, v0, e0⟩
  · have ct := (c_X7_holderOf_x2 l D tb X z0 n z0 g G F sf inp out M S B L9 P (xs (6 * t + 1)) hfl hXs hW (by rw [hT2]; exact hb))
    rw [ha.1] at ct
    exact lw_b29_x1 l (mc := 1) (ms := 6) (mc2 := 0) (ms2 := 0) hCE hC hX hbl hbA hL h6 hM hl rfl ha ha rfl rfl ⟨by decide, by decide⟩ ⟨by decide, by decide⟩ rfl rfl ⟨by decide, by decide⟩ (upd_s _ _ _) (hkeep _ _ _ _ _ _ _ _ _ _ _ _ _ _ _ _ 1 hr) ct (fun n1 M0 => (c_X8_holderOf_x1 l D tb X z0 n1 (z0 + 919) Fm w av od sv sl nz ip ot M0 S B L9 P T (xs (6 * t + 1)) hO (by omega) (by rw [hw2]; exact hb))) kk
  have ct := (c_X7_holderOf l D tb X z0 n z0 g G F sf inp out M S B L9 P T i0 hW hT2 (by omega) (by omega) (by omega))
  rw [ha.1] at ct
  have hq := ag_ho hag (nI i0)
  rw [hq] at ct
  exact lw_a29 l (mc := 0) (ms := 0) (mc2 := 0) (ms2 := 0) hC hX hbl hbA hL h6 hM hl e0 ha ha rfl rfl ⟨by decide, by decide⟩ ⟨by decide, by decide⟩ rfl rfl ⟨by decide, by decide⟩ (upd_s _ _ _) (hkeep _ _ _ _ _ _ _ _ _ _ _ _ _ _ _ _ 0 hr) ct (fun n1 M0 => (c_X8_holderOf l D tb X z0 n1 (z0 + 919) Fm w av od sv sl nz ip ot M0 S B L9 P T i0 hO (by omega) (by omega) (by omega))) kk
set_option maxHeartbeats 1000000 in
theorem lw_n30 (l : Launch) (hfl : l.stackTraces = false) (hC : me_cx ws_all p c cL_law 10 s args m RL D tb X z0) (hN : ∀ U, X U → me_nest U) (hXs : ∀ U, X U → me_xs z0 U) (hCE : ∀ U, X U → me_ce U) (hX : va_X b L xs s s.heap) (hbl : b < s.heap.size) (hbA : ¬ me_A z0 b) (hL : L ≤ 3072) (hgood : lw_good REL) (hkeep : lw_keep REL) : lw_ck p l e room_1 s m args below meth c Q D z0 b L z0 (z0 + 919) (z0 + 929) (z0 + 930) (lw_LR REL tb z0) 1461 := by
  intro t n M ls H locs h6 hR hM hl kk
  obtain ⟨g, G, F, sf, inp, out, Fm, w, av, od, sv, sl, nz, ip, ot, ha, hr⟩ := hR
  obtain ⟨S, B, L9, P, T, hag, hO, hT⟩ := hgood _ _ _ _ _ _ _ _ _ _ _ _ _ _ _ _ hr
  have hW := ag_wf hag hO.1
  have hT2 : g 2 = nI T := (ag_n hag (by decide)).trans hO.2.2
  have hS3 : g 3 = nI S := hW.1
  have hB4 : g 4 = nI B := hW.2.2.1
  have hL6 : g 6 = nI L9 := hW.2.2.2.2.1
  have hw2 : w 2 = nI T := hO.2.2
  have hw3 : w 3 = nI S := hO.1.1
  have hw4 : w 4 = nI B := hO.1.2.2.1
  have hw6 : w 6 = nI L9 := hO.1.2.2.2.2.1
  have hS8 := hO.1.2.1
  have hB12 := hO.1.2.2.2.1
  have hL30 := hO.1.2.2.2.2.2.1
  rcases lw_ix (xs (6 * t + 1)) S (by omega) with hb | ⟨i0, u0, e0⟩
  · have ct := (c_X7_permitFor_x1 l D tb X z0 n z0 g G F sf inp out M S B L9 P (xs (6 * t + 1)) (xs (6 * t + 2)) hfl hXs (by rw [hS3]; exact hb))
    rw [ha.1] at ct
    exact lw_b30_x1 l (mc := 1) (ms := 6) (mc2 := 0) (ms2 := 0) hCE hC hX hbl hbA hL h6 hM hl rfl rfl ha ha rfl rfl ⟨by decide, by decide⟩ ⟨by decide, by decide⟩ rfl rfl ⟨by decide, by decide⟩ (upd_s _ _ _) (hkeep _ _ _ _ _ _ _ _ _ _ _ _ _ _ _ _ 1 hr) ct (fun n1 M0 => (c_X8_permitFor_x1 l D tb X z0 n1 (z0 + 919) Fm w av od sv sl nz ip ot M0 S B L9 P T (xs (6 * t + 1)) (xs (6 * t + 2)) hO (by omega) (by rw [hw3]; exact hb))) kk
  rcases lw_hr (xs (6 * t + 2)) T (by omega) with hb | ⟨i1, u1, v1, e1⟩
  · have ct := (c_X7_permitFor_x2 l D tb X z0 n z0 g G F sf inp out M S B L9 P i0 (xs (6 * t + 2)) hfl hXs hW (by omega) (by rw [hT2]; exact hb))
    rw [ha.1] at ct
    exact lw_b30_x2 l (mc := 1) (ms := 6) (mc2 := 0) (ms2 := 0) hCE hC hX hbl hbA hL h6 hM hl e0 rfl ha ha rfl rfl ⟨by decide, by decide⟩ ⟨by decide, by decide⟩ rfl rfl ⟨by decide, by decide⟩ (upd_s _ _ _) (hkeep _ _ _ _ _ _ _ _ _ _ _ _ _ _ _ _ 2 hr) ct (fun n1 M0 => (c_X8_permitFor_x2 l D tb X z0 n1 (z0 + 919) Fm w av od sv sl nz ip ot M0 S B L9 P T i0 (xs (6 * t + 2)) hO (by omega) (by omega) (by rw [hw2]; exact hb))) kk
  have ct := (c_X7_permitFor l D tb X z0 n z0 g G F sf inp out M S B L9 P T i0 i1 hW hT2 (by omega) (by omega) (by omega) (by omega))
  rw [ha.1] at ct
  have hq := ag_pe hag (nI i0) (nI i1)
  rw [hq] at ct
  exact lw_a30 l (mc := 0) (ms := 0) (mc2 := 0) (ms2 := 0) hC hX hbl hbA hL h6 hM hl e0 e1 ha ha rfl rfl ⟨by decide, by decide⟩ ⟨by decide, by decide⟩ rfl rfl ⟨by decide, by decide⟩ (upd_s _ _ _) (hkeep _ _ _ _ _ _ _ _ _ _ _ _ _ _ _ _ 0 hr) ct (fun n1 M0 => (c_X8_permitFor l D tb X z0 n1 (z0 + 919) Fm w av od sv sl nz ip ot M0 S B L9 P T i0 i1 hO (by omega) (by omega) (by omega) (by omega))) kk
set_option maxHeartbeats 1000000 in
theorem lw_n32 (l : Launch) (hfl : l.stackTraces = false) (hC : me_cx ws_all p c cL_law 10 s args m RL D tb X z0) (hN : ∀ U, X U → me_nest U) (hXs : ∀ U, X U → me_xs z0 U) (hCE : ∀ U, X U → me_ce U) (hX : va_X b L xs s s.heap) (hbl : b < s.heap.size) (hbA : ¬ me_A z0 b) (hL : L ≤ 3072) (hgood : lw_good REL) (hkeep : lw_keep REL) : lw_ck p l e room_1 s m args below meth c Q D z0 b L z0 (z0 + 919) (z0 + 929) (z0 + 930) (lw_LR REL tb z0) 1542 := by
  intro t n M ls H locs h6 hR hM hl kk
  obtain ⟨g, G, F, sf, inp, out, Fm, w, av, od, sv, sl, nz, ip, ot, ha, hr⟩ := hR
  obtain ⟨S, B, L9, P, T, hag, hO, hT⟩ := hgood _ _ _ _ _ _ _ _ _ _ _ _ _ _ _ _ hr
  have hW := ag_wf hag hO.1
  have hT2 : g 2 = nI T := (ag_n hag (by decide)).trans hO.2.2
  have hS3 : g 3 = nI S := hW.1
  have hB4 : g 4 = nI B := hW.2.2.1
  have hL6 : g 6 = nI L9 := hW.2.2.2.2.1
  have hw2 : w 2 = nI T := hO.2.2
  have hw3 : w 3 = nI S := hO.1.1
  have hw4 : w 4 = nI B := hO.1.2.2.1
  have hw6 : w 6 = nI L9 := hO.1.2.2.2.2.1
  have hS8 := hO.1.2.1
  have hB12 := hO.1.2.2.2.1
  have hL30 := hO.1.2.2.2.2.2.1
  rcases lw_ix (xs (6 * t + 1)) B (by omega) with hb | ⟨i0, u0, e0⟩
  · have ct := (c_X7_quote_x1 l D tb X z0 n z0 g G F sf inp out M S B L9 P (xs (6 * t + 1)) (xs (6 * t + 2)) hfl hXs (by rw [hB4]; exact hb))
    rw [ha.1] at ct
    exact lw_b32_x1 l (mc := 1) (ms := 6) (mc2 := 0) (ms2 := 0) hCE hC hX hbl hbA hL h6 hM hl rfl rfl ha ha rfl rfl ⟨by decide, by decide⟩ ⟨by decide, by decide⟩ rfl rfl ⟨by decide, by decide⟩ (upd_s _ _ _) (hkeep _ _ _ _ _ _ _ _ _ _ _ _ _ _ _ _ 1 hr) ct (fun n1 M0 => (c_X8_quote_x1 l D tb X z0 n1 (z0 + 919) Fm w av od sv sl nz ip ot M0 S B L9 P T (xs (6 * t + 1)) (xs (6 * t + 2)) hO (by omega) (by rw [hw4]; exact hb))) kk
  rcases lw_rg (xs (6 * t + 2)) 1 6 (by omega) with hb | ⟨i1, u1, v1, e1⟩
  · have ct := (c_X7_quote_x2 l D tb X z0 n z0 g G F sf inp out M S B L9 P i0 (xs (6 * t + 2)) hfl hXs hW (by omega) hb)
    rw [ha.1] at ct
    exact lw_b32_x2 l (mc := 1) (ms := 6) (mc2 := 0) (ms2 := 0) hCE hC hX hbl hbA hL h6 hM hl e0 rfl ha ha rfl rfl ⟨by decide, by decide⟩ ⟨by decide, by decide⟩ rfl rfl ⟨by decide, by decide⟩ (upd_s _ _ _) (hkeep _ _ _ _ _ _ _ _ _ _ _ _ _ _ _ _ 2 hr) ct (fun n1 M0 => (c_X8_quote_x2 l D tb X z0 n1 (z0 + 919) Fm w av od sv sl nz ip ot M0 S B L9 P T i0 (xs (6 * t + 2)) hO (by omega) (by omega) hb)) kk
  have ct := (c_X7_quote l D tb X z0 n z0 g G F sf inp out M S B L9 P i0 i1 hW (by omega) (by omega) (by omega))
  rw [ha.1] at ct
  have hq := ag_pr hag hO.1 u0 (nI i1)
  rw [hq] at ct
  exact lw_a32 l (mc := 0) (ms := 0) (mc2 := 0) (ms2 := 0) hC hX hbl hbA hL h6 hM hl e0 e1 ha ha rfl rfl ⟨by decide, by decide⟩ ⟨by decide, by decide⟩ rfl rfl ⟨by decide, by decide⟩ (upd_s _ _ _) (hkeep _ _ _ _ _ _ _ _ _ _ _ _ _ _ _ _ 0 hr) ct (fun n1 M0 => (c_X8_quote l D tb X z0 n1 (z0 + 919) Fm w av od sv sl nz ip ot M0 S B L9 P T i0 i1 hO (by omega) (by omega) (by omega) (by omega))) kk
set_option maxHeartbeats 1000000 in
theorem lw_n33 (l : Launch) (hfl : l.stackTraces = false) (hC : me_cx ws_all p c cL_law 10 s args m RL D tb X z0) (hN : ∀ U, X U → me_nest U) (hXs : ∀ U, X U → me_xs z0 U) (hCE : ∀ U, X U → me_ce U) (hX : va_X b L xs s s.heap) (hbl : b < s.heap.size) (hbA : ¬ me_A z0 b) (hL : L ≤ 3072) (hgood : lw_good REL) (hkeep : lw_keep REL) : lw_ck p l e room_1 s m args below meth c Q D z0 b L z0 (z0 + 919) (z0 + 929) (z0 + 930) (lw_LR REL tb z0) 1610 := by
  intro t n M ls H locs h6 hR hM hl kk
  obtain ⟨g, G, F, sf, inp, out, Fm, w, av, od, sv, sl, nz, ip, ot, ha, hr⟩ := hR
  obtain ⟨S, B, L9, P, T, hag, hO, hT⟩ := hgood _ _ _ _ _ _ _ _ _ _ _ _ _ _ _ _ hr
  have hW := ag_wf hag hO.1
  have hT2 : g 2 = nI T := (ag_n hag (by decide)).trans hO.2.2
  have hS3 : g 3 = nI S := hW.1
  have hB4 : g 4 = nI B := hW.2.2.1
  have hL6 : g 6 = nI L9 := hW.2.2.2.2.1
  have hw2 : w 2 = nI T := hO.2.2
  have hw3 : w 3 = nI S := hO.1.1
  have hw4 : w 4 = nI B := hO.1.2.2.1
  have hw6 : w 6 = nI L9 := hO.1.2.2.2.2.1
  have hS8 := hO.1.2.1
  have hB12 := hO.1.2.2.2.1
  have hL30 := hO.1.2.2.2.2.2.1
  rcases lw_ix (xs (6 * t + 1)) B (by omega) with hb | ⟨i0, u0, e0⟩
  · have ct := (c_X7_refusal_x1 l D tb X z0 n z0 g G F sf inp out M S B L9 P (xs (6 * t + 1)) (xs (6 * t + 2)) (xs (6 * t + 3)) hfl hXs (by rw [hB4]; exact hb))
    rw [ha.1] at ct
    exact lw_b33_x1 l (mc := 1) (ms := 6) (mc2 := 0) (ms2 := 0) hCE hC hX hbl hbA hL h6 hM hl rfl rfl rfl ha ha rfl rfl ⟨by decide, by decide⟩ ⟨by decide, by decide⟩ rfl rfl ⟨by decide, by decide⟩ (upd_s _ _ _) (hkeep _ _ _ _ _ _ _ _ _ _ _ _ _ _ _ _ 1 hr) ct (fun n1 M0 => (c_X8_refusal_x1 l D tb X z0 n1 (z0 + 919) Fm w av od sv sl nz ip ot M0 S B L9 P T (xs (6 * t + 1)) (xs (6 * t + 2)) (xs (6 * t + 3)) hO (by omega) (by rw [hw4]; exact hb))) kk
  rcases lw_rg (xs (6 * t + 3)) 1 6 (by omega) with hb | ⟨i2, u2, v2, e2⟩
  · have ct := (c_X7_refusal_x2 l D tb X z0 n z0 g G F sf inp out M S B L9 P i0 (xs (6 * t + 2)) (xs (6 * t + 3)) hfl hXs hW (by omega) hb)
    rw [ha.1] at ct
    exact lw_b33_x2 l (mc := 1) (ms := 6) (mc2 := 0) (ms2 := 0) hCE hC hX hbl hbA hL h6 hM hl e0 rfl rfl ha ha rfl rfl ⟨by decide, by decide⟩ ⟨by decide, by decide⟩ rfl rfl ⟨by decide, by decide⟩ (upd_s _ _ _) (hkeep _ _ _ _ _ _ _ _ _ _ _ _ _ _ _ _ 2 hr) ct (fun n1 M0 => (c_X8_refusal_x2 l D tb X z0 n1 (z0 + 919) Fm w av od sv sl nz ip ot M0 S B L9 P T i0 (xs (6 * t + 2)) (xs (6 * t + 3)) hO (by omega) (by omega) hb)) kk
  rcases lw_sr (xs (6 * t + 2)) T i2 (by omega) (by omega) with hb | ⟨i1, u1, v1, e1⟩
  · have ct := (c_X7_refusal_x3 l D tb X z0 n z0 g G F sf inp out M S B L9 P i0 (xs (6 * t + 2)) i2 hfl hXs hW (by omega) (by omega) (by omega) (by rw [hT2]; exact hb))
    rw [ha.1] at ct
    exact lw_b33_x2 l (mc := 1) (ms := 6) (mc2 := 0) (ms2 := 0) hCE hC hX hbl hbA hL h6 hM hl e0 rfl e2 ha ha rfl rfl ⟨by decide, by decide⟩ ⟨by decide, by decide⟩ rfl rfl ⟨by decide, by decide⟩ (upd_s _ _ _) (hkeep _ _ _ _ _ _ _ _ _ _ _ _ _ _ _ _ 2 hr) ct (fun n1 M0 => (c_X8_refusal_x3 l D tb X z0 n1 (z0 + 919) Fm w av od sv sl nz ip ot M0 S B L9 P T i0 (xs (6 * t + 2)) i2 hO (by omega) (by omega) (by omega) (by omega) (by rw [hw2]; exact hb))) kk
  have ct := (c_X7_refusal l D tb X z0 n z0 g G F sf inp out M S B L9 P T i0 i1 i2 hW hT2 (by omega) (by omega) (by omega) (by omega) (by omega) (by omega))
  rw [ha.1] at ct
  have hq := ag_re hag hO.1 u0 i1 i2
  rw [hq] at ct
  exact lw_a33 l (mc := 0) (ms := 0) (mc2 := 0) (ms2 := 0) hC hX hbl hbA hL h6 hM hl e0 e1 e2 ha ha rfl rfl ⟨by decide, by decide⟩ ⟨by decide, by decide⟩ rfl rfl ⟨by decide, by decide⟩ (upd_s _ _ _) (hkeep _ _ _ _ _ _ _ _ _ _ _ _ _ _ _ _ 0 hr) ct (fun n1 M0 => (c_X8_refusal l D tb X z0 n1 (z0 + 919) Fm w av od sv sl nz ip ot M0 S B L9 P T i0 i1 i2 hO (by omega) (by omega) (by omega) (by omega) (by omega) (by omega))) kk
set_option maxHeartbeats 1000000 in
theorem lw_n34 (l : Launch) (hfl : l.stackTraces = false) (hC : me_cx ws_all p c cL_law 10 s args m RL D tb X z0) (hN : ∀ U, X U → me_nest U) (hXs : ∀ U, X U → me_xs z0 U) (hCE : ∀ U, X U → me_ce U) (hX : va_X b L xs s s.heap) (hbl : b < s.heap.size) (hbA : ¬ me_A z0 b) (hL : L ≤ 3072) (hgood : lw_good REL) (hkeep : lw_keep REL) : lw_ck p l e room_1 s m args below meth c Q D z0 b L z0 (z0 + 919) (z0 + 929) (z0 + 930) (lw_LR REL tb z0) 1690 := by
  intro t n M ls H locs h6 hR hM hl kk
  obtain ⟨g, G, F, sf, inp, out, Fm, w, av, od, sv, sl, nz, ip, ot, ha, hr⟩ := hR
  obtain ⟨S, B, L9, P, T, hag, hO, hT⟩ := hgood _ _ _ _ _ _ _ _ _ _ _ _ _ _ _ _ hr
  have hW := ag_wf hag hO.1
  have hT2 : g 2 = nI T := (ag_n hag (by decide)).trans hO.2.2
  have hS3 : g 3 = nI S := hW.1
  have hB4 : g 4 = nI B := hW.2.2.1
  have hL6 : g 6 = nI L9 := hW.2.2.2.2.1
  have hw2 : w 2 = nI T := hO.2.2
  have hw3 : w 3 = nI S := hO.1.1
  have hw4 : w 4 = nI B := hO.1.2.2.1
  have hw6 : w 6 = nI L9 := hO.1.2.2.2.2.1
  have hS8 := hO.1.2.1
  have hB12 := hO.1.2.2.2.1
  have hL30 := hO.1.2.2.2.2.2.1
  rcases lw_ix (xs (6 * t + 1)) B (by omega) with hb | ⟨i0, u0, e0⟩
  · have ct := (c_X7_refusalCause_x1 l D tb X z0 n z0 g G F sf inp out M S B L9 P (xs (6 * t + 1)) (xs (6 * t + 2)) (xs (6 * t + 3)) hfl hXs (by rw [hB4]; exact hb))
    rw [ha.1] at ct
    exact lw_b34_x1 l (mc := 1) (ms := 6) (mc2 := 0) (ms2 := 0) hCE hC hX hbl hbA hL h6 hM hl rfl rfl rfl ha ha rfl rfl ⟨by decide, by decide⟩ ⟨by decide, by decide⟩ rfl rfl ⟨by decide, by decide⟩ (upd_s _ _ _) (hkeep _ _ _ _ _ _ _ _ _ _ _ _ _ _ _ _ 1 hr) ct (fun n1 M0 => (c_X8_refusalCause_x1 l D tb X z0 n1 (z0 + 919) Fm w av od sv sl nz ip ot M0 S B L9 P T (xs (6 * t + 1)) (xs (6 * t + 2)) (xs (6 * t + 3)) hO (by omega) (by rw [hw4]; exact hb))) kk
  rcases lw_rg (xs (6 * t + 3)) 1 6 (by omega) with hb | ⟨i2, u2, v2, e2⟩
  · have ct := (c_X7_refusalCause_x2 l D tb X z0 n z0 g G F sf inp out M S B L9 P i0 (xs (6 * t + 2)) (xs (6 * t + 3)) hfl hXs hW (by omega) hb)
    rw [ha.1] at ct
    exact lw_b34_x2 l (mc := 1) (ms := 6) (mc2 := 0) (ms2 := 0) hCE hC hX hbl hbA hL h6 hM hl e0 rfl rfl ha ha rfl rfl ⟨by decide, by decide⟩ ⟨by decide, by decide⟩ rfl rfl ⟨by decide, by decide⟩ (upd_s _ _ _) (hkeep _ _ _ _ _ _ _ _ _ _ _ _ _ _ _ _ 2 hr) ct (fun n1 M0 => (c_X8_refusalCause_x2 l D tb X z0 n1 (z0 + 919) Fm w av od sv sl nz ip ot M0 S B L9 P T i0 (xs (6 * t + 2)) (xs (6 * t + 3)) hO (by omega) (by omega) hb)) kk
  rcases lw_sr (xs (6 * t + 2)) T i2 (by omega) (by omega) with hb | ⟨i1, u1, v1, e1⟩
  · have ct := (c_X7_refusalCause_x3 l D tb X z0 n z0 g G F sf inp out M S B L9 P i0 (xs (6 * t + 2)) i2 hfl hXs hW (by omega) (by omega) (by omega) (by rw [hT2]; exact hb))
    rw [ha.1] at ct
    exact lw_b34_x2 l (mc := 1) (ms := 6) (mc2 := 0) (ms2 := 0) hCE hC hX hbl hbA hL h6 hM hl e0 rfl e2 ha ha rfl rfl ⟨by decide, by decide⟩ ⟨by decide, by decide⟩ rfl rfl ⟨by decide, by decide⟩ (upd_s _ _ _) (hkeep _ _ _ _ _ _ _ _ _ _ _ _ _ _ _ _ 2 hr) ct (fun n1 M0 => (c_X8_refusalCause_x3 l D tb X z0 n1 (z0 + 919) Fm w av od sv sl nz ip ot M0 S B L9 P T i0 (xs (6 * t + 2)) i2 hO (by omega) (by omega) (by omega) (by omega) (by rw [hw2]; exact hb))) kk
  have ct := (c_X7_refusalCause l D tb X z0 n z0 g G F sf inp out M S B L9 P T i0 i1 i2 hW hT2 (by omega) (by omega) (by omega) (by omega) (by omega) (by omega))
  rw [ha.1] at ct
  have hq := ag_cau hag hO.1 u0 i1 i2
  rw [hq] at ct
  exact lw_a34 l (mc := 0) (ms := 0) (mc2 := 0) (ms2 := 0) hC hX hbl hbA hL h6 hM hl e0 e1 e2 ha ha rfl rfl ⟨by decide, by decide⟩ ⟨by decide, by decide⟩ rfl rfl ⟨by decide, by decide⟩ (upd_s _ _ _) (hkeep _ _ _ _ _ _ _ _ _ _ _ _ _ _ _ _ 0 hr) ct (fun n1 M0 => (c_X8_refusalCause l D tb X z0 n1 (z0 + 919) Fm w av od sv sl nz ip ot M0 S B L9 P T i0 i1 i2 hO (by omega) (by omega) (by omega) (by omega) (by omega) (by omega))) kk
set_option maxHeartbeats 1000000 in
theorem lw_n35 (l : Launch) (hfl : l.stackTraces = false) (hC : me_cx ws_all p c cL_law 10 s args m RL D tb X z0) (hN : ∀ U, X U → me_nest U) (hXs : ∀ U, X U → me_xs z0 U) (hCE : ∀ U, X U → me_ce U) (hX : va_X b L xs s s.heap) (hbl : b < s.heap.size) (hbA : ¬ me_A z0 b) (hL : L ≤ 3072) (hgood : lw_good REL) (hkeep : lw_keep REL) : lw_ck p l e room_1 s m args below meth c Q D z0 b L z0 (z0 + 919) (z0 + 929) (z0 + 930) (lw_LR REL tb z0) 1770 := by
  intro t n M ls H locs h6 hR hM hl kk
  obtain ⟨g, G, F, sf, inp, out, Fm, w, av, od, sv, sl, nz, ip, ot, ha, hr⟩ := hR
  obtain ⟨S, B, L9, P, T, hag, hO, hT⟩ := hgood _ _ _ _ _ _ _ _ _ _ _ _ _ _ _ _ hr
  have hW := ag_wf hag hO.1
  have hT2 : g 2 = nI T := (ag_n hag (by decide)).trans hO.2.2
  have hS3 : g 3 = nI S := hW.1
  have hB4 : g 4 = nI B := hW.2.2.1
  have hL6 : g 6 = nI L9 := hW.2.2.2.2.1
  have hw2 : w 2 = nI T := hO.2.2
  have hw3 : w 3 = nI S := hO.1.1
  have hw4 : w 4 = nI B := hO.1.2.2.1
  have hw6 : w 6 = nI L9 := hO.1.2.2.2.2.1
  have hS8 := hO.1.2.1
  have hB12 := hO.1.2.2.2.1
  have hL30 := hO.1.2.2.2.2.2.1
  rcases lw_ix (xs (6 * t + 1)) B (by omega) with hb | ⟨i0, u0, e0⟩
  · have ct := (c_X7_displacedBy_x1 l D tb X z0 n z0 g G F sf inp out M S B L9 P (xs (6 * t + 1)) (xs (6 * t + 2)) (xs (6 * t + 3)) hfl hXs (by rw [hB4]; exact hb))
    rw [ha.1] at ct
    exact lw_b35_x1 l (mc := 1) (ms := 6) (mc2 := 0) (ms2 := 0) hCE hC hX hbl hbA hL h6 hM hl rfl rfl rfl ha ha rfl rfl ⟨by decide, by decide⟩ ⟨by decide, by decide⟩ rfl rfl ⟨by decide, by decide⟩ (upd_s _ _ _) (hkeep _ _ _ _ _ _ _ _ _ _ _ _ _ _ _ _ 1 hr) ct (fun n1 M0 => (c_X8_displacedBy_x1 l D tb X z0 n1 (z0 + 919) Fm w av od sv sl nz ip ot M0 S B L9 P T (xs (6 * t + 1)) (xs (6 * t + 2)) (xs (6 * t + 3)) hO (by omega) (by rw [hw4]; exact hb))) kk
  rcases lw_rg (xs (6 * t + 3)) 1 6 (by omega) with hb | ⟨i2, u2, v2, e2⟩
  · have ct := (c_X7_displacedBy_x2 l D tb X z0 n z0 g G F sf inp out M S B L9 P i0 (xs (6 * t + 2)) (xs (6 * t + 3)) hfl hXs hW (by omega) hb)
    rw [ha.1] at ct
    exact lw_b35_x2 l (mc := 1) (ms := 6) (mc2 := 0) (ms2 := 0) hCE hC hX hbl hbA hL h6 hM hl e0 rfl rfl ha ha rfl rfl ⟨by decide, by decide⟩ ⟨by decide, by decide⟩ rfl rfl ⟨by decide, by decide⟩ (upd_s _ _ _) (hkeep _ _ _ _ _ _ _ _ _ _ _ _ _ _ _ _ 2 hr) ct (fun n1 M0 => (c_X8_displacedBy_x2 l D tb X z0 n1 (z0 + 919) Fm w av od sv sl nz ip ot M0 S B L9 P T i0 (xs (6 * t + 2)) (xs (6 * t + 3)) hO (by omega) (by omega) hb)) kk
  rcases lw_sr (xs (6 * t + 2)) T i2 (by omega) (by omega) with hb | ⟨i1, u1, v1, e1⟩
  · have ct := (c_X7_displacedBy_x3 l D tb X z0 n z0 g G F sf inp out M S B L9 P i0 (xs (6 * t + 2)) i2 hfl hXs hW (by omega) (by omega) (by omega) (by rw [hT2]; exact hb))
    rw [ha.1] at ct
    exact lw_b35_x2 l (mc := 1) (ms := 6) (mc2 := 0) (ms2 := 0) hCE hC hX hbl hbA hL h6 hM hl e0 rfl e2 ha ha rfl rfl ⟨by decide, by decide⟩ ⟨by decide, by decide⟩ rfl rfl ⟨by decide, by decide⟩ (upd_s _ _ _) (hkeep _ _ _ _ _ _ _ _ _ _ _ _ _ _ _ _ 2 hr) ct (fun n1 M0 => (c_X8_displacedBy_x3 l D tb X z0 n1 (z0 + 919) Fm w av od sv sl nz ip ot M0 S B L9 P T i0 (xs (6 * t + 2)) i2 hO (by omega) (by omega) (by omega) (by omega) (by rw [hw2]; exact hb))) kk
  have ct := (c_X7_displacedBy l D tb X z0 n z0 g G F sf inp out M S B L9 P T i0 i1 i2 hW hT2 (by omega) (by omega) (by omega) (by omega) (by omega) (by omega))
  rw [ha.1] at ct
  have hq := ag_disp hag hO.1 u0 i1 i2
  rw [hq] at ct
  exact lw_a35 l (mc := 0) (ms := 0) (mc2 := 0) (ms2 := 0) hC hX hbl hbA hL h6 hM hl e0 e1 e2 ha ha rfl rfl ⟨by decide, by decide⟩ ⟨by decide, by decide⟩ rfl rfl ⟨by decide, by decide⟩ (upd_s _ _ _) (hkeep _ _ _ _ _ _ _ _ _ _ _ _ _ _ _ _ 0 hr) ct (fun n1 M0 => (c_X8_displacedBy l D tb X z0 n1 (z0 + 919) Fm w av od sv sl nz ip ot M0 S B L9 P T i0 i1 i2 hO (by omega) (by omega) (by omega) (by omega) (by omega) (by omega))) kk
set_option maxHeartbeats 1000000 in
theorem lw_n36 (l : Launch) (hfl : l.stackTraces = false) (hC : me_cx ws_all p c cL_law 10 s args m RL D tb X z0) (hN : ∀ U, X U → me_nest U) (hXs : ∀ U, X U → me_xs z0 U) (hCE : ∀ U, X U → me_ce U) (hX : va_X b L xs s s.heap) (hbl : b < s.heap.size) (hbA : ¬ me_A z0 b) (hL : L ≤ 3072) (hgood : lw_good REL) (hkeep : lw_keep REL) : lw_ck p l e room_1 s m args below meth c Q D z0 b L z0 (z0 + 919) (z0 + 929) (z0 + 930) (lw_LR REL tb z0) 1850 := by
  intro t n M ls H locs h6 hR hM hl kk
  obtain ⟨g, G, F, sf, inp, out, Fm, w, av, od, sv, sl, nz, ip, ot, ha, hr⟩ := hR
  obtain ⟨S, B, L9, P, T, hag, hO, hT⟩ := hgood _ _ _ _ _ _ _ _ _ _ _ _ _ _ _ _ hr
  have hW := ag_wf hag hO.1
  have hT2 : g 2 = nI T := (ag_n hag (by decide)).trans hO.2.2
  have hS3 : g 3 = nI S := hW.1
  have hB4 : g 4 = nI B := hW.2.2.1
  have hL6 : g 6 = nI L9 := hW.2.2.2.2.1
  have hw2 : w 2 = nI T := hO.2.2
  have hw3 : w 3 = nI S := hO.1.1
  have hw4 : w 4 = nI B := hO.1.2.2.1
  have hw6 : w 6 = nI L9 := hO.1.2.2.2.2.1
  have hS8 := hO.1.2.1
  have hB12 := hO.1.2.2.2.1
  have hL30 := hO.1.2.2.2.2.2.1
  rcases lw_ix (xs (6 * t + 1)) B (by omega) with hb | ⟨i0, u0, e0⟩
  · have ct := (c_X7_earliestStart_x1 l D tb X z0 n z0 g G F sf inp out M S B L9 P (xs (6 * t + 1)) (xs (6 * t + 2)) hfl hXs (by rw [hB4]; exact hb))
    rw [ha.1] at ct
    exact lw_b36_x1 l (mc := 1) (ms := 6) (mc2 := 0) (ms2 := 0) hCE hC hX hbl hbA hL h6 hM hl rfl rfl ha ha rfl rfl ⟨by decide, by decide⟩ ⟨by decide, by decide⟩ rfl rfl ⟨by decide, by decide⟩ (upd_s _ _ _) (hkeep _ _ _ _ _ _ _ _ _ _ _ _ _ _ _ _ 1 hr) ct (fun n1 M0 => (c_X8_earliestStart_x1 l D tb X z0 n1 (z0 + 919) Fm w av od sv sl nz ip ot M0 S B L9 P T (xs (6 * t + 1)) (xs (6 * t + 2)) hO (by omega) (by rw [hw4]; exact hb))) kk
  rcases lw_rg (xs (6 * t + 2)) 1 6 (by omega) with hb | ⟨i1, u1, v1, e1⟩
  · have ct := (c_X7_earliestStart_x2 l D tb X z0 n z0 g G F sf inp out M S B L9 P i0 (xs (6 * t + 2)) hfl hXs hW (by omega) hb)
    rw [ha.1] at ct
    exact lw_b36_x2 l (mc := 1) (ms := 6) (mc2 := 0) (ms2 := 0) hCE hC hX hbl hbA hL h6 hM hl e0 rfl ha ha rfl rfl ⟨by decide, by decide⟩ ⟨by decide, by decide⟩ rfl rfl ⟨by decide, by decide⟩ (upd_s _ _ _) (hkeep _ _ _ _ _ _ _ _ _ _ _ _ _ _ _ _ 2 hr) ct (fun n1 M0 => (c_X8_earliestStart_x2 l D tb X z0 n1 (z0 + 919) Fm w av od sv sl nz ip ot M0 S B L9 P T i0 (xs (6 * t + 2)) hO (by omega) (by omega) hb)) kk
  have ct := (c_X7_earliestStart l D tb X z0 n z0 g G F sf inp out M S B L9 P T i0 i1 hW hT2 (by omega) (by omega) (by omega) (by omega))
  rw [ha.1] at ct
  have hq := ag_ea hag hO.1 u0 i1 T 30
  rw [hq] at ct
  exact lw_a36 l (mc := 0) (ms := 0) (mc2 := 0) (ms2 := 0) hC hX hbl hbA hL h6 hM hl e0 e1 ha ha rfl rfl ⟨by decide, by decide⟩ ⟨by decide, by decide⟩ rfl rfl ⟨by decide, by decide⟩ (upd_s _ _ _) (hkeep _ _ _ _ _ _ _ _ _ _ _ _ _ _ _ _ 0 hr) ct (fun n1 M0 => (c_X8_earliestStart l D tb X z0 n1 (z0 + 919) Fm w av od sv sl nz ip ot M0 S B L9 P T i0 i1 hO (by omega) (by omega) (by omega) (by omega))) kk
set_option maxHeartbeats 1000000 in
theorem lw_n37 (l : Launch) (hfl : l.stackTraces = false) (hC : me_cx ws_all p c cL_law 10 s args m RL D tb X z0) (hN : ∀ U, X U → me_nest U) (hXs : ∀ U, X U → me_xs z0 U) (hCE : ∀ U, X U → me_ce U) (hX : va_X b L xs s s.heap) (hbl : b < s.heap.size) (hbA : ¬ me_A z0 b) (hL : L ≤ 3072) (hgood : lw_good REL) (hkeep : lw_keep REL) : lw_ck p l e room_1 s m args below meth c Q D z0 b L z0 (z0 + 919) (z0 + 929) (z0 + 930) (lw_LR REL tb z0) 1918 := by
  intro t n M ls H locs h6 hR hM hl kk
  obtain ⟨g, G, F, sf, inp, out, Fm, w, av, od, sv, sl, nz, ip, ot, ha, hr⟩ := hR
  obtain ⟨S, B, L9, P, T, hag, hO, hT⟩ := hgood _ _ _ _ _ _ _ _ _ _ _ _ _ _ _ _ hr
  have hW := ag_wf hag hO.1
  have hT2 : g 2 = nI T := (ag_n hag (by decide)).trans hO.2.2
  have hS3 : g 3 = nI S := hW.1
  have hB4 : g 4 = nI B := hW.2.2.1
  have hL6 : g 6 = nI L9 := hW.2.2.2.2.1
  have hw2 : w 2 = nI T := hO.2.2
  have hw3 : w 3 = nI S := hO.1.1
  have hw4 : w 4 = nI B := hO.1.2.2.1
  have hw6 : w 6 = nI L9 := hO.1.2.2.2.2.1
  have hS8 := hO.1.2.1
  have hB12 := hO.1.2.2.2.1
  have hL30 := hO.1.2.2.2.2.2.1
  rcases lw_ix (xs (6 * t + 1)) B (by omega) with hb | ⟨i0, u0, e0⟩
  · have ct := (c_X7_earliestPeacefulStart_x1 l D tb X z0 n z0 g G F sf inp out M S B L9 P (xs (6 * t + 1)) (xs (6 * t + 2)) hfl hXs (by rw [hB4]; exact hb))
    rw [ha.1] at ct
    exact lw_b37_x1 l (mc := 1) (ms := 6) (mc2 := 0) (ms2 := 0) hCE hC hX hbl hbA hL h6 hM hl rfl rfl ha ha rfl rfl ⟨by decide, by decide⟩ ⟨by decide, by decide⟩ rfl rfl ⟨by decide, by decide⟩ (upd_s _ _ _) (hkeep _ _ _ _ _ _ _ _ _ _ _ _ _ _ _ _ 1 hr) ct (fun n1 M0 => (c_X8_earliestPeacefulStart_x1 l D tb X z0 n1 (z0 + 919) Fm w av od sv sl nz ip ot M0 S B L9 P T (xs (6 * t + 1)) (xs (6 * t + 2)) hO (by omega) (by rw [hw4]; exact hb))) kk
  rcases lw_rg (xs (6 * t + 2)) 1 6 (by omega) with hb | ⟨i1, u1, v1, e1⟩
  · have ct := (c_X7_earliestPeacefulStart_x2 l D tb X z0 n z0 g G F sf inp out M S B L9 P i0 (xs (6 * t + 2)) hfl hXs hW (by omega) hb)
    rw [ha.1] at ct
    exact lw_b37_x2 l (mc := 1) (ms := 6) (mc2 := 0) (ms2 := 0) hCE hC hX hbl hbA hL h6 hM hl e0 rfl ha ha rfl rfl ⟨by decide, by decide⟩ ⟨by decide, by decide⟩ rfl rfl ⟨by decide, by decide⟩ (upd_s _ _ _) (hkeep _ _ _ _ _ _ _ _ _ _ _ _ _ _ _ _ 2 hr) ct (fun n1 M0 => (c_X8_earliestPeacefulStart_x2 l D tb X z0 n1 (z0 + 919) Fm w av od sv sl nz ip ot M0 S B L9 P T i0 (xs (6 * t + 2)) hO (by omega) (by omega) hb)) kk
  have ct := (c_X7_earliestPeacefulStart l D tb X z0 n z0 g G F sf inp out M S B L9 P T i0 i1 hW hT2 (by omega) (by omega) (by omega) (by omega))
  rw [ha.1] at ct
  have hq := ag_ea hag hO.1 u0 i1 T 0
  rw [hq] at ct
  exact lw_a37 l (mc := 0) (ms := 0) (mc2 := 0) (ms2 := 0) hC hX hbl hbA hL h6 hM hl e0 e1 ha ha rfl rfl ⟨by decide, by decide⟩ ⟨by decide, by decide⟩ rfl rfl ⟨by decide, by decide⟩ (upd_s _ _ _) (hkeep _ _ _ _ _ _ _ _ _ _ _ _ _ _ _ _ 0 hr) ct (fun n1 M0 => (c_X8_earliestPeacefulStart l D tb X z0 n1 (z0 + 919) Fm w av od sv sl nz ip ot M0 S B L9 P T i0 i1 hO (by omega) (by omega) (by omega) (by omega))) kk
set_option maxHeartbeats 1000000 in
theorem lw_n39 (l : Launch) (hfl : l.stackTraces = false) (hC : me_cx ws_all p c cL_law 10 s args m RL D tb X z0) (hN : ∀ U, X U → me_nest U) (hXs : ∀ U, X U → me_xs z0 U) (hCE : ∀ U, X U → me_ce U) (hX : va_X b L xs s s.heap) (hbl : b < s.heap.size) (hbA : ¬ me_A z0 b) (hL : L ≤ 3072) (hgood : lw_good REL) (hkeep : lw_keep REL) : lw_ck p l e room_1 s m args below meth c Q D z0 b L z0 (z0 + 919) (z0 + 929) (z0 + 930) (lw_LR REL tb z0) 2054 := by
  intro t n M ls H locs h6 hR hM hl kk
  obtain ⟨g, G, F, sf, inp, out, Fm, w, av, od, sv, sl, nz, ip, ot, ha, hr⟩ := hR
  obtain ⟨S, B, L9, P, T, hag, hO, hT⟩ := hgood _ _ _ _ _ _ _ _ _ _ _ _ _ _ _ _ hr
  have hW := ag_wf hag hO.1
  have hT2 : g 2 = nI T := (ag_n hag (by decide)).trans hO.2.2
  have hS3 : g 3 = nI S := hW.1
  have hB4 : g 4 = nI B := hW.2.2.1
  have hL6 : g 6 = nI L9 := hW.2.2.2.2.1
  have hw2 : w 2 = nI T := hO.2.2
  have hw3 : w 3 = nI S := hO.1.1
  have hw4 : w 4 = nI B := hO.1.2.2.1
  have hw6 : w 6 = nI L9 := hO.1.2.2.2.2.1
  have hS8 := hO.1.2.1
  have hB12 := hO.1.2.2.2.1
  have hL30 := hO.1.2.2.2.2.2.1
  rcases lw_ix (xs (6 * t + 1)) S (by omega) with hb | ⟨i0, u0, e0⟩
  · have ct := (c_X7_meanNoise_x1 l D tb X z0 n z0 g G F sf inp out M S B L9 P (xs (6 * t + 1)) hfl hXs (by rw [hS3]; exact hb))
    rw [ha.1] at ct
    exact lw_b39_x1 l (mc := 1) (ms := 6) (mc2 := 0) (ms2 := 0) hCE hC hX hbl hbA hL h6 hM hl rfl ha ha rfl rfl ⟨by decide, by decide⟩ ⟨by decide, by decide⟩ rfl rfl ⟨by decide, by decide⟩ (upd_s _ _ _) (hkeep _ _ _ _ _ _ _ _ _ _ _ _ _ _ _ _ 1 hr) ct (fun n1 M0 => (c_X8_meanNoise_x1 l D tb X z0 n1 (z0 + 919) Fm w av od sv sl nz ip ot M0 S B L9 P T (xs (6 * t + 1)) hO (by omega) (by rw [hw3]; exact hb))) kk
  have ct := (c_X7_meanNoise l D tb X z0 n z0 g G F sf inp out M S B L9 P T i0 hW hT2 (by omega) (by omega))
  rw [ha.1] at ct
  have hq := hag.2.1 i0 2 u0 (by decide)
  rw [hq] at ct
  exact lw_a39 l (mc := 0) (ms := 0) (mc2 := 0) (ms2 := 0) hC hX hbl hbA hL h6 hM hl e0 ha ha rfl rfl ⟨by decide, by decide⟩ ⟨by decide, by decide⟩ rfl rfl ⟨by decide, by decide⟩ (upd_s _ _ _) (hkeep _ _ _ _ _ _ _ _ _ _ _ _ _ _ _ _ 0 hr) ct (fun n1 M0 => (c_X8_meanNoise l D tb X z0 n1 (z0 + 919) Fm w av od sv sl nz ip ot M0 S B L9 P T i0 hO (by omega) (by omega))) kk
end LN2
