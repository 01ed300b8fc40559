section LQ1
variable {p : Program} {e : Env} {s : State} {m : MethodId} {args : Array Value} {below : List Frame} {meth : Method} {c : Code} {Q : State → Prop}
variable {D : va_G} {tb : Nat → ClassId} {X : State → Prop} {z0 b L : Nat}
theorem lw_n2 (l : Launch) {REL : lw_RT} (hC : me_cx ws_all p c cL_law 10 s args m RL D tb X z0) (hL : L ≤ 3072) (hs : ∀ t g G F sf inp out Fm w av od sv sl nz ip ot, REL t g G F sf inp out Fm w av od sv sl nz ip ot → REL (t + 1) g G F sf inp out (upd Fm 0 0) w av od sv sl nz ip ot) (hq : ∀ t g G F sf inp out Fm w av od sv sl nz ip ot, REL t g G F sf inp out Fm w av od sv sl nz ip ot → F 2 = Fm 5) : lw_ck p l e room_1 s m args below meth c Q D z0 b L z0 (z0 + 919) (z0 + 929) (z0 + 930) (lw_LR REL tb z0) 440 := by
  intro t n M ls H locs h6 hR hM hl kk
  obtain ⟨g, G, F, sf, inp, out, Fm, w, av, od, sv, sl, nz, ip, ot, ha, hr⟩ := hR
  have c1 := c_X7_errorKind l D tb X z0 n z0 g G F sf inp out M 0 0 0 0
  have c2 := c_X8_errorKind l D tb X z0 n (z0 + 919) Fm w av od sv sl nz ip ot M
  rw [ha.1] at c1
  rw [ha.2.1] at c2
  rw [← hq _ _ _ _ _ _ _ _ _ _ _ _ _ _ _ _ hr] at c2
  exact lw_c2 (mc := 0) (ms := 0) (mc2 := 0) (ms2 := 0) hC hl ⟨by decide, by decide⟩ hM rfl rfl ⟨by decide, by decide⟩ rfl rfl ⟨by decide, by decide⟩ ha.bo ha.mo ⟨by show 1000 + 100 * t + 0 + 0 ≤ 601024; omega, by show 14000 + 2000 * t + 0 + 0 ≤ 7293034; omega⟩ c1 c2 (fun ls1 H1 locs1 n5 hl1 hM1 => W.widen (by omega) (by omega) (kk ls1 H1 locs1 n5 _ hl1 ⟨g, G, F, sf, inp, out, upd Fm 0 0, w, av, od, sv, sl, nz, ip, ot, ha.mod, hs _ _ _ _ _ _ _ _ _ _ _ _ _ _ _ _ hr⟩ hM1))
theorem lw_n3 (l : Launch) {REL : lw_RT} (hC : me_cx ws_all p c cL_law 10 s args m RL D tb X z0) (hL : L ≤ 3072) (hs : ∀ t g G F sf inp out Fm w av od sv sl nz ip ot, REL t g G F sf inp out Fm w av od sv sl nz ip ot → REL (t + 1) g G F sf inp out (upd Fm 0 0) w av od sv sl nz ip ot) (hq : ∀ t g G F sf inp out Fm w av od sv sl nz ip ot, REL t g G F sf inp out Fm w av od sv sl nz ip ot → F 3 = Fm 6) : lw_ck p l e room_1 s m args below meth c Q D z0 b L z0 (z0 + 919) (z0 + 929) (z0 + 930) (lw_LR REL tb z0) 453 := by
  intro t n M ls H locs h6 hR hM hl kk
  obtain ⟨g, G, F, sf, inp, out, Fm, w, av, od, sv, sl, nz, ip, ot, ha, hr⟩ := hR
  have c1 := c_X7_errorOffset l D tb X z0 n z0 g G F sf inp out M 0 0 0 0
  have c2 := c_X8_errorOffset l D tb X z0 n (z0 + 919) Fm w av od sv sl nz ip ot M
  rw [ha.1] at c1
  rw [ha.2.1] at c2
  rw [← hq _ _ _ _ _ _ _ _ _ _ _ _ _ _ _ _ hr] at c2
  exact lw_c3 (mc := 0) (ms := 0) (mc2 := 0) (ms2 := 0) hC hl ⟨by decide, by decide⟩ hM rfl rfl ⟨by decide, by decide⟩ rfl rfl ⟨by decide, by decide⟩ ha.bo ha.mo ⟨by show 1000 + 100 * t + 0 + 0 ≤ 601024; omega, by show 14000 + 2000 * t + 0 + 0 ≤ 7293034; omega⟩ c1 c2 (fun ls1 H1 locs1 n5 hl1 hM1 => W.widen (by omega) (by omega) (kk ls1 H1 locs1 n5 _ hl1 ⟨g, G, F, sf, inp, out, upd Fm 0 0, w, av, od, sv, sl, nz, ip, ot, ha.mod, hs _ _ _ _ _ _ _ _ _ _ _ _ _ _ _ _ hr⟩ hM1))
theorem lw_n4 (l : Launch) {REL : lw_RT} (hC : me_cx ws_all p c cL_law 10 s args m RL D tb X z0) (hL : L ≤ 3072) (hs : ∀ t g G F sf inp out Fm w av od sv sl nz ip ot, REL t g G F sf inp out Fm w av od sv sl nz ip ot → REL (t + 1) g G F sf inp out (upd Fm 0 0) w av od sv sl nz ip ot) (hq : ∀ t g G F sf inp out Fm w av od sv sl nz ip ot, REL t g G F sf inp out Fm w av od sv sl nz ip ot → g 2 = w 2) : lw_ck p l e room_1 s m args below meth c Q D z0 b L z0 (z0 + 919) (z0 + 929) (z0 + 930) (lw_LR REL tb z0) 466 := by
  intro t n M ls H locs h6 hR hM hl kk
  obtain ⟨g, G, F, sf, inp, out, Fm, w, av, od, sv, sl, nz, ip, ot, ha, hr⟩ := hR
  have c1 := c_X7_clock l D tb X z0 n z0 g G F sf inp out M 0 0 0 0
  have c2 := c_X8_clock l D tb X z0 n (z0 + 919) Fm w av od sv sl nz ip ot M
  rw [ha.1] at c1
  rw [ha.2.1] at c2
  rw [← hq _ _ _ _ _ _ _ _ _ _ _ _ _ _ _ _ hr] at c2
  exact lw_c4 (mc := 0) (ms := 0) (mc2 := 0) (ms2 := 0) hC hl ⟨by decide, by decide⟩ hM rfl rfl ⟨by decide, by decide⟩ rfl rfl ⟨by decide, by decide⟩ ha.bo ha.mo ⟨by show 1000 + 100 * t + 0 + 0 ≤ 601024; omega, by show 14000 + 2000 * t + 0 + 0 ≤ 7293034; omega⟩ c1 c2 (fun ls1 H1 locs1 n5 hl1 hM1 => W.widen (by omega) (by omega) (kk ls1 H1 locs1 n5 _ hl1 ⟨g, G, F, sf, inp, out, upd Fm 0 0, w, av, od, sv, sl, nz, ip, ot, ha.mod, hs _ _ _ _ _ _ _ _ _ _ _ _ _ _ _ _ hr⟩ hM1))
theorem lw_n5 (l : Launch) {REL : lw_RT} (hC : me_cx ws_all p c cL_law 10 s args m RL D tb X z0) (hL : L ≤ 3072) (hs : ∀ t g G F sf inp out Fm w av od sv sl nz ip ot, REL t g G F sf inp out Fm w av od sv sl nz ip ot → REL (t + 1) g G F sf inp out (upd Fm 0 0) w av od sv sl nz ip ot) (hq : ∀ t g G F sf inp out Fm w av od sv sl nz ip ot, REL t g G F sf inp out Fm w av od sv sl nz ip ot → b1 (nh (g 2)) = b1 (nh (w 2))) : lw_ck p l e room_1 s m args below meth c Q D z0 b L z0 (z0 + 919) (z0 + 929) (z0 + 930) (lw_LR REL tb z0) 479 := by
  intro t n M ls H locs h6 hR hM hl kk
  obtain ⟨g, G, F, sf, inp, out, Fm, w, av, od, sv, sl, nz, ip, ot, ha, hr⟩ := hR
  have c1 := c_X7_isNight l D tb X z0 n z0 g G F sf inp out M 0 0 0 0
  have c2 := c_X8_isNight l D tb X z0 n (z0 + 919) Fm w av od sv sl nz ip ot M
  rw [ha.1] at c1
  rw [ha.2.1] at c2
  rw [← hq _ _ _ _ _ _ _ _ _ _ _ _ _ _ _ _ hr] at c2
  exact lw_c5 (mc := 0) (ms := 0) (mc2 := 0) (ms2 := 0) hC hl ⟨by decide, by decide⟩ hM rfl rfl ⟨by decide, by decide⟩ rfl rfl ⟨by decide, by decide⟩ ha.bo ha.mo ⟨by show 1000 + 100 * t + 0 + 0 ≤ 601024; omega, by show 14000 + 2000 * t + 0 + 0 ≤ 7293034; omega⟩ c1 c2 (fun ls1 H1 locs1 n5 hl1 hM1 => W.widen (by omega) (by omega) (kk ls1 H1 locs1 n5 _ hl1 ⟨g, G, F, sf, inp, out, upd Fm 0 0, w, av, od, sv, sl, nz, ip, ot, ha.mod, hs _ _ _ _ _ _ _ _ _ _ _ _ _ _ _ _ hr⟩ hM1))
theorem lw_n6 (l : Launch) {REL : lw_RT} (hC : me_cx ws_all p c cL_law 10 s args m RL D tb X z0) (hL : L ≤ 3072) (hs : ∀ t g G F sf inp out Fm w av od sv sl nz ip ot, REL t g G F sf inp out Fm w av od sv sl nz ip ot → REL (t + 1) g G F sf inp out (upd Fm 0 0) w av od sv sl nz ip ot) (hq : ∀ t g G F sf inp out Fm w av od sv sl nz ip ot, REL t g G F sf inp out Fm w av od sv sl nz ip ot → g 0 = w 0) : lw_ck p l e room_1 s m args below meth c Q D z0 b L z0 (z0 + 919) (z0 + 929) (z0 + 930) (lw_LR REL tb z0) 492 := by
  intro t n M ls H locs h6 hR hM hl kk
  obtain ⟨g, G, F, sf, inp, out, Fm, w, av, od, sv, sl, nz, ip, ot, ha, hr⟩ := hR
  have c1 := c_X7_gracePeriod l D tb X z0 n z0 g G F sf inp out M 0 0 0 0
  have c2 := c_X8_gracePeriod l D tb X z0 n (z0 + 919) Fm w av od sv sl nz ip ot M
  rw [ha.1] at c1
  rw [ha.2.1] at c2
  rw [← hq _ _ _ _ _ _ _ _ _ _ _ _ _ _ _ _ hr] at c2
  exact lw_c6 (mc := 0) (ms := 0) (mc2 := 0) (ms2 := 0) hC hl ⟨by decide, by decide⟩ hM rfl rfl ⟨by decide, by decide⟩ rfl rfl ⟨by decide, by decide⟩ ha.bo ha.mo ⟨by show 1000 + 100 * t + 0 + 0 ≤ 601024; omega, by show 14000 + 2000 * t + 0 + 0 ≤ 7293034; omega⟩ c1 c2 (fun ls1 H1 locs1 n5 hl1 hM1 => W.widen (by omega) (by omega) (kk ls1 H1 locs1 n5 _ hl1 ⟨g, G, F, sf, inp, out, upd Fm 0 0, w, av, od, sv, sl, nz, ip, ot, ha.mod, hs _ _ _ _ _ _ _ _ _ _ _ _ _ _ _ _ hr⟩ hM1))
theorem lw_n7 (l : Launch) {REL : lw_RT} (hC : me_cx ws_all p c cL_law 10 s args m RL D tb X z0) (hL : L ≤ 3072) (hs : ∀ t g G F sf inp out Fm w av od sv sl nz ip ot, REL t g G F sf inp out Fm w av od sv sl nz ip ot → REL (t + 1) g G F sf inp out (upd Fm 0 0) w av od sv sl nz ip ot) (hq : ∀ t g G F sf inp out Fm w av od sv sl nz ip ot, REL t g G F sf inp out Fm w av od sv sl nz ip ot → g 1 = w 1) : lw_ck p l e room_1 s m args below meth c Q D z0 b L z0 (z0 + 919) (z0 + 929) (z0 + 930) (lw_LR REL tb z0) 505 := by
  intro t n M ls H locs h6 hR hM hl kk
  obtain ⟨g, G, F, sf, inp, out, Fm, w, av, od, sv, sl, nz, ip, ot, ha, hr⟩ := hR
  have c1 := c_X7_lateFee l D tb X z0 n z0 g G F sf inp out M 0 0 0 0
  have c2 := c_X8_lateFee l D tb X z0 n (z0 + 919) Fm w av od sv sl nz ip ot M
  rw [ha.1] at c1
  rw [ha.2.1] at c2
  rw [← hq _ _ _ _ _ _ _ _ _ _ _ _ _ _ _ _ hr] at c2
  exact lw_c7 (mc := 0) (ms := 0) (mc2 := 0) (ms2 := 0) hC hl ⟨by decide, by decide⟩ hM rfl rfl ⟨by decide, by decide⟩ rfl rfl ⟨by decide, by decide⟩ ha.bo ha.mo ⟨by show 1000 + 100 * t + 0 + 0 ≤ 601024; omega, by show 14000 + 2000 * t + 0 + 0 ≤ 7293034; omega⟩ c1 c2 (fun ls1 H1 locs1 n5 hl1 hM1 => W.widen (by omega) (by omega) (kk ls1 H1 locs1 n5 _ hl1 ⟨g, G, F, sf, inp, out, upd Fm 0 0, w, av, od, sv, sl, nz, ip, ot, ha.mod, hs _ _ _ _ _ _ _ _ _ _ _ _ _ _ _ _ hr⟩ hM1))
theorem lw_n8 (l : Launch) {REL : lw_RT} (hC : me_cx ws_all p c cL_law 10 s args m RL D tb X z0) (hL : L ≤ 3072) (hs : ∀ t g G F sf inp out Fm w av od sv sl nz ip ot, REL t g G F sf inp out Fm w av od sv sl nz ip ot → REL (t + 1) g G F sf inp out (upd Fm 0 0) w av od sv sl nz ip ot) (hq : ∀ t g G F sf inp out Fm w av od sv sl nz ip ot, REL t g G F sf inp out Fm w av od sv sl nz ip ot → g 3 = w 3) : lw_ck p l e room_1 s m args below meth c Q D z0 b L z0 (z0 + 919) (z0 + 929) (z0 + 930) (lw_LR REL tb z0) 518 := by
  intro t n M ls H locs h6 hR hM hl kk
  obtain ⟨g, G, F, sf, inp, out, Fm, w, av, od, sv, sl, nz, ip, ot, ha, hr⟩ := hR
  have c1 := c_X7_streetCount l D tb X z0 n z0 g G F sf inp out M 0 0 0 0
  have c2 := c_X8_streetCount l D tb X z0 n (z0 + 919) Fm w av od sv sl nz ip ot M
  rw [ha.1] at c1
  rw [ha.2.1] at c2
  rw [← hq _ _ _ _ _ _ _ _ _ _ _ _ _ _ _ _ hr] at c2
  exact lw_c8 (mc := 0) (ms := 0) (mc2 := 0) (ms2 := 0) hC hl ⟨by decide, by decide⟩ hM rfl rfl ⟨by decide, by decide⟩ rfl rfl ⟨by decide, by decide⟩ ha.bo ha.mo ⟨by show 1000 + 100 * t + 0 + 0 ≤ 601024; omega, by show 14000 + 2000 * t + 0 + 0 ≤ 7293034; omega⟩ c1 c2 (fun ls1 H1 locs1 n5 hl1 hM1 => W.widen (by omega) (by omega) (kk ls1 H1 locs1 n5 _ hl1 ⟨g, G, F, sf, inp, out, upd Fm 0 0, w, av, od, sv, sl, nz, ip, ot, ha.mod, hs _ _ _ _ _ _ _ _ _ _ _ _ _ _ _ _ hr⟩ hM1))
theorem lw_n9 (l : Launch) {REL : lw_RT} (hC : me_cx ws_all p c cL_law 10 s args m RL D tb X z0) (hL : L ≤ 3072) (hs : ∀ t g G F sf inp out Fm w av od sv sl nz ip ot, REL t g G F sf inp out Fm w av od sv sl nz ip ot → REL (t + 1) g G F sf inp out (upd Fm 0 0) w av od sv sl nz ip ot) (hq : ∀ t g G F sf inp out Fm w av od sv sl nz ip ot, REL t g G F sf inp out Fm w av od sv sl nz ip ot → g 4 = w 4) : lw_ck p l e room_1 s m args below meth c Q D z0 b L z0 (z0 + 919) (z0 + 929) (z0 + 930) (lw_LR REL tb z0) 531 := by
  intro t n M ls H locs h6 hR hM hl kk
  obtain ⟨g, G, F, sf, inp, out, Fm, w, av, od, sv, sl, nz, ip, ot, ha, hr⟩ := hR
  have c1 := c_X7_borrowerCount l D tb X z0 n z0 g G F sf inp out M 0 0 0 0
  have c2 := c_X8_borrowerCount l D tb X z0 n (z0 + 919) Fm w av od sv sl nz ip ot M
  rw [ha.1] at c1
  rw [ha.2.1] at c2
  rw [← hq _ _ _ _ _ _ _ _ _ _ _ _ _ _ _ _ hr] at c2
  exact lw_c9 (mc := 0) (ms := 0) (mc2 := 0) (ms2 := 0) hC hl ⟨by decide, by decide⟩ hM rfl rfl ⟨by decide, by decide⟩ rfl rfl ⟨by decide, by decide⟩ ha.bo ha.mo ⟨by show 1000 + 100 * t + 0 + 0 ≤ 601024; omega, by show 14000 + 2000 * t + 0 + 0 ≤ 7293034; omega⟩ c1 c2 (fun ls1 H1 locs1 n5 hl1 hM1 => W.widen (by omega) (by omega) (kk ls1 H1 locs1 n5 _ hl1 ⟨g, G, F, sf, inp, out, upd Fm 0 0, w, av, od, sv, sl, nz, ip, ot, ha.mod, hs _ _ _ _ _ _ _ _ _ _ _ _ _ _ _ _ hr⟩ hM1))
theorem lw_n10 (l : Launch) {REL : lw_RT} (hC : me_cx ws_all p c cL_law 10 s args m RL D tb X z0) (hL : L ≤ 3072) (hs : ∀ t g G F sf inp out Fm w av od sv sl nz ip ot, REL t g G F sf inp out Fm w av od sv sl nz ip ot → REL (t + 1) g G F sf inp out (upd Fm 0 0) w av od sv sl nz ip ot) (hq : ∀ t g G F sf inp out Fm w av od sv sl nz ip ot, REL t g G F sf inp out Fm w av od sv sl nz ip ot → g 6 = w 6) : lw_ck p l e room_1 s m args below meth c Q D z0 b L z0 (z0 + 919) (z0 + 929) (z0 + 930) (lw_LR REL tb z0) 544 := by
  intro t n M ls H locs h6 hR hM hl kk
  obtain ⟨g, G, F, sf, inp, out, Fm, w, av, od, sv, sl, nz, ip, ot, ha, hr⟩ := hR
  have c1 := c_X7_loanCount l D tb X z0 n z0 g G F sf inp out M 0 0 0 0
  have c2 := c_X8_loanCount l D tb X z0 n (z0 + 919) Fm w av od sv sl nz ip ot M
  rw [ha.1] at c1
  rw [ha.2.1] at c2
  rw [← hq _ _ _ _ _ _ _ _ _ _ _ _ _ _ _ _ hr] at c2
  exact lw_c10 (mc := 0) (ms := 0) (mc2 := 0) (ms2 := 0) hC hl ⟨by decide, by decide⟩ hM rfl rfl ⟨by decide, by decide⟩ rfl rfl ⟨by decide, by decide⟩ ha.bo ha.mo ⟨by show 1000 + 100 * t + 0 + 0 ≤ 601024; omega, by show 14000 + 2000 * t + 0 + 0 ≤ 7293034; omega⟩ c1 c2 (fun ls1 H1 locs1 n5 hl1 hM1 => W.widen (by omega) (by omega) (kk ls1 H1 locs1 n5 _ hl1 ⟨g, G, F, sf, inp, out, upd Fm 0 0, w, av, od, sv, sl, nz, ip, ot, ha.mod, hs _ _ _ _ _ _ _ _ _ _ _ _ _ _ _ _ hr⟩ hM1))
theorem lw_n11 (l : Launch) {REL : lw_RT} (hC : me_cx ws_all p c cL_law 10 s args m RL D tb X z0) (hL : L ≤ 3072) (hs : ∀ t g G F sf inp out Fm w av od sv sl nz ip ot, REL t g G F sf inp out Fm w av od sv sl nz ip ot → REL (t + 1) g G F sf inp out (upd Fm 0 0) w av od sv sl nz ip ot) (hq : ∀ t g G F sf inp out Fm w av od sv sl nz ip ot, REL t g G F sf inp out Fm w av od sv sl nz ip ot → g 5 = w 5) : lw_ck p l e room_1 s m args below meth c Q D z0 b L z0 (z0 + 919) (z0 + 929) (z0 + 930) (lw_LR REL tb z0) 557 := by
  intro t n M ls H locs h6 hR hM hl kk
  obtain ⟨g, G, F, sf, inp, out, Fm, w, av, od, sv, sl, nz, ip, ot, ha, hr⟩ := hR
  have c1 := c_X7_permitCount l D tb X z0 n z0 g G F sf inp out M 0 0 0 0
  have c2 := c_X8_permitCount l D tb X z0 n (z0 + 919) Fm w av od sv sl nz ip ot M
  rw [ha.1] at c1
  rw [ha.2.1] at c2
  rw [← hq _ _ _ _ _ _ _ _ _ _ _ _ _ _ _ _ hr] at c2
  exact lw_c11 (mc := 0) (ms := 0) (mc2 := 0) (ms2 := 0) hC hl ⟨by decide, by decide⟩ hM rfl rfl ⟨by decide, by decide⟩ rfl rfl ⟨by decide, by decide⟩ ha.bo ha.mo ⟨by show 1000 + 100 * t + 0 + 0 ≤ 601024; omega, by show 14000 + 2000 * t + 0 + 0 ≤ 7293034; omega⟩ c1 c2 (fun ls1 H1 locs1 n5 hl1 hM1 => W.widen (by omega) (by omega) (kk ls1 H1 locs1 n5 _ hl1 ⟨g, G, F, sf, inp, out, upd Fm 0 0, w, av, od, sv, sl, nz, ip, ot, ha.mod, hs _ _ _ _ _ _ _ _ _ _ _ _ _ _ _ _ hr⟩ hM1))
theorem lw_n13 (l : Launch) {REL : lw_RT} (hC : me_cx ws_all p c cL_law 10 s args m RL D tb X z0) (hL : L ≤ 3072) (hs : ∀ t g G F sf inp out Fm w av od sv sl nz ip ot, REL t g G F sf inp out Fm w av od sv sl nz ip ot → REL (t + 1) g G F sf inp out (upd Fm 0 0) w av od sv sl nz ip ot) (hq : ∀ t g G F sf inp out Fm w av od sv sl nz ip ot, REL t g G F sf inp out Fm w av od sv sl nz ip ot → F 5 = Fm 1) : lw_ck p l e room_1 s m args below meth c Q D z0 b L z0 (z0 + 919) (z0 + 929) (z0 + 930) (lw_LR REL tb z0) 626 := by
  intro t n M ls H locs h6 hR hM hl kk
  obtain ⟨g, G, F, sf, inp, out, Fm, w, av, od, sv, sl, nz, ip, ot, ha, hr⟩ := hR
  have c1 := c_X7_undoCount l D tb X z0 n z0 g G F sf inp out M 0 0 0 0
  have c2 := c_X8_undoCount l D tb X z0 n (z0 + 919) Fm w av od sv sl nz ip ot M
  rw [ha.1] at c1
  rw [ha.2.1] at c2
  rw [← hq _ _ _ _ _ _ _ _ _ _ _ _ _ _ _ _ hr] at c2
  exact lw_c13 (mc := 0) (ms := 0) (mc2 := 0) (ms2 := 0) hC hl ⟨by decide, by decide⟩ hM rfl rfl ⟨by decide, by decide⟩ rfl rfl ⟨by decide, by decide⟩ ha.bo ha.mo ⟨by show 1000 + 100 * t + 0 + 0 ≤ 601024; omega, by show 14000 + 2000 * t + 0 + 0 ≤ 7293034; omega⟩ c1 c2 (fun ls1 H1 locs1 n5 hl1 hM1 => W.widen (by omega) (by omega) (kk ls1 H1 locs1 n5 _ hl1 ⟨g, G, F, sf, inp, out, upd Fm 0 0, w, av, od, sv, sl, nz, ip, ot, ha.mod, hs _ _ _ _ _ _ _ _ _ _ _ _ _ _ _ _ hr⟩ hM1))
end LQ1
