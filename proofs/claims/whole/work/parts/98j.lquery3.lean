section LN3
variable {p : Program} {e : Env} {s : State} {m : MethodId} {args : Array Value} {below : List Frame} {meth : Method} {c : Code} {Q : State → Prop} {REL : lw_RT}
variable {D : va_G} {tb : Nat → ClassId} {X : State → Prop} {z0 b L : Nat} {xs : Nat → Int32}
set_option maxHeartbeats 1000000 in
theorem lw_n18 (l : Launch) (hC : me_cx ws_all p c cL_law 10 s args m RL D tb X z0) (hL : L ≤ 3072) (hgood : lw_good REL) (hkeep : lw_keep REL) : lw_ck p l e room_1 s m args below meth c Q D z0 b L z0 (z0 + 919) (z0 + 929) (z0 + 930) (lw_LR REL tb z0) 875 := by
  intro t n M ls H locs h6 hR hM hl kk
  obtain ⟨g, G, F, sf, inp, out, Fm, w, av, od, sv, sl, nz, ip, ot, ha, hr⟩ := hR
  obtain ⟨S, B, L9, P, T, hag, hO, hT⟩ := hgood _ _ _ _ _ _ _ _ _ _ _ _ _ _ _ _ hr
  have hW := ag_wf hag hO.1
  have hS8 := hO.1.2.1
  have hB12 := hO.1.2.2.2.1
  have c1 := (c_X7_loudestStreet l D tb X z0 n z0 g G F sf inp out M S B L9 P hW)
  have c2 := (c_X8_loudestStreet l D tb X z0 n (z0 + 919) Fm w av od sv sl nz ip ot M S B L9 P T hO hT)
  rw [ha.1] at c1
  rw [ha.2.1] at c2
  have hq := ag_loud hag hS8
  rw [hq] at c1
  exact lw_c18 (mc := 0) (ms := 0) (mc2 := 0) (ms2 := 0) hC hl ⟨by decide, by decide⟩ hM rfl rfl ⟨by decide, by decide⟩ rfl rfl ⟨by decide, by decide⟩ ha.bo ha.mo ⟨by show 1000 + 100 * t + 0 + 0 ≤ 601024; omega, by show 14000 + 2000 * t + 0 + 0 ≤ 7293034; omega⟩ c1 c2 (fun ls1 H1 locs1 n5 hl1 hM1 => W.widen (by omega) (by omega) (kk ls1 H1 locs1 n5 _ hl1 ⟨g, G, F, sf, inp, out, upd Fm 0 0, w, av, od, sv, sl, nz, ip, ot, ha.mod, hkeep _ _ _ _ _ _ _ _ _ _ _ _ _ _ _ _ 0 hr⟩ hM1))
set_option maxHeartbeats 1000000 in
theorem lw_n23 (l : Launch) (hC : me_cx ws_all p c cL_law 10 s args m RL D tb X z0) (hL : L ≤ 3072) (hgood : lw_good REL) (hkeep : lw_keep REL) : lw_ck p l e room_1 s m args below meth c Q D z0 b L z0 (z0 + 919) (z0 + 929) (z0 + 930) (lw_LR REL tb z0) 1112 := by
  intro t n M ls H locs h6 hR hM hl kk
  obtain ⟨g, G, F, sf, inp, out, Fm, w, av, od, sv, sl, nz, ip, ot, ha, hr⟩ := hR
  obtain ⟨S, B, L9, P, T, hag, hO, hT⟩ := hgood _ _ _ _ _ _ _ _ _ _ _ _ _ _ _ _ hr
  have hW := ag_wf hag hO.1
  have hS8 := hO.1.2.1
  have hB12 := hO.1.2.2.2.1
  have c1 := (c_X7_mostIll l D tb X z0 n z0 g G F sf inp out M S B L9 P hW)
  have c2 := (c_X8_mostIll l D tb X z0 n (z0 + 919) Fm w av od sv sl nz ip ot M S B L9 P T hO hT)
  rw [ha.1] at c1
  rw [ha.2.1] at c2
  have hq := ag_ill hag hB12
  rw [hq] at c1
  exact lw_c23 (mc := 0) (ms := 0) (mc2 := 0) (ms2 := 0) hC hl ⟨by decide, by decide⟩ hM rfl rfl ⟨by decide, by decide⟩ rfl rfl ⟨by decide, by decide⟩ ha.bo ha.mo ⟨by show 1000 + 100 * t + 0 + 0 ≤ 601024; omega, by show 14000 + 2000 * t + 0 + 0 ≤ 7293034; omega⟩ c1 c2 (fun ls1 H1 locs1 n5 hl1 hM1 => W.widen (by omega) (by omega) (kk ls1 H1 locs1 n5 _ hl1 ⟨g, G, F, sf, inp, out, upd Fm 0 0, w, av, od, sv, sl, nz, ip, ot, ha.mod, hkeep _ _ _ _ _ _ _ _ _ _ _ _ _ _ _ _ 0 hr⟩ hM1))
set_option maxHeartbeats 1000000 in
theorem lw_n31 (l : Launch) (hC : me_cx ws_all p c cL_law 10 s args m RL D tb X z0) (hL : L ≤ 3072) (hgood : lw_good REL) (hkeep : lw_keep REL) : lw_ck p l e room_1 s m args below meth c Q D z0 b L z0 (z0 + 919) (z0 + 929) (z0 + 930) (lw_LR REL tb z0) 1529 := by
  intro t n M ls H locs h6 hR hM hl kk
  obtain ⟨g, G, F, sf, inp, out, Fm, w, av, od, sv, sl, nz, ip, ot, ha, hr⟩ := hR
  obtain ⟨S, B, L9, P, T, hag, hO, hT⟩ := hgood _ _ _ _ _ _ _ _ _ _ _ _ _ _ _ _ hr
  have hW := ag_wf hag hO.1
  have hS8 := hO.1.2.1
  have hB12 := hO.1.2.2.2.1
  have c1 := (c_X7_freeHours l D tb X z0 n z0 g G F sf inp out M S B L9 P hW)
  have c2 := (c_X8_freeHours l D tb X z0 n (z0 + 919) Fm w av od sv sl nz ip ot M S B L9 P T hO hT)
  rw [ha.1] at c1
  rw [ha.2.1] at c2
  have hq := ag_fr hag hO
  rw [hq] at c1
  exact lw_c31 (mc := 0) (ms := 0) (mc2 := 0) (ms2 := 0) hC hl ⟨by decide, by decide⟩ hM rfl rfl ⟨by decide, by decide⟩ rfl rfl ⟨by decide, by decide⟩ ha.bo ha.mo ⟨by show 1000 + 100 * t + 0 + 0 ≤ 601024; omega, by show 14000 + 2000 * t + 0 + 0 ≤ 7293034; omega⟩ c1 c2 (fun ls1 H1 locs1 n5 hl1 hM1 => W.widen (by omega) (by omega) (kk ls1 H1 locs1 n5 _ hl1 ⟨g, G, F, sf, inp, out, upd Fm 0 0, w, av, od, sv, sl, nz, ip, ot, ha.mod, hkeep _ _ _ _ _ _ _ _ _ _ _ _ _ _ _ _ 0 hr⟩ hM1))
set_option maxHeartbeats 1000000 in
theorem lw_n40 (l : Launch) (hC : me_cx ws_all p c cL_law 10 s args m RL D tb X z0) (hL : L ≤ 3072) (hgood : lw_good REL) (hkeep : lw_keep REL) : lw_ck p l e room_1 s m args below meth c Q D z0 b L z0 (z0 + 919) (z0 + 929) (z0 + 930) (lw_LR REL tb z0) 2131 := by
  intro t n M ls H locs h6 hR hM hl kk
  obtain ⟨g, G, F, sf, inp, out, Fm, w, av, od, sv, sl, nz, ip, ot, ha, hr⟩ := hR
  obtain ⟨S, B, L9, P, T, hag, hO, hT⟩ := hgood _ _ _ _ _ _ _ _ _ _ _ _ _ _ _ _ hr
  have hW := ag_wf hag hO.1
  have hS8 := hO.1.2.1
  have hB12 := hO.1.2.2.2.1
  have c1 := (c_X7_lentShare l D tb X z0 n z0 g G F sf inp out M S B L9 P hW)
  have c2 := (c_X8_lentShare l D tb X z0 n (z0 + 919) Fm w av od sv sl nz ip ot M S B L9 P T hO hT)
  rw [ha.1] at c1
  rw [ha.2.1] at c2
  have hq := ag_sh hag hO
  rw [hq] at c1
  exact lw_c40 (mc := 0) (ms := 0) (mc2 := 0) (ms2 := 0) hC hl ⟨by decide, by decide⟩ hM rfl rfl ⟨by decide, by decide⟩ rfl rfl ⟨by decide, by decide⟩ ha.bo ha.mo ⟨by show 1000 + 100 * t + 0 + 0 ≤ 601024; omega, by show 14000 + 2000 * t + 0 + 0 ≤ 7293034; omega⟩ (lw_n64 (Nat.sub_le 48 _)) c1 c2 (fun ls1 H1 locs1 n5 hl1 hM1 => W.widen (by omega) (by omega) (kk ls1 H1 locs1 n5 _ hl1 ⟨g, G, F, sf, inp, out, upd Fm 0 0, w, av, od, sv, sl, nz, ip, ot, ha.mod, hkeep _ _ _ _ _ _ _ _ _ _ _ _ _ _ _ _ 0 hr⟩ hM1))
set_option maxHeartbeats 1000000 in
theorem lw_n41 (l : Launch) (hC : me_cx ws_all p c cL_law 10 s args m RL D tb X z0) (hL : L ≤ 3072) (hgood : lw_good REL) (hkeep : lw_keep REL) : lw_ck p l e room_1 s m args below meth c Q D z0 b L z0 (z0 + 919) (z0 + 929) (z0 + 930) (lw_LR REL tb z0) 2174 := by
  intro t n M ls H locs h6 hR hM hl kk
  obtain ⟨g, G, F, sf, inp, out, Fm, w, av, od, sv, sl, nz, ip, ot, ha, hr⟩ := hR
  obtain ⟨S, B, L9, P, T, hag, hO, hT⟩ := hgood _ _ _ _ _ _ _ _ _ _ _ _ _ _ _ _ hr
  have hW := ag_wf hag hO.1
  have hS8 := hO.1.2.1
  have hB12 := hO.1.2.2.2.1
  have c1 := (c_X7_ledgerDifference l D tb X z0 n z0 g G F sf inp out M S B L9 P hW)
  have c2 := (c_X8_ledgerDifference l D tb X z0 n (z0 + 919) Fm w av od sv sl nz ip ot M S B L9 P T hO hT)
  rw [ha.1] at c1
  rw [ha.2.1] at c2
  have hq := ag_ld hag hO
  rw [hq] at c1
  exact lw_c41 (mc := 0) (ms := 0) (mc2 := 0) (ms2 := 0) hC hl ⟨by decide, by decide⟩ hM rfl rfl ⟨by decide, by decide⟩ rfl rfl ⟨by decide, by decide⟩ ha.bo ha.mo ⟨by show 1000 + 100 * t + 0 + 0 ≤ 601024; omega, by show 14000 + 2000 * t + 0 + 0 ≤ 7293034; omega⟩ c1 c2 (fun ls1 H1 locs1 n5 hl1 hM1 => W.widen (by omega) (by omega) (kk ls1 H1 locs1 n5 _ hl1 ⟨g, G, F, sf, inp, out, upd Fm 0 0, w, av, od, sv, sl, nz, ip, ot, ha.mod, hkeep _ _ _ _ _ _ _ _ _ _ _ _ _ _ _ _ 0 hr⟩ hM1))
end LN3
