/-! ===== a text that both read ===== -/
section TXR
variable {t g w sl nz : Nat → Int32} {len N N' S B L P T : Nat} {p : PS} {q : QS}
theorem yr_mono {x : PR} {y : YM} (h : YR t len N x y) (hN : N ≤ N') : YR t len N' x y := ⟨h.1, fun z => ⟨(h.2 z).1, (h.2 z).2.1, (h.2 z).2.2.1, (h.2 z).2.2.2.1, rv_mono (h.2 z).2.2.2.2 hN⟩⟩
theorem st_id (z : ¬ pEk p = 0) : stL t len (g, S, B, L, P, p) = (g, S, B, L, P, p) := by
  have e0 : st0 (g, S, B, L, P, p) = p := fc_id z
  have e3 : st3 t len (g, S, B, L, P, p) = p := by
    unfold st3 st2 st1
    rw [e0, nm_id z, fc_id z, nu_id z, nu_id z]
  unfold stL
  rw [e3, if_neg z]
theorem bo_id (z : ¬ pEk p = 0) : boL t len (g, S, B, L, P, p) = (g, S, B, L, P, p) := by
  have e0 : bo0 (g, S, B, L, P, p) = p := fc_id z
  have e3 : bo4 t len (g, S, B, L, P, p) = p := by
    unfold bo4 bo3 bo2 bo1
    rw [e0, nm_id z, fc_id z, ks_id z, nu_id z, nu_id z]
  unfold boL
  rw [e3, if_neg z]
theorem pm_id (z : ¬ pEk p = 0) : pmL t len (g, S, B, L, P, p) = (g, S, B, L, P, p) := by
  have e0 : pm0 (g, S, B, L, P, p) = p := fc_id z
  have e2 : pm3 t len (g, S, B, L, P, p) = p := by
    unfold pm3 pm2 pm1
    rw [e0, ks_id z, nu_id z, nu_id z]
  have e3 : pm4 t len (g, S, B, L, P, p) = p := by
    unfold pm4
    rw [e2]
    exact fc_id z
  unfold pmL
  rw [e3, if_neg z]
theorem ld_id (z : ¬ pEk p = 0) : ldL t len (g, S, B, L, P, p) = (g, S, B, L, P, p) := by
  have e1 : ld1 t len (g, S, B, L, P, p) = p := by
    unfold ld1
    show fcP _ 3 (nm1 t len p) = p
    rw [nm_id z]
    exact fc_id z
  have e2 : ld3 t len (g, S, B, L, P, p) = p := by
    unfold ld3 ld2
    rw [e1, nu_id z, nu_id z]
  have e3 : ld4 t len (g, S, B, L, P, p) = p := by
    unfold ld4
    rw [e2]
    exact fc_id z
  unfold ldL
  rw [e3, if_neg z]
theorem wh_id (z : ¬ pEk p = 0) : whL t len (g, S, B, L, P, p) = (g, S, B, L, P, p) := by
  have e2 : wh1 t len (g, S, B, L, P, p) = p := nu_id z
  have e3 : wh2 t len (g, S, B, L, P, p) = p := by
    unfold wh2
    rw [e2]
    exact fc_id z
  unfold whL
  rw [e3, if_neg z]
theorem ds_id (z : ¬ pEk p = 0) : ∃ g', dsL t len (g, S, B, L, P, p) = (g', S, B, L, P, p) := by
  unfold dsL
  split
  · exact ⟨g, st_id z⟩
  split
  · exact ⟨g, bo_id z⟩
  split
  · exact ⟨g, pm_id z⟩
  split
  · exact ⟨g, ld_id z⟩
  split
  · exact ⟨g, wh_id z⟩
  split
  · have e : htP t len (g, S, B, L, P, p) = p := nu_id z
    refine ⟨paG S B L P (htV t len (g, S, B, L, P, p)).toNatClampNeg g, ?_⟩
    unfold htL
    rw [e]
  · refine ⟨g, ?_⟩
    show (g, S, B, L, P, flP 1 p) = _
    rw [fl_id z]
/-- the rest of a line, from its word on -/
theorem ds_ok (hW : wf w S B L P) (hV : RV N S B L P g w) (hN9 : 999 ≤ N) (hN : N + 300000 ≤ 2000000000) (hT2 : w 2 = nI T) (hT0 : T ≤ 9999) (h : RB t len p q) (hz : pEk p = 0) : YR t len (N + 294030) (rW (dsL t len (g, S, B, L, P, p)) (nxP t len (rp (dsL t len (g, S, B, L, P, p))))) (rnY t len w sl nz S B L P q) := by
  by_cases c1 : wdB t 1 p
  · have e1 : dsL t len (g, S, B, L, P, p) = stL t len (g, S, B, L, P, p) := if_pos c1
    have e2 : rnY t len w sl nz S B L P q = rsY t len w sl nz S B L P q := if_pos ((wd_ke (by decide) h hz).mp c1)
    rw [e1, e2]
    exact yr_mono (ln_st hW hV (rk_wd h (fun _ => c1.1)) hz) (by omega)
  have k1 : ¬ keP t 1 q := fun y => c1 ((wd_ke (by decide) h hz).mpr y)
  by_cases c2 : wdB t 2 p
  · have e1 : dsL t len (g, S, B, L, P, p) = boL t len (g, S, B, L, P, p) := (if_neg c1).trans (if_pos c2)
    have e2 : rnY t len w sl nz S B L P q = rbY t len w sl nz S B L P q := (if_neg k1).trans (if_pos ((wd_ke (by decide) h hz).mp c2))
    rw [e1, e2]
    exact yr_mono (ln_bo hW hV hN9 (rk_wd h (fun _ => c2.1)) hz) (by omega)
  have k2 : ¬ keP t 2 q := fun y => c2 ((wd_ke (by decide) h hz).mpr y)
  by_cases c3 : wdB t 3 p
  · have e1 : dsL t len (g, S, B, L, P, p) = pmL t len (g, S, B, L, P, p) := (if_neg c1).trans ((if_neg c2).trans (if_pos c3))
    have e2 : rnY t len w sl nz S B L P q = rpY t len w sl nz S B L P q := (if_neg k1).trans ((if_neg k2).trans (if_pos ((wd_ke (by decide) h hz).mp c3)))
    rw [e1, e2]
    exact yr_mono (ln_pm hW hV (rk_wd h (fun _ => c3.1)) hz) (by omega)
  have k3 : ¬ keP t 3 q := fun y => c3 ((wd_ke (by decide) h hz).mpr y)
  by_cases c4 : wdB t 4 p
  · have e1 : dsL t len (g, S, B, L, P, p) = ldL t len (g, S, B, L, P, p) := (if_neg c1).trans ((if_neg c2).trans ((if_neg c3).trans (if_pos c4)))
    have e2 : rnY t len w sl nz S B L P q = rlY t len w sl nz S B L P q := (if_neg k1).trans ((if_neg k2).trans ((if_neg k3).trans (if_pos ((wd_ke (by decide) h hz).mp c4))))
    rw [e1, e2]
    exact yr_mono (ln_ld hW hV (by omega) hT2 hT0 (rk_wd h (fun _ => c4.1)) hz) (by omega)
  have k4 : ¬ keP t 4 q := fun y => c4 ((wd_ke (by decide) h hz).mpr y)
  by_cases c5 : wdB t 5 p
  · have e1 : dsL t len (g, S, B, L, P, p) = whL t len (g, S, B, L, P, p) := (if_neg c1).trans ((if_neg c2).trans ((if_neg c3).trans ((if_neg c4).trans (if_pos c5))))
    have e2 : rnY t len w sl nz S B L P q = rwY t len w sl nz S B L P q := (if_neg k1).trans ((if_neg k2).trans ((if_neg k3).trans ((if_neg k4).trans (if_pos ((wd_ke (by decide) h hz).mp c5)))))
    rw [e1, e2]
    exact yr_mono (ln_wh hW hV (rk_wd h (fun _ => c5.1)) hz) (by omega)
  have k5 : ¬ keP t 5 q := fun y => c5 ((wd_ke (by decide) h hz).mpr y)
  by_cases c6 : wdB t 6 p
  · have e1 : dsL t len (g, S, B, L, P, p) = htL t len (g, S, B, L, P, p) := (if_neg c1).trans ((if_neg c2).trans ((if_neg c3).trans ((if_neg c4).trans ((if_neg c5).trans (if_pos c6)))))
    have e2 : rnY t len w sl nz S B L P q = rhY t len w sl nz S B L P q := (if_neg k1).trans ((if_neg k2).trans ((if_neg k3).trans ((if_neg k4).trans ((if_neg k5).trans (if_pos ((wd_ke (by decide) h hz).mp c6))))))
    rw [e1, e2]
    exact ln_ht hW hV hN hT2 hT0 (rk_wd h (fun _ => c6.1)) hz
  have k6 : ¬ keP t 6 q := fun y => c6 ((wd_ke (by decide) h hz).mpr y)
  have e1 : dsL t len (g, S, B, L, P, p) = (g, S, B, L, P, flP 1 p) := (if_neg c1).trans ((if_neg c2).trans ((if_neg c3).trans ((if_neg c4).trans ((if_neg c5).trans (if_neg c6)))))
  have e2 : rnY t len w sl nz S B L P q = (w, sl, nz, S, B, L, P, erP 1 q) := (if_neg k1).trans ((if_neg k2).trans ((if_neg k3).trans ((if_neg k4).trans ((if_neg k5).trans (if_neg k6)))))
  rw [e1, e2]
  exact yr_fl5 h (by omega) (by omega)
theorem ln_ok (hW : wf w S B L P) (hV : RV N S B L P g w) (hN9 : 999 ≤ N) (hN : N + 300000 ≤ 2000000000) (hT2 : w 2 = nI T) (hT0 : T ≤ 9999) (h : RB t len p q) (hz : pEk p = 0) : YR t len (N + 294030) (lnL t len (g, S, B, L, P, p)) (ltY t len (w, sl, nz, S, B, L, P, q)) := by
  have hk := rb_kd h hz
  by_cases c3 : pTk p = 3
  · have e0 : ln0 t len (g, S, B, L, P, p) = (g, S, B, L, P, nxP t len p) := by
      unfold ln0
      show (g, S, B, L, P, nxP t len (fcP (¬ pTk p = 3) 1 p)) = _
      rw [fc_f (fun y => y c3)]
    have eY : ltY t len (w, sl, nz, S, B, L, P, q) = rnY t len w sl nz S B L P (mxP t len q) := if_pos (hk.2.1.mp c3)
    have a1 := rb_nx1 (rk_sc h (fun _ => c3)) hz
    have z1 : pEk (nxP t len p) = 0 := nx_ek.trans hz
    unfold lnL
    rw [e0, eY]
    exact ds_ok hW hV hN9 hN hT2 hT0 a1 z1
  · have z5 : ¬ pEk (flP 1 p) = 0 := zk_fl (by omega)
    have e0 : ln0 t len (g, S, B, L, P, p) = (g, S, B, L, P, flP 1 p) := by
      unfold ln0
      show (g, S, B, L, P, nxP t len (fcP (¬ pTk p = 3) 1 p)) = _
      rw [fc_t c3, nx_id z5]
    have eY : ltY t len (w, sl, nz, S, B, L, P, q) = (w, sl, nz, S, B, L, P, erP 1 q) := if_neg (fun y => c3 (hk.2.1.mpr y))
    obtain ⟨g', eD⟩ := ds_id (t := t) (len := len) (g := g) (S := S) (B := B) (L := L) (P := P) z5
    unfold lnL
    rw [e0, eD, eY]
    show YR t len (N + 294030) (g', S, B, L, P, nxP t len (flP 1 p)) _
    exact yr_fl5 h (by omega) (by omega)
theorem rb_fin (h : RB t len p q) : (pEk p = 0 ∧ ¬ pTk p = 4) ↔ (qFl q = 0 ∧ ¬ qKd q = 0) := by
  rw [h.2.1]
  constructor
  · rintro ⟨a, b⟩
    exact ⟨a, fun y => b ((rb_kd h a).2.2.1.mpr y)⟩
  · rintro ⟨a, b⟩
    exact ⟨a, fun y => b ((rb_kd h a).2.2.1.mp y)⟩
theorem ar_2 {N K r M : Nat} (h : N + (K * r + K) ≤ M) : N + K ≤ M ∧ N + K + K * r ≤ M ∧ N + K + K * r = N + (K * r + K) := by omega
theorem lo_ok {K : Nat} (hK1 : 294030 ≤ K) (hK2 : 300000 ≤ K) : ∀ (r r' N : Nat) (x : PR) (y : YM), YR t len N x y → okY len y → 999 ≤ N → N + K * r ≤ 2000000000 → (pEk (rp x) = 0 ∧ ¬ pTk (rp x) = 4 → len + 1 ≤ r + qTo (yq y) ∧ len + 1 ≤ r' + qTo (yq y)) → YR t len (N + K * r) (loP t len r x) (loY t len r' y)
  | 0, r', N, x, y, h, hy, _, _, hf => by
    have c : ¬ (pEk (rp x) = 0 ∧ ¬ pTk (rp x) = 4) := fun z => by
      have a := (hf z).1
      have b := hy.2.2.1
      omega
    have c2 : ¬ (qFl (yq y) = 0 ∧ ¬ qKd (yq y) = 0) := fun z => c ((rb_fin h.1).mpr z)
    rw [lo_y0 c2]
    exact h
  | r + 1, r', N, x, y, h, hy, h9, hN, hf => by
    have e : K * (r + 1) = K * r + K := Nat.mul_succ _ _
    rw [e] at hN ⊢
    obtain ⟨n1, n2, n3⟩ := ar_2 hN
    by_cases c : pEk (rp x) = 0 ∧ ¬ pTk (rp x) = 4
    · obtain ⟨f1, f2⟩ := hf c
      have b := hy.2.2.1
      obtain ⟨r2, rfl⟩ : ∃ r2, r' = r2 + 1 := ⟨r' - 1, by omega⟩
      have e1 : loP t len (r + 1) x = loP t len r (lnL t len x) := if_pos c
      rw [e1, lo_y1 ((rb_fin h.1).mp c)]
      obtain ⟨g, S, B, L, P, p⟩ := x
      obtain ⟨w, sl, nz, S', B', L', P', q⟩ := y
      obtain ⟨hR, hRow⟩ := h
      obtain ⟨s1, s2, s3, s4, hV⟩ := hRow c.1
      have s1 : S = S' := s1
      have s2 : B = B' := s2
      have s3 : L = L' := s3
      have s4 : P = P' := s4
      subst s1; subst s2; subst s3; subst s4
      obtain ⟨⟨T, hT, hO⟩, hq⟩ := hy
      have z := ln_ok (sl := sl) (nz := nz) hO.1 hV h9 (by omega) hO.2.2 hT hR c.1
      have hy' : okY len (w, sl, nz, S, B, L, P, q) := ⟨⟨T, hT, hO⟩, hq⟩
      have ih := lo_ok hK1 hK2 r r2 (N + K) (lnL t len (g, S, B, L, P, p)) (ltY t len (w, sl, nz, S, B, L, P, q)) (yr_mono z (by omega)) (fl_ltY hy') (by omega) n2 (fun y => by
        have t1 := to_lt hy' ((z.1.2.1).trans y.1)
        have t2 : qTo q < qTo (yq (ltY t len (w, sl, nz, S, B, L, P, q))) := t1
        have f1 : len + 1 ≤ r + 1 + qTo q := f1
        have f2 : len + 1 ≤ r2 + 1 + qTo q := f2
        omega)
      rw [n3] at ih
      exact ih
    · have e1 : loP t len (r + 1) x = x := if_neg c
      rw [e1, lo_y0 (fun z => c ((rb_fin h.1).mpr z))]
      exact yr_mono h (by omega)
theorem cl_0 (gd : Nat → Int32) : ∀ i, i < 9 → clF gd i = 0 := by
  intro i hi
  unfold clF
  rcases (show i = 0 ∨ i = 1 ∨ i = 2 ∨ i = 3 ∨ i = 4 ∨ i = 5 ∨ i = 6 ∨ i = 7 ∨ i = 8 by omega) with rfl | rfl | rfl | rfl | rfl | rfl | rfl | rfl | rfl <;> simp [upd]
theorem hd_ok (gd : Nat → Int32) (pq : QS) : YR t len 1000 (paH t len (ldx gd)) (txI t len w sl nz pq) ∧ (pEk (rp (paH t len (ldx gd))) = 0 → 1 ≤ qTo (yq (txI t len w sl nz pq))) := by
  have b0 : RB t len (nxP t len ldp) (mxP t len (tx0 pq)) := rb_nx0 ⟨Nat.le_refl _, Nat.zero_le _, by decide, by decide⟩ rfl rfl rfl ⟨rfl, Iff.rfl⟩
  have z1 : pEk (nxP t len ldp) = 0 := nx_ek
  have b3 : RB t len (nxP t len (pa0 t len ldp)) (txB t len pq) ∧ (pEk (pa0 t len ldp) = 0 → 1 ≤ qTo (txB t len pq)) := by
    unfold pa0 txB
    by_cases c : wdB t 0 (nxP t len ldp)
    · have k := (wd_ke (i := 0) (by decide) b0 z1).mp c
      rw [fc_f (fun y => y c), if_pos k]
      refine ⟨rb_nx1 (rk_wd b0 (fun _ => c.1)) z1, fun _ => ?_⟩
      have h1 : qTo (mxP t len (tx0 pq)) ≤ qTo (mxP t len (mxP t len (tx0 pq))) := to_mx
      obtain ⟨-, ht⟩ := (b0.2.2.1 z1).2
      have l6 : pAt (nxP t len ldp) - pTs (nxP t len ldp) = 6 := c.2.1
      have k1 := c.1
      rcases ht with y | y | y | y | y <;> omega
    · have k : ¬ keP t 0 (mxP t len (tx0 pq)) := fun y => c ((wd_ke (i := 0) (by decide) b0 z1).mpr y)
      rw [fc_t c, if_neg k]
      have z5 : ¬ pEk (flP 1 (nxP t len ldp)) = 0 := zk_fl (by omega)
      rw [nx_id z5]
      exact ⟨rb_fl b0 (by omega) (by omega), fun y => absurd y z5⟩
  obtain ⟨p0, h0⟩ : ∃ z, pa0 t len ldp = z := ⟨_, rfl⟩
  obtain ⟨p1, h1⟩ : ∃ z, nuP t len 1 24 p0 = z := ⟨_, rfl⟩
  obtain ⟨p2, h2⟩ : ∃ z, nuP t len 0 99 p1 = z := ⟨_, rfl⟩
  obtain ⟨qB, hB⟩ : ∃ z, txB t len pq = z := ⟨_, rfl⟩
  obtain ⟨qC, hC⟩ : ∃ z, tnQ t len 1 24 qB = z := ⟨_, rfl⟩
  obtain ⟨qD, hD⟩ : ∃ z, tnQ t len 0 99 qC = z := ⟨_, rfl⟩
  rw [h0, hB] at b3
  obtain ⟨b3, b4⟩ := b3
  obtain ⟨b5, vv⟩ := two_nu b3 h1 h2 hC hD
  have i1 : pa1 t len ldp = p1 := by unfold pa1; rw [h0, h1]
  have i2 : pa2 t len ldp = p2 := by unfold pa2; rw [i1, h2]
  have eX : paH t len (ldx gd) = (upd (upd (clF gd) 0 (nuV t len 1 24 p0)) 1 (nuV t len 0 99 p1), 0, 0, 0, 0, nxP t len p2) := by
    show (upd (upd (clF gd) 0 (nuV t len 1 24 (pa0 t len ldp))) 1 (nuV t len 0 99 (pa1 t len ldp)), 0, 0, 0, 0, nxP t len (pa2 t len ldp)) = _
    rw [i2, i1, h0]
  have eY : txI t len w sl nz pq = (upd (upd (zrW w 411) 0 (heV 1 24 qB)) 1 (heV 0 99 qC), sl, nz, 0, 0, 0, 0, qD) := by
    unfold txI txW txQ
    rw [hB, hC, hD]
  rw [eX, eY]
  have t1 : qTo qB ≤ qTo qD := by
    rw [← hD, ← hC]
    exact Nat.le_trans to_tn to_tn
  refine ⟨⟨b5, fun z => ⟨rfl, rfl, rfl, rfl, ?_⟩⟩, fun z => ?_⟩
  · obtain ⟨z2, z3, v1, v2⟩ := vv (nx_ek.symm.trans z)
    have zr : ∀ j, j < 411 → zrW w 411 j = 0 := fun j hj => by
      have := cq_i (d := w) (s := fun _ => 0) (o := 0) hj
      rwa [Nat.zero_add] at this
    have z4 : pEk p2 = 0 := nx_ek.symm.trans z
    rw [← h2] at z4
    obtain ⟨j, j1, j2⟩ := nu_r2 z4
    show RV 1000 0 0 0 0 (upd (upd (clF gd) 0 (nuV t len 1 24 p0)) 1 (nuV t len 0 99 p1)) (upd (upd (zrW w 411) 0 (heV 1 24 qB)) 1 (heV 0 99 qC))
    rw [← v1, ← v2]
    refine ⟨ag_upd (ag_upd ⟨fun i hi => (cl_0 gd i hi).trans (zr i (by omega)).symm, fun k j hk => absurd hk (by omega), fun k j hk => absurd hk (by omega), fun k j hk => absurd hk (by omega), fun k j hk => absurd hk (by omega)⟩ rfl) rfl, fun b hb => absurd hb (by omega), ⟨fun k hk => absurd hk (by omega), fun k hk => absurd hk (by omega)⟩, ⟨j, j1, by rw [upd_s]; exact j2⟩, fun k hk => absurd hk (by omega), fun k hk => absurd hk (by omega), fun k hk => absurd hk (by omega)⟩
  · obtain ⟨z2, z3, v1, v2⟩ := vv (nx_ek.symm.trans z)
    exact Nat.le_trans (b4 z3) t1
/-- what a text makes in both -/
theorem tx_rel (hl : len ≤ 700) (gd : Nat → Int32) (pq : QS) : YR t len 211000000 (ldF t len gd) (txY t len w sl nz pq) := by
  obtain ⟨h1, h2⟩ := hd_ok (t := t) (len := len) (w := w) (sl := sl) (nz := nz) gd pq
  have hm : 300000 * len ≤ 210000000 := Nat.le_trans (Nat.mul_le_mul_left 300000 hl) (by decide)
  have hm2 : 1000 + 300000 * len ≤ 211000000 := Nat.le_trans (Nat.add_le_add_left hm 1000) (by decide)
  have hm3 : 1000 + 300000 * len ≤ 2000000000 := Nat.le_trans hm2 (by decide)
  have z := lo_ok (t := t) (len := len) (K := 300000) (by decide) (by decide) len (len + 1) 1000 (paH t len (ldx gd)) (txI t len w sl nz pq) h1 ok_txI (by decide) hm3 (fun y => by
    have a := h2 y.1
    omega)
  unfold ldF paF txY
  exact yr_mono z hm2
end TXR
