/-! ===== permits, loans, whistles, hours ===== -/
section LNT
variable {t g w sl nz : Nat → Int32} {len N S B L P T : Nat} {p : PS} {q : QS}
theorem ag_cpI (h : ag S B L P g w) (hW : wf w S B L P) (st f n : Int32) : fi (fun k => cpP g L st f n k) L 0 = fi (fun k => cpP w L st f n k) L 0 := fi_eq L 0 (fun j _ hj => by
  show (hdK g j f n ∧ g (89 + 11 * ow g j) = st) ↔ (hdK w j f n ∧ w (89 + 11 * ow w j) = st)
  rw [ag_hd h (by omega), ag_ow h (by omega), show g (89 + 11 * ow w j) = w (89 + 11 * ow w j) from h.2.2.1 _ 0 (hW.2.2.2.2.2.2.2.2.2 j (by omega)).2 (by decide)])
theorem ln_pm (hW : wf w S B L P) (hV : RV N S B L P g w) (h : RK t len p q) (hz : pEk p = 0) : YR t len N (rW (pmL t len (g, S, B, L, P, p)) (nxP t len (rp (pmL t len (g, S, B, L, P, p))))) (rpY t len w sl nz S B L P q) := by
  unfold rpY
  have hP := hW.2.2.2.2.2.2.2.1
  by_cases c8 : P = 10
  · rw [if_pos c8]
    have e0 : pm0 (g, S, B, L, P, p) = flP 5 p := fc_t c8
    have z5 : ¬ pEk (flP 5 p) = 0 := zk_fl (by omega)
    have e3 : pm4 t len (g, S, B, L, P, p) = flP 5 p := by
      have e2 : pm3 t len (g, S, B, L, P, p) = flP 5 p := by
        unfold pm3 pm2 pm1
        rw [e0, ks_id z5, nu_id z5, nu_id z5]
      unfold pm4
      rw [e2]
      exact fc_id z5
    have eL : pmL t len (g, S, B, L, P, p) = (g, S, B, L, P, flP 5 p) := by
      unfold pmL
      rw [e3, if_neg z5]
    rw [eL]
    exact yr_fl5 h.1 (by omega) (by omega)
  · rw [if_neg c8]
    have e0 : pm0 (g, S, B, L, P, p) = p := fc_f c8
    have e2 : g 2 = w 2 := ag_n hV.1 (by decide)
    have a1 := rb_nx1 h hz
    obtain ⟨p1, h1⟩ : ∃ z, ks1 t len g S p = z := ⟨_, rfl⟩
    obtain ⟨s1, hs1⟩ : ∃ z, nuV t len (w 2) (w 2 + 48 - 1) p1 = z := ⟨_, rfl⟩
    obtain ⟨p2, h2⟩ : ∃ z, nuP t len (w 2) (w 2 + 48 - 1) p1 = z := ⟨_, rfl⟩
    obtain ⟨p3, h3⟩ : ∃ z, nuP t len 1 (mnF 12 (w 2 + 48 - s1)) p2 = z := ⟨_, rfl⟩
    obtain ⟨n1, hn1⟩ : ∃ z, nuV t len 1 (mnF 12 (w 2 + 48 - s1)) p2 = z := ⟨_, rfl⟩
    obtain ⟨v1, hv1⟩ : ∃ z, ksV t len g S p = z := ⟨_, rfl⟩
    obtain ⟨qA, hA⟩ : ∃ z, tsQ t len w sl S (mxP t len q) = z := ⟨_, rfl⟩
    obtain ⟨qB, hB⟩ : ∃ z, tnQ t len (w 2) (w 2 + 48 - 1) qA = z := ⟨_, rfl⟩
    obtain ⟨sT, hT⟩ : ∃ z, heV (w 2) (w 2 + 48 - 1) qA = z := ⟨_, rfl⟩
    obtain ⟨qC, hC⟩ : ∃ z, heQ 1 (mnF 12 (w 2 + 48 - sT)) qB = z := ⟨_, rfl⟩
    obtain ⟨nT, hnT⟩ : ∃ z, heV 1 (mnF 12 (w 2 + 48 - sT)) qB = z := ⟨_, rfl⟩
    obtain ⟨vT, hvT⟩ : ∃ z, tsR t len w sl S (mxP t len q) = z := ⟨_, rfl⟩
    have i1 : pm1 t len (g, S, B, L, P, p) = p1 := by unfold pm1; rw [e0]; exact h1
    have iV : pmV t len (g, S, B, L, P, p) = v1 := by unfold pmV; rw [e0]; exact hv1
    have i2 : pm2 t len (g, S, B, L, P, p) = p2 := by
      unfold pm2
      rw [i1]
      show nuP t len (g 2) (g 2 + 48 - 1) p1 = p2
      rw [e2]; exact h2
    have iS : pmS t len (g, S, B, L, P, p) = s1 := by
      unfold pmS
      rw [i1]
      show nuV t len (g 2) (g 2 + 48 - 1) p1 = s1
      rw [e2]; exact hs1
    have i3 : pm3 t len (g, S, B, L, P, p) = p3 := by
      unfold pm3
      rw [i2, iS]
      show nuP t len 1 (mnF 12 (g 2 + 48 - s1)) p2 = p3
      rw [e2]; exact h3
    have iN : pmN t len (g, S, B, L, P, p) = n1 := by
      unfold pmN
      rw [i2, iS]
      show nuV t len 1 (mnF 12 (g 2 + 48 - s1)) p2 = n1
      rw [e2]; exact hn1
    have jA : rpA t len w sl S q = qA := hA
    have jV : rpV t len w sl S q = vT := hvT
    have jB : rpB t len w sl S q = qB := by unfold rpB; rw [jA, hB]
    have jT : rpT t len w sl S q = sT := by unfold rpT; rw [jA, hT]
    have jC : rpC t len w sl S q = qC := by unfold rpC; rw [jB, jT, hC]
    have jN : rpN t len w sl S q = nT := by unfold rpN; rw [jB, jT, hnT]
    obtain ⟨a3, v3⟩ := st_ks (S := S) hV.2.2.1 a1 h1 hA
    obtain ⟨a6, vv⟩ := two_nuH (a := w 2) (b := w 2 + 48 - 1) (a' := w 2) (b' := w 2 + 48 - 1) (c := 1) (d := mnF 12 (w 2 + 48 - s1)) (c' := 1) (d' := mnF 12 (w 2 + 48 - sT)) a3 ⟨rfl, rfl⟩ (fun z => by rw [hs1, hT] at z; rw [z]; exact ⟨rfl, rfl⟩) h2 h3 hB hC
    rw [hs1, hT, hn1, hnT] at vv
    rw [hv1, hvT] at v3
    have ev : pEk p3 = 0 → v1 = vT ∧ s1 = sT ∧ n1 = nT := fun z3 => by
      obtain ⟨z2, z1, x1, x2⟩ := vv z3
      exact ⟨(v3 z1).2, x1, x2⟩
    have a7 : RK t len (fcP (pEk p3 = 0 ∧ ¬ (fi (fun k => cpP g L v1 s1 n1 k) L 0 = -1 ∧ P < 10)) 6 p3) (if qFl qC = 0 ∧ ¬ (fi (fun k => cpP w L vT sT nT k) L 0 = -1 ∧ P < 10) then erP 6 qC else qC) := by
      refine rk_fc a6 (by omega) (by omega) (fun z3 => ?_)
      obtain ⟨x1, x2, x3⟩ := ev z3
      rw [x1, x2, x3, ag_cpI hV.1 hW]
      exact ⟨fun y => y.2, fun y => ⟨z3, y⟩⟩
    obtain ⟨p4, h4⟩ : ∃ z, fcP (pEk p3 = 0 ∧ ¬ (fi (fun k => cpP g L v1 s1 n1 k) L 0 = -1 ∧ P < 10)) 6 p3 = z := ⟨_, rfl⟩
    obtain ⟨qD, hD⟩ : ∃ z, (if qFl qC = 0 ∧ ¬ (fi (fun k => cpP w L vT sT nT k) L 0 = -1 ∧ P < 10) then erP 6 qC else qC) = z := ⟨_, rfl⟩
    have i4 : pm4 t len (g, S, B, L, P, p) = p4 := by
      unfold pm4
      rw [i3, iV, iS, iN]
      exact h4
    have jD : rpD t len w sl S L P q = qD := by
      unfold rpD
      rw [jC, jV, jT, jN, hD]
    rw [h4, hD] at a7
    rw [jD, jV, jT, jN]
    have ek := rk_ek a7
    by_cases z4 : pEk p4 = 0
    · have eL : pmL t len (g, S, B, L, P, p) = (apF g P v1 s1 n1, S, B, L, P + 1, p4) := by
        unfold pmL
        rw [i4, if_pos z4, iV, iS, iN]
      rw [eL, gl_if (ek.trans z4)]
      have z3 : pEk p3 = 0 := by
        rw [← h4] at z4
        exact (zk_fc (by omega) z4).2
      obtain ⟨x1, x2, x3⟩ := ev z3
      refine yr_mk (rb_nx1 a7 z4) ?_
      rw [x1, x2, x3]
      exact rv_ap hV hW (by omega)
    · have eL : pmL t len (g, S, B, L, P, p) = (g, S, B, L, P, p4) := by
        unfold pmL
        rw [i4, if_neg z4]
      rw [eL, gl_el (fun y => z4 (ek.symm.trans y))]
      show YR t len N (g, S, B, L, P, nxP t len p4) _
      rw [nx_id z4]
      exact yr_fl a7.1 z4
theorem ln_ld (hW : wf w S B L P) (hV : RV N S B L P g w) (hN : N + 2000 ≤ 2000000000) (hT2 : w 2 = nI T) (hT0 : T ≤ 9999) (h : RK t len p q) (hz : pEk p = 0) : YR t len (N + 1860) (rW (ldL t len (g, S, B, L, P, p)) (nxP t len (rp (ldL t len (g, S, B, L, P, p))))) (rlY t len w sl nz S B L P q) := by
  unfold rlY
  have hB12 := hW.2.2.2.1
  have e2 : g 2 = w 2 := ag_n hV.1 (by decide)
  have a1 := rb_nx1 h hz
  obtain ⟨v1, hv1⟩ : ∃ z, bmF g B (nmV t len p) = z := ⟨_, rfl⟩
  obtain ⟨p1, h1⟩ : ∃ z, fcP (bmF g B (nmV t len p) = -1) 3 (nm1 t len p) = z := ⟨_, rfl⟩
  obtain ⟨s1, hs1⟩ : ∃ z, nuV t len (w 2) (w 2 + 48 - 1) p1 = z := ⟨_, rfl⟩
  obtain ⟨p2, h2⟩ : ∃ z, nuP t len (w 2) (w 2 + 48 - 1) p1 = z := ⟨_, rfl⟩
  obtain ⟨p3, h3⟩ : ∃ z, nuP t len 1 (mnF 6 (w 2 + 48 - s1)) p2 = z := ⟨_, rfl⟩
  obtain ⟨n1, hn1⟩ : ∃ z, nuV t len 1 (mnF 6 (w 2 + 48 - s1)) p2 = z := ⟨_, rfl⟩
  obtain ⟨qA, hA⟩ : ∃ z, tbQ t len w sl B (mxP t len q) = z := ⟨_, rfl⟩
  obtain ⟨qB, hB⟩ : ∃ z, tnQ t len (w 2) (w 2 + 48 - 1) qA = z := ⟨_, rfl⟩
  obtain ⟨sT, hT⟩ : ∃ z, heV (w 2) (w 2 + 48 - 1) qA = z := ⟨_, rfl⟩
  obtain ⟨qC, hC⟩ : ∃ z, heQ 1 (mnF 6 (w 2 + 48 - sT)) qB = z := ⟨_, rfl⟩
  obtain ⟨nT, hnT⟩ : ∃ z, heV 1 (mnF 6 (w 2 + 48 - sT)) qB = z := ⟨_, rfl⟩
  obtain ⟨vT, hvT⟩ : ∃ z, tbR t len w sl B (mxP t len q) = z := ⟨_, rfl⟩
  have iV : ldV t len (g, S, B, L, P, p) = v1 := hv1
  have i1 : ld1 t len (g, S, B, L, P, p) = p1 := h1
  have i2 : ld2 t len (g, S, B, L, P, p) = p2 := by
    unfold ld2
    rw [i1]
    show nuP t len (g 2) (g 2 + 48 - 1) p1 = p2
    rw [e2]; exact h2
  have iS : ldS t len (g, S, B, L, P, p) = s1 := by
    unfold ldS
    rw [i1]
    show nuV t len (g 2) (g 2 + 48 - 1) p1 = s1
    rw [e2]; exact hs1
  have i3 : ld3 t len (g, S, B, L, P, p) = p3 := by
    unfold ld3
    rw [i2, iS]
    show nuP t len 1 (mnF 6 (g 2 + 48 - s1)) p2 = p3
    rw [e2]; exact h3
  have iN : ldN t len (g, S, B, L, P, p) = n1 := by
    unfold ldN
    rw [i2, iS]
    show nuV t len 1 (mnF 6 (g 2 + 48 - s1)) p2 = n1
    rw [e2]; exact hn1
  have jA : rlA t len w sl B q = qA := hA
  have jV : rlV t len w sl B q = vT := hvT
  have jB : rlB t len w sl B q = qB := by unfold rlB; rw [jA, hB]
  have jT : rlT t len w sl B q = sT := by unfold rlT; rw [jA, hT]
  have jC : rlC t len w sl B q = qC := by unfold rlC; rw [jB, jT, hC]
  have jN : rlN t len w sl B q = nT := by unfold rlN; rw [jB, jT, hnT]
  obtain ⟨a3, v3⟩ := st_kb (B := B) hV.2.2.1 a1 h1 hA
  obtain ⟨a6, vv⟩ := two_nuH (a := w 2) (b := w 2 + 48 - 1) (a' := w 2) (b' := w 2 + 48 - 1) (c := 1) (d := mnF 6 (w 2 + 48 - s1)) (c' := 1) (d' := mnF 6 (w 2 + 48 - sT)) a3 ⟨rfl, rfl⟩ (fun z => by rw [hs1, hT] at z; rw [z]; exact ⟨rfl, rfl⟩) h2 h3 hB hC
  rw [hs1, hT, hn1, hnT] at vv
  rw [hv1, hvT] at v3
  have ev : pEk p3 = 0 → v1 = vT ∧ s1 = sT ∧ n1 = nT ∧ (∃ b, b < B ∧ v1 = nI b) ∧ ∃ n, n ≤ 6 ∧ n1 = nI n := fun z3 => by
    obtain ⟨z2, z1, x1, x2⟩ := vv z3
    have nz1 : ¬ bmF g B (nmV t len p) = -1 := by
      rw [← h1] at z1
      exact (zk_fc (by omega) z1).1
    obtain ⟨b, hb, eb⟩ := bm_some hB12 nz1
    rw [hv1] at eb
    rw [← h2] at z2
    obtain ⟨s, u1, u2, es⟩ := nu_st hT2 hT0 z2
    rw [hs1] at es
    rw [← h3] at z3
    obtain ⟨n, w1, w2, w3, en⟩ := nu_ln (m := 6) hT2 hT0 (by decide) es u1 u2 z3
    have en2 : n1 = nI n := hn1.symm.trans en
    exact ⟨(v3 z1).2, x1, x2, ⟨b, hb, eb⟩, n, w2, en2⟩
  have a7 : RK t len (fcP (pEk p3 = 0 ∧ ¬ reF g L P v1.toNatClampNeg s1.toNatClampNeg n1.toNatClampNeg = 0) 6 p3) (if qFl qC = 0 ∧ ¬ reF w L P vT.toNatClampNeg sT.toNatClampNeg nT.toNatClampNeg = 0 then erP 6 qC else qC) := by
    refine rk_fc a6 (by omega) (by omega) (fun z3 => ?_)
    obtain ⟨x1, x2, x3, ⟨b, hb, eb⟩, -⟩ := ev z3
    rw [← x1, ← x2, ← x3, eb, nI_clamp (by omega), ag_re hV.1 hW hb]
    exact ⟨fun y => y.2, fun y => ⟨z3, y⟩⟩
  obtain ⟨p4, h4⟩ : ∃ z, fcP (pEk p3 = 0 ∧ ¬ reF g L P v1.toNatClampNeg s1.toNatClampNeg n1.toNatClampNeg = 0) 6 p3 = z := ⟨_, rfl⟩
  obtain ⟨qD, hD⟩ : ∃ z, (if qFl qC = 0 ∧ ¬ reF w L P vT.toNatClampNeg sT.toNatClampNeg nT.toNatClampNeg = 0 then erP 6 qC else qC) = z := ⟨_, rfl⟩
  have i4 : ld4 t len (g, S, B, L, P, p) = p4 := by
    unfold ld4
    rw [i3, iV, iS, iN]
    exact h4
  have jD : rlD t len w sl B L P q = qD := by
    unfold rlD
    rw [jC, jV, jT, jN, hD]
  rw [h4, hD] at a7
  rw [jD, jV, jT, jN]
  have ek := rk_ek a7
  by_cases z4 : pEk p4 = 0
  · have eL : ldL t len (g, S, B, L, P, p) = (adF g L v1.toNatClampNeg s1.toNatClampNeg n1.toNatClampNeg, S, B, L + 1, P, p4) := by
      unfold ldL
      rw [i4, if_pos z4, iV, iS, iN]
    rw [eL, gl_if (ek.trans z4)]
    have zz : ¬ (pEk p3 = 0 ∧ ¬ reF g L P v1.toNatClampNeg s1.toNatClampNeg n1.toNatClampNeg = 0) ∧ pEk p3 = 0 := by
      rw [← h4] at z4
      exact zk_fc (by omega) z4
    obtain ⟨x1, x2, x3, ⟨b, hb, eb⟩, n, n6, en⟩ := ev zz.2
    have hre : reF g L P v1.toNatClampNeg s1.toNatClampNeg n1.toNatClampNeg = 0 := Decidable.of_not_not (fun y => zz.1 ⟨zz.2, y⟩)
    have hL := reF_L (ag_wf hV.1 hW) hre
    refine yr_mk (rb_nx1 a7 z4) ?_
    rw [← x1, ← x2, ← x3, eb, en, nI_clamp (by omega), nI_clamp (by omega)]
    exact rv_ad hV hW hb hL n6 hN
  · have eL : ldL t len (g, S, B, L, P, p) = (g, S, B, L, P, p4) := by
      unfold ldL
      rw [i4, if_neg z4]
    rw [eL, gl_el (fun y => z4 (ek.symm.trans y))]
    show YR t len _ (g, S, B, L, P, nxP t len p4) _
    rw [nx_id z4]
    exact yr_fl a7.1 z4
theorem ln_wh (hW : wf w S B L P) (hV : RV N S B L P g w) (h : RK t len p q) (hz : pEk p = 0) : YR t len N (rW (whL t len (g, S, B, L, P, p)) (nxP t len (rp (whL t len (g, S, B, L, P, p))))) (rwY t len w sl nz S B L P q) := by
  unfold rwY
  have hL30 := hW.2.2.2.2.2.1
  have e6 : g 6 = w 6 := ag_n hV.1 (by decide)
  have a1 := rb_nx1 h hz
  obtain ⟨a2, v2⟩ := rk_nu (a := 0) (b := w 6 - 1) a1
  obtain ⟨p1, h1⟩ : ∃ z, nuP t len 0 (w 6 - 1) p = z := ⟨_, rfl⟩
  obtain ⟨v1, hv1⟩ : ∃ z, nuV t len 0 (w 6 - 1) p = z := ⟨_, rfl⟩
  obtain ⟨qA, hA⟩ : ∃ z, heQ 0 (w 6 - 1) (mxP t len q) = z := ⟨_, rfl⟩
  obtain ⟨vT, hvT⟩ : ∃ z, heV 0 (w 6 - 1) (mxP t len q) = z := ⟨_, rfl⟩
  have i1 : wh1 t len (g, S, B, L, P, p) = p1 := by
    show nuP t len 0 (g 6 - 1) p = p1
    rw [e6]; exact h1
  have iV : whV t len (g, S, B, L, P, p) = v1 := by
    show nuV t len 0 (g 6 - 1) p = v1
    rw [e6]; exact hv1
  have jA : rwA t len w q = qA := hA
  have jV : rwV t len w q = vT := hvT
  have ev : pEk p1 = 0 → v1 = vT ∧ ∃ k, k < L ∧ v1 = nI k := fun z => by
    rw [← h1] at z
    obtain ⟨k, hk, ek⟩ := nu_wh hW.2.2.2.2.1 hL30 z
    have x := v2 z
    rw [hv1, hvT] at x
    exact ⟨x, k, hk, hv1.symm.trans ek⟩
  rw [h1, hA] at a2
  have a7 : RK t len (fcP (pEk p1 = 0 ∧ ¬ whC g v1.toNatClampNeg) 6 p1) (if qFl qA = 0 ∧ ¬ whC w vT.toNatClampNeg then erP 6 qA else qA) := by
    refine rk_fc a2 (by omega) (by omega) (fun z3 => ?_)
    obtain ⟨x1, k, hk, ek⟩ := ev z3
    rw [← x1, ek, nI_clamp (by omega)]
    show (_ ∧ ¬ (g (261 + 5 * k + 4) = 2 ∨ g (261 + 5 * k + 4) = 4)) ↔ _
    rw [hV.1.2.2.2.2 k 4 hk (by decide)]
    exact ⟨fun y => y.2, fun y => ⟨z3, y⟩⟩
  obtain ⟨p4, h4⟩ : ∃ z, fcP (pEk p1 = 0 ∧ ¬ whC g v1.toNatClampNeg) 6 p1 = z := ⟨_, rfl⟩
  obtain ⟨qD, hD⟩ : ∃ z, (if qFl qA = 0 ∧ ¬ whC w vT.toNatClampNeg then erP 6 qA else qA) = z := ⟨_, rfl⟩
  have i4 : wh2 t len (g, S, B, L, P, p) = p4 := by
    unfold wh2
    rw [i1, iV]
    exact h4
  have jD : rwB t len w q = qD := by
    unfold rwB
    rw [jA, jV, hD]
  rw [h4, hD] at a7
  rw [jD, jV]
  have ek := rk_ek a7
  by_cases z4 : pEk p4 = 0
  · have eL : whL t len (g, S, B, L, P, p) = (wsG v1.toNatClampNeg g, S, B, L, P, p4) := by
      unfold whL
      rw [i4, if_pos z4, iV]
    rw [eL, gl_if (ek.trans z4)]
    have zz : pEk p1 = 0 := by
      rw [← h4] at z4
      exact (zk_fc (by omega) z4).2
    obtain ⟨x1, -⟩ := ev zz
    refine yr_mk (rb_nx1 a7 z4) ?_
    rw [← x1]
    exact rv_ws hV hW
  · have eL : whL t len (g, S, B, L, P, p) = (g, S, B, L, P, p4) := by
      unfold whL
      rw [i4, if_neg z4]
    rw [eL, gl_el (fun y => z4 (ek.symm.trans y))]
    show YR t len N (g, S, B, L, P, nxP t len p4) _
    rw [nx_id z4]
    exact yr_fl a7.1 z4
theorem ln_ht (hW : wf w S B L P) (hV : RV N S B L P g w) (hN : N + 300000 ≤ 2000000000) (hT2 : w 2 = nI T) (hT0 : T ≤ 9999) (h : RK t len p q) (hz : pEk p = 0) : YR t len (N + 294030) (rW (htL t len (g, S, B, L, P, p)) (nxP t len (rp (htL t len (g, S, B, L, P, p))))) (rhY t len w sl nz S B L P q) := by
  have e2 : g 2 = w 2 := ag_n hV.1 (by decide)
  have a1 := rb_nx1 h hz
  obtain ⟨a2, v2⟩ := rk_nu (a := 1) (b := mnF 99 (9999 - w 2)) a1
  have a3 : RB t len (nxP t len (nuP t len 1 (mnF 99 (9999 - w 2)) p)) (tnQ t len 1 (mnF 99 (9999 - w 2)) (mxP t len q)) := rb_nx a2
  obtain ⟨k, k1, k2, ek⟩ := nu_ht (t := t) (len := len) (p := p) hT2 hT0
  obtain ⟨p1, h1⟩ : ∃ z, nuP t len 1 (mnF 99 (9999 - w 2)) p = z := ⟨_, rfl⟩
  obtain ⟨v1, hv1⟩ : ∃ z, nuV t len 1 (mnF 99 (9999 - w 2)) p = z := ⟨_, rfl⟩
  obtain ⟨qA, hA⟩ : ∃ z, tnQ t len 1 (mnF 99 (9999 - w 2)) (mxP t len q) = z := ⟨_, rfl⟩
  obtain ⟨vT, hvT⟩ : ∃ z, heV 1 (mnF 99 (9999 - w 2)) (mxP t len q) = z := ⟨_, rfl⟩
  have z0 : ¬ pEk p1 = 0 → v1 = 0 := fun z => by
    rw [← h1] at z
    exact hv1.symm.trans (nu_0 z)
  have iP : htP t len (g, S, B, L, P, p) = p1 := by
    show nuP t len 1 (mnF 99 (9999 - g 2)) p = p1
    rw [e2]; exact h1
  have iV : htV t len (g, S, B, L, P, p) = v1 := by
    show nuV t len 1 (mnF 99 (9999 - g 2)) p = v1
    rw [e2]; exact hv1
  have jA : rhA t len w q = qA := hA
  have jV : rhV t len w q = vT := hvT
  rw [h1, hA] at a3
  rw [h1, hv1, hvT] at v2
  rw [hv1] at ek
  have ekk := rb_ek a3
  have jN : pEk p1 = 0 → rhN t len w q = k := fun z => by
    unfold rhN
    rw [jA, jV, gl_if (ekk.trans z), ← v2 z, ek]
    exact nI_clamp (by omega)
  have eL : htL t len (g, S, B, L, P, p) = (paG S B L P k g, S, B, L, P, p1) := by
    unfold htL
    rw [iP, iV, ek, nI_clamp (by omega)]
  have eY : rhY t len w sl nz S B L P q = ((mpS S B L P (rhN t len w q) (w, nz)).1, sl, (mpS S B L P (rhN t len w q) (w, nz)).2, S, B, L, P, qA) := by
    unfold rhY
    rw [jA]
  rw [eL, eY]
  refine ⟨a3, fun z => ⟨rfl, rfl, rfl, rfl, ?_⟩⟩
  have z1 : pEk p1 = 0 := nx_ek.symm.trans z
  have hk : 2970 * k ≤ 294030 := Nat.le_trans (Nat.mul_le_mul_left 2970 k1) (by decide)
  have hk2 : N + 2970 * k ≤ N + 294030 := Nat.add_le_add_left hk N
  have hk3 : N + 294030 ≤ 2000000000 := by omega
  have r := rv_hours (nz := nz) hV hW k (Nat.le_trans hk2 hk3)
  show RV (N + 294030) S B L P (paG S B L P k g) (mpS S B L P (rhN t len w q) (w, nz)).1
  rw [jN z1]
  exact rv_mono r hk2
end LNT
