/-! ===== the lines that both read ===== -/
def YR (t : Nat → Int32) (len N : Nat) (x : PR) (y : YM) : Prop := RB t len (rp x) (yq y) ∧ (pEk (rp x) = 0 → rS x = yS y ∧ rB x = yB y ∧ rL x = yL y ∧ rP x = yP y ∧ RV N (rS x) (rB x) (rL x) (rP x) (rG x) (yw y))
theorem rb_ek {t : Nat → Int32} {len : Nat} {p : PS} {q : QS} (h : RB t len (nxP t len p) q) : qFl q = pEk p := h.2.1.trans nx_ek
theorem rk_ek {t : Nat → Int32} {len : Nat} {p : PS} {q : QS} (h : RK t len p q) : qFl q = pEk p := h.1.2.1
theorem yr_1 {t : Nat → Int32} {len N : Nat} {x : PR} {y : YM} (h : RB t len (rp x) (yq y)) (hz : ¬ pEk (rp x) = 0) : YR t len N x y := ⟨h, fun z => absurd z hz⟩
theorem yr_mk {t g w sl nz : Nat → Int32} {len N S B L P : Nat} {p : PS} {q : QS} (h : RB t len p q) (hV : RV N S B L P g w) : YR t len N (g, S, B, L, P, p) (w, sl, nz, S, B, L, P, q) := ⟨h, fun _ => ⟨rfl, rfl, rfl, rfl, hV⟩⟩
theorem yr_fl {t g w sl nz : Nat → Int32} {len N S B L P : Nat} {p : PS} {q : QS} (h : RB t len p q) (hz : ¬ pEk p = 0) : YR t len N (g, S, B, L, P, p) (w, sl, nz, S, B, L, P, q) := ⟨h, fun z => absurd z hz⟩
theorem yr_nf {t g w sl nz : Nat → Int32} {len N S B L P : Nat} {p : PS} {q : QS} (h : RB t len (nxP t len p) q) (hz : ¬ pEk p = 0) : YR t len N (g, S, B, L, P, nxP t len p) (w, sl, nz, S, B, L, P, q) := ⟨h, fun z => absurd (nx_ek.symm.trans z) hz⟩
theorem yr_fl5 {t g w sl nz : Nat → Int32} {len N S B L P kd : Nat} {p : PS} {q : QS} (h : RB t len p q) (hk : 0 < kd) (hk6 : kd ≤ 6) : YR t len N (g, S, B, L, P, nxP t len (flP kd p)) (w, sl, nz, S, B, L, P, erP kd q) := by
  have z5 : ¬ pEk (flP kd p) = 0 := zk_fl hk
  rw [nx_id z5]
  exact yr_fl (rb_fl h hk hk6) z5
theorem gl_if {α : Type} {q : QS} {a b : α} (h : qFl q = 0) : (if qFl q = 0 then a else b) = a := if_pos h
theorem gl_el {α : Type} {q : QS} {a b : α} (h : ¬ qFl q = 0) : (if qFl q = 0 then a else b) = b := if_neg h
theorem nu_r2 {t : Nat → Int32} {len : Nat} {p : PS} (h : pEk (nuP t len 0 99 p) = 0) : ∃ j : Nat, j ≤ 99 ∧ nuV t len 0 99 p = nI j := by
  obtain ⟨j, -, a, b⟩ := nu_rng (a := 0) (b := 99) (by omega) (by omega) h
  exact ⟨j, a, b⟩
theorem nu_r1 {t : Nat → Int32} {len : Nat} {p : PS} (h : pEk (nuP t len 0 9 p) = 0) : ∃ j : Nat, j ≤ 9 ∧ nuV t len 0 9 p = nI j := by
  obtain ⟨j, -, a, b⟩ := nu_rng (a := 0) (b := 9) (by omega) (by omega) h
  exact ⟨j, a, b⟩
theorem nu_r3 {t : Nat → Int32} {len : Nat} {p : PS} (h : pEk (nuP t len 0 999 p) = 0) : ∃ j : Nat, j ≤ 999 ∧ nuV t len 0 999 p = nI j := by
  obtain ⟨j, -, a, b⟩ := nu_rng (a := 0) (b := 999) (by omega) (by omega) h
  exact ⟨j, a, b⟩
section TWO
variable {t g w sl : Nat → Int32} {len S B : Nat} {p1 p2 p3 : PS} {q1 q2 q3 : QS} {a b c d a' b' c' d' : Int32}
theorem two_nu (a4 : RB t len (nxP t len p1) q1) (h2 : nuP t len a b p1 = p2) (h3 : nuP t len c d p2 = p3) (k2 : tnQ t len a b q1 = q2) (k3 : tnQ t len c d q2 = q3) : RB t len (nxP t len p3) q3 ∧ (pEk p3 = 0 → pEk p2 = 0 ∧ pEk p1 = 0 ∧ nuV t len a b p1 = heV a b q1 ∧ nuV t len c d p2 = heV c d q2) := by
  obtain ⟨a5, v5⟩ := rk_nu (a := a) (b := b) a4
  have a6 : RB t len (nxP t len (nuP t len a b p1)) (tnQ t len a b q1) := rb_nx a5
  rw [h2, k2] at a6
  rw [h2] at v5
  obtain ⟨a7, v7⟩ := rk_nu (a := c) (b := d) a6
  have a8 : RB t len (nxP t len (nuP t len c d p2)) (tnQ t len c d q2) := rb_nx a7
  rw [h3, k3] at a8
  rw [h3] at v7
  refine ⟨a8, fun z => ?_⟩
  have z2 : pEk p2 = 0 := by rw [← h3] at z; exact zk_nu0 z
  have z1 : pEk p1 = 0 := by rw [← h2] at z2; exact zk_nu0 z2
  exact ⟨z2, z1, v5 z2, v7 z⟩
theorem two_nuH (a4 : RB t len (nxP t len p1) q1) (e1 : a = a' ∧ b = b') (e2 : nuV t len a b p1 = heV a' b' q1 → c = c' ∧ d = d') (h2 : nuP t len a b p1 = p2) (h3 : nuP t len c d p2 = p3) (k2 : tnQ t len a' b' q1 = q2) (k3 : heQ c' d' q2 = q3) : RK t len p3 q3 ∧ (pEk p3 = 0 → pEk p2 = 0 ∧ pEk p1 = 0 ∧ nuV t len a b p1 = heV a' b' q1 ∧ nuV t len c d p2 = heV c' d' q2) := by
  obtain ⟨rfl, rfl⟩ := e1
  obtain ⟨a5, v5⟩ := rk_nu (a := a) (b := b) a4
  have a6 : RB t len (nxP t len (nuP t len a b p1)) (tnQ t len a b q1) := rb_nx a5
  rw [h2, k2] at a6
  rw [h2] at v5
  obtain ⟨a7, v7⟩ := rk_nu2 (a := c) (b := d) (a' := c') (b' := d') a6 (fun z => e2 (v5 z))
  rw [h3, k3] at a7
  rw [h3] at v7
  refine ⟨a7, fun z => ?_⟩
  have z2 : pEk p2 = 0 := by rw [← h3] at z; exact zk_nu0 z
  have z1 : pEk p1 = 0 := by rw [← h2] at z2; exact zk_nu0 z2
  exact ⟨z2, z1, v5 z2, v7 z⟩
theorem st_ks (hn : nmA S B g w) (a4 : RB t len (nxP t len p1) q1) (h2 : ks1 t len g S p1 = p2) (k2 : tsQ t len w sl S q1 = q2) : RB t len (nxP t len p2) q2 ∧ (pEk p2 = 0 → pEk p1 = 0 ∧ ksV t len g S p1 = tsR t len w sl S q1) := by
  obtain ⟨a5, v5⟩ := rk_ks hn a4 sl
  have a6 : RB t len (nxP t len (ks1 t len g S p1)) (tsQ t len w sl S q1) := rb_nx a5
  have eR : pEk (ks1 t len g S p1) = 0 → tsR t len w sl S q1 = tsV w (slN t sl (sp1 q1)) S (sp1 q1) := fun z => gl_if ((rb_ek a6).trans z)
  rw [h2] at a6 v5 eR
  rw [k2] at a6
  exact ⟨a6, fun z => ⟨(zk_ks (by rw [h2]; exact z)).2, (v5 z).trans (eR z).symm⟩⟩
theorem st_kb (hn : nmA S B g w) (a4 : RB t len (nxP t len p1) q1) (h2 : fcP (bmF g B (nmV t len p1) = -1) 3 (nm1 t len p1) = p2) (k2 : tbQ t len w sl B q1 = q2) : RB t len (nxP t len p2) q2 ∧ (pEk p2 = 0 → pEk p1 = 0 ∧ bmF g B (nmV t len p1) = tbR t len w sl B q1) := by
  obtain ⟨a5, v5⟩ := rk_kb hn a4 sl
  have a6 : RB t len (nxP t len (fcP (bmF g B (nmV t len p1) = -1) 3 (nm1 t len p1))) (tbQ t len w sl B q1) := rb_nx a5
  have eR : pEk (fcP (bmF g B (nmV t len p1) = -1) 3 (nm1 t len p1)) = 0 → tbR t len w sl B q1 = tbV w (slN t sl (sp1 q1)) B (sp1 q1) := fun z => gl_if ((rb_ek a6).trans z)
  rw [h2] at a6 v5 eR
  rw [k2] at a6
  refine ⟨a6, fun z => ⟨?_, (v5 z).trans (eR z).symm⟩⟩
  rw [← h2] at z
  exact zk_nm0 (zk_fc (by omega) z).2
end TWO
section LNS
variable {t g w sl nz : Nat → Int32} {len N S B L P T : Nat} {p : PS} {q : QS}
theorem ln_st (hW : wf w S B L P) (hV : RV N S B L P g w) (h : RK t len p q) (hz : pEk p = 0) : YR t len N (rW (stL t len (g, S, B, L, P, p)) (nxP t len (rp (stL t len (g, S, B, L, P, p))))) (rsY t len w sl nz S B L P q) := by
  unfold rsY
  by_cases c8 : S = 8
  · rw [if_pos c8]
    have e0 : st0 (g, S, B, L, P, p) = flP 5 p := fc_t c8
    have z5 : ¬ pEk (flP 5 p) = 0 := zk_fl (by omega)
    have e3 : st3 t len (g, S, B, L, P, p) = flP 5 p := by
      unfold st3 st2 st1
      rw [e0, nm_id z5, fc_id z5, nu_id z5, nu_id z5]
    have eL : stL t len (g, S, B, L, P, p) = (g, S, B, L, P, flP 5 p) := by
      unfold stL
      rw [e3, if_neg z5]
    rw [eL]
    exact yr_fl5 h.1 (by omega) (by omega)
  · rw [if_neg c8]
    have e0 : st0 (g, S, B, L, P, p) = p := fc_f c8
    have a1 := rb_nx1 h hz
    have a2 := rk_nm a1
    have a3 : RK t len (st1 t len (g, S, B, L, P, p)) (rsB t len w sl S q) := by
      unfold st1 rsB
      rw [e0]
      exact rk_fc a2 (by omega) (by omega) (fun zz => by
        have e := sm_ss (S := S) hV.2.2.1 (rb_nmV a1 zz sl)
        show (¬ smF g S _ = -1) ↔ _
        rw [e])
    have e1 : pEk (st1 t len (g, S, B, L, P, p)) = 0 → pEk (nm1 t len p) = 0 := fun z1 => by
      unfold st1 at z1
      rw [e0] at z1
      exact (zk_fc (by omega) z1).2
    have a4 := rb_nx a3
    obtain ⟨p1, h1⟩ : ∃ z, st1 t len (g, S, B, L, P, p) = z := ⟨_, rfl⟩
    obtain ⟨p2, h2⟩ : ∃ z, nuP t len 0 99 p1 = z := ⟨_, rfl⟩
    obtain ⟨p3, h3⟩ : ∃ z, nuP t len 0 99 p2 = z := ⟨_, rfl⟩
    obtain ⟨qB, hB⟩ : ∃ z, gnP t len (rsB t len w sl S q) = z := ⟨_, rfl⟩
    obtain ⟨qC, hC⟩ : ∃ z, tnQ t len 0 99 qB = z := ⟨_, rfl⟩
    obtain ⟨qD, hD⟩ : ∃ z, tnQ t len 0 99 qC = z := ⟨_, rfl⟩
    have i2 : st2 t len (g, S, B, L, P, p) = p2 := by unfold st2; rw [h1, h2]
    have i3 : st3 t len (g, S, B, L, P, p) = p3 := by unfold st3; rw [i2, h3]
    have iC : rsC t len w sl S q = qC := by unfold rsC; rw [hB, hC]
    have iD : rsD t len w sl S q = qD := by unfold rsD; rw [iC, hD]
    rw [h1] at a4 e1
    rw [hB] at a4
    obtain ⟨a8, vv⟩ := two_nu a4 h2 h3 hC hD
    rw [iD, iC, hB]
    have ek := rb_ek a8
    by_cases z3 : pEk p3 = 0
    · have eL : stL t len (g, S, B, L, P, p) = (asF g S (nmV t len p) (nuV t len 0 99 p1) (nuV t len 0 99 p2), S + 1, B, L, P, p3) := by
        unfold stL
        rw [i3, if_pos z3, e0, h1, i2]
      rw [eL, gl_if (ek.trans z3)]
      obtain ⟨z2, z1, v1, v2⟩ := vv z3
      refine yr_mk a8 ?_
      rw [← v1, ← v2]
      have hS := hW.2.1
      rw [← h2] at z2
      obtain ⟨j, j2, j3⟩ := nu_r2 z2
      exact rv_bd hV hW (by omega) (rb_nmV a1 (e1 z1) sl) j3 j2
    · have eL : stL t len (g, S, B, L, P, p) = (g, S, B, L, P, p3) := by
        unfold stL
        rw [i3, if_neg z3]
      rw [eL, gl_el (fun y => z3 (ek.symm.trans y))]
      exact yr_nf a8 z3
theorem ln_bo (hW : wf w S B L P) (hV : RV N S B L P g w) (hN : 999 ≤ N) (h : RK t len p q) (hz : pEk p = 0) : YR t len N (rW (boL t len (g, S, B, L, P, p)) (nxP t len (rp (boL t len (g, S, B, L, P, p))))) (rbY t len w sl nz S B L P q) := by
  unfold rbY
  by_cases c8 : B = 12
  · rw [if_pos c8]
    have e0 : bo0 (g, S, B, L, P, p) = flP 5 p := fc_t c8
    have z5 : ¬ pEk (flP 5 p) = 0 := zk_fl (by omega)
    have e3 : bo4 t len (g, S, B, L, P, p) = flP 5 p := by
      unfold bo4 bo3 bo2 bo1
      rw [e0, nm_id z5, fc_id z5, ks_id z5, nu_id z5, nu_id z5]
    have eL : boL t len (g, S, B, L, P, p) = (g, S, B, L, P, flP 5 p) := by
      unfold boL
      rw [e3, if_neg z5]
    rw [eL]
    exact yr_fl5 h.1 (by omega) (by omega)
  · rw [if_neg c8]
    have e0 : bo0 (g, S, B, L, P, p) = p := fc_f c8
    have a1 := rb_nx1 h hz
    have a2 := rk_nm a1
    have a3 : RK t len (bo1 t len (g, S, B, L, P, p)) (rbB t len w sl B q) := by
      unfold bo1 rbB
      rw [e0]
      exact rk_fc a2 (by omega) (by omega) (fun zz => by
        have e := bm_bs (B := B) hV.2.2.1 (rb_nmV a1 zz sl)
        show (¬ bmF g B _ = -1) ↔ _
        rw [e])
    have e1 : pEk (bo1 t len (g, S, B, L, P, p)) = 0 → pEk (nm1 t len p) = 0 := fun z1 => by
      unfold bo1 at z1
      rw [e0] at z1
      exact (zk_fc (by omega) z1).2
    have f2 : pEk (bo1 t len (g, S, B, L, P, p)) = 0 → rbB t len w sl B q = sp1 (mxP t len q) := fun z1 => by
      have f3 : qFl (rbB t len w sl B q) = 0 := (rk_ek a3).trans z1
      unfold rbB at f3 ⊢
      split at f3
      · exact absurd f3 (fl_er (by omega))
      · rename_i c1
        exact if_neg c1
    have a4 := rb_nx a3
    obtain ⟨p1, h1⟩ : ∃ z, bo1 t len (g, S, B, L, P, p) = z := ⟨_, rfl⟩
    obtain ⟨p2, h2⟩ : ∃ z, ks1 t len g S p1 = z := ⟨_, rfl⟩
    obtain ⟨p3, h3⟩ : ∃ z, nuP t len 0 9 p2 = z := ⟨_, rfl⟩
    obtain ⟨p4, h4⟩ : ∃ z, nuP t len 0 999 p3 = z := ⟨_, rfl⟩
    obtain ⟨qC, hC⟩ : ∃ z, gnP t len (rbB t len w sl B q) = z := ⟨_, rfl⟩
    obtain ⟨qD, hD⟩ : ∃ z, tsQ t len w (rsS t len sl q) S qC = z := ⟨_, rfl⟩
    obtain ⟨qE, hE⟩ : ∃ z, tnQ t len 0 9 qD = z := ⟨_, rfl⟩
    obtain ⟨qF, hF⟩ : ∃ z, tnQ t len 0 999 qE = z := ⟨_, rfl⟩
    have i2 : bo2 t len (g, S, B, L, P, p) = p2 := by unfold bo2; rw [h1]; exact h2
    have i3 : bo3 t len (g, S, B, L, P, p) = p3 := by unfold bo3; rw [i2, h3]
    have i4 : bo4 t len (g, S, B, L, P, p) = p4 := by unfold bo4; rw [i3, h4]
    have iC : rbC t len w sl B q = qC := hC
    have iD : rbD t len w sl S B q = qD := by unfold rbD; rw [iC, hD]
    have iE : rbE t len w sl S B q = qE := by unfold rbE; rw [iD, hE]
    have iF : rbF t len w sl S B q = qF := by unfold rbF; rw [iE, hF]
    rw [h1] at a4 e1 f2
    rw [hC] at a4
    obtain ⟨a5, v5⟩ := st_ks (S := S) hV.2.2.1 a4 h2 hD
    obtain ⟨a8, vv⟩ := two_nu a5 h3 h4 hE hF
    rw [iF, iE, iD, iC]
    have ek := rb_ek a8
    by_cases z4 : pEk p4 = 0
    · have eL : boL t len (g, S, B, L, P, p) = (abF g B (nmV t len p) (ksV t len g S p1) (nuV t len 0 9 p2) (nuV t len 0 999 p3), S, B + 1, L, P, p4) := by
        unfold boL
        rw [i4, if_pos z4, e0, h1, i2, i3]
      rw [eL, gl_if (ek.trans z4)]
      obtain ⟨z3, z2, v1, v2⟩ := vv z4
      obtain ⟨z1, v0⟩ := v5 z2
      refine yr_mk a8 ?_
      rw [← v0, ← v1, ← v2]
      have hB := hW.2.2.2.1
      rw [← h3] at z3
      rw [← h4] at z4
      obtain ⟨i, i9, i8⟩ := nu_r1 z3
      obtain ⟨j, j9, j8⟩ := nu_r3 z4
      refine rv_cm hV hW (by omega) (nmR_cg (rb_nmV a1 (e1 z1) sl) (fun k hk => ?_)) i8 i9 j8 j9 hN
      have f1 : qFl (sp1 (mxP t len q)) = 0 := (rk_ek a2).trans (e1 z1)
      have g1 := cq_i (d := rbT t len w sl B q) (s := slF t (rbB t len w sl B q)) (o := 0) hk
      have g2 : slN t sl (sp1 (mxP t len q)) = cq sl (slF t (sp1 (mxP t len q))) 0 6 := gl_if f1
      have g3 := cq_i (d := sl) (s := slF t (sp1 (mxP t len q))) (o := 0) hk
      rw [Nat.zero_add] at g1 g3
      rw [g2, g3, ← f2 z1]
      exact g1
    · have eL : boL t len (g, S, B, L, P, p) = (g, S, B, L, P, p4) := by
        unfold boL
        rw [i4, if_neg z4]
      rw [eL, gl_el (fun y => z4 (ek.symm.trans y))]
      exact yr_nf a8 z4
end LNS
