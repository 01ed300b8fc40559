/-! ===== what both write ===== -/
section OUTW
variable {S B L P T b il cr n : Nat} {g w out ot t f : Nat → Int32}
theorem dg_eq {w : Nat} (h : w < 1000000000) : dgM w = sb_dg w := by
  unfold sb_dg
  show tnR w 9 0 + 1 = _
  by_cases c1 : w < 10
  · rw [if_pos c1, tnR_f (r := 8) (e := 0) (by omega)]
  by_cases c2 : w < 100
  · rw [if_neg c1, if_pos c2, tnR_t (r := 8) (e := 0) (by omega), tnR_f (r := 7) (e := 1) (by omega)]
  by_cases c3 : w < 1000
  · rw [if_neg c1, if_neg c2, if_pos c3, tnR_t (r := 8) (e := 0) (by omega), tnR_t (r := 7) (e := 1) (by omega), tnR_f (r := 6) (e := 2) (by omega)]
  by_cases c4 : w < 10000
  · rw [if_neg c1, if_neg c2, if_neg c3, if_pos c4, tnR_t (r := 8) (e := 0) (by omega), tnR_t (r := 7) (e := 1) (by omega), tnR_t (r := 6) (e := 2) (by omega), tnR_f (r := 5) (e := 3) (by omega)]
  by_cases c5 : w < 100000
  · rw [if_neg c1, if_neg c2, if_neg c3, if_neg c4, if_pos c5, tnR_t (r := 8) (e := 0) (by omega), tnR_t (r := 7) (e := 1) (by omega), tnR_t (r := 6) (e := 2) (by omega), tnR_t (r := 5) (e := 3) (by omega), tnR_f (r := 4) (e := 4) (by omega)]
  by_cases c6 : w < 1000000
  · rw [if_neg c1, if_neg c2, if_neg c3, if_neg c4, if_neg c5, if_pos c6, tnR_t (r := 8) (e := 0) (by omega), tnR_t (r := 7) (e := 1) (by omega), tnR_t (r := 6) (e := 2) (by omega), tnR_t (r := 5) (e := 3) (by omega), tnR_t (r := 4) (e := 4) (by omega), tnR_f (r := 3) (e := 5) (by omega)]
  by_cases c7 : w < 10000000
  · rw [if_neg c1, if_neg c2, if_neg c3, if_neg c4, if_neg c5, if_neg c6, if_pos c7, tnR_t (r := 8) (e := 0) (by omega), tnR_t (r := 7) (e := 1) (by omega), tnR_t (r := 6) (e := 2) (by omega), tnR_t (r := 5) (e := 3) (by omega), tnR_t (r := 4) (e := 4) (by omega), tnR_t (r := 3) (e := 5) (by omega), tnR_f (r := 2) (e := 6) (by omega)]
  by_cases c8 : w < 100000000
  · rw [if_neg c1, if_neg c2, if_neg c3, if_neg c4, if_neg c5, if_neg c6, if_neg c7, if_pos c8, tnR_t (r := 8) (e := 0) (by omega), tnR_t (r := 7) (e := 1) (by omega), tnR_t (r := 6) (e := 2) (by omega), tnR_t (r := 5) (e := 3) (by omega), tnR_t (r := 4) (e := 4) (by omega), tnR_t (r := 3) (e := 5) (by omega), tnR_t (r := 2) (e := 6) (by omega), tnR_f (r := 1) (e := 7) (by omega)]
  rw [if_neg c1, if_neg c2, if_neg c3, if_neg c4, if_neg c5, if_neg c6, if_neg c7, if_neg c8, if_pos h, tnR_t (r := 8) (e := 0) (by omega), tnR_t (r := 7) (e := 1) (by omega), tnR_t (r := 6) (e := 2) (by omega), tnR_t (r := 5) (e := 3) (by omega), tnR_t (r := 4) (e := 4) (by omega), tnR_t (r := 3) (e := 5) (by omega), tnR_t (r := 2) (e := 6) (by omega), tnR_t (r := 1) (e := 7) (by omega), tnR_f (r := 0) (e := 8) (by omega)]
theorem it_cq {v : Nat → Int32} : ∀ (r k : Nat) (o : Nat → Int32), it (fun k o => upd o k (v k)) r k o = cq o (fun i => v (k + i)) k r
  | 0, k, o => (cq_0 o _ k).symm
  | r + 1, k, o => by
    show it (fun k o => upd o k (v k)) r (k + 1) (upd o k (v k)) = _
    rw [it_cq r (k + 1)]
    funext q
    unfold cq
    by_cases c1 : k + 1 ≤ q ∧ q < k + 1 + r
    · rw [if_pos c1, if_pos (by omega)]
      show v (k + 1 + (q - (k + 1))) = v (k + (q - k))
      rw [show k + 1 + (q - (k + 1)) = k + (q - k) by omega]
    · rw [if_neg c1]
      by_cases c2 : q = k
      · subst c2
        rw [upd_s, if_pos (by omega)]
        show v q = v (q + (q - q))
        rw [show q + (q - q) = q by omega]
      · rw [upd_n c2, if_neg (by omega)]
theorem it_cq0 {v : Nat → Int32} (r : Nat) (o : Nat → Int32) : it (fun k o => upd o k (v k)) r 0 o = cq o v 0 r := by
  rw [it_cq]
  congr 1
  funext i
  rw [Nat.zero_add]
theorem cq_put {k : Nat} {c : Int32} : upd (cq out f 0 k) k c = cq out (upd f k c) 0 (k + 1) := by
  funext q
  by_cases h : q = k
  · subst h
    rw [upd_s]
    unfold cq
    rw [if_pos (by omega), show q - 0 = q by omega, upd_s]
  · rw [upd_n h]
    unfold cq
    by_cases h2 : q < k
    · rw [if_pos (by omega), if_pos (by omega), show q - 0 = q by omega, upd_n h]
    · rw [if_neg (by omega), if_neg (by omega)]
theorem cq_app {s : Nat → Int32} {k m : Nat} : cq (cq out f 0 k) s k m = cq out (cq f s k m) 0 (k + m) := by
  funext q
  unfold cq
  by_cases h : k ≤ q ∧ q < k + m
  · rw [if_pos h, if_pos (by omega), show q - 0 = q by omega, if_pos h]
  · rw [if_neg h]
    by_cases h2 : q < k
    · rw [if_pos (by omega), if_pos (by omega), show q - 0 = q by omega, if_neg h]
    · rw [if_neg (by omega), if_neg (by omega)]
theorem gs_0 {k : Nat} (h : n < 1000000000) : (k + (sb_dg n + 0), gsF n 0 (k + (sb_dg n + 0)) f) = (k + dgM n, cq f (dgW n) k (dgM n)) := by
  rw [dg_eq h]
  refine Prod.ext rfl ?_
  have e : dgW n = fun i => wb (nI (48 + n / 10 ^ (sb_dg n - 1 - i) % 10)) := by
    funext i
    show wb (nI (48 + n / 10 ^ (dgM n - 1 - i) % 10)) = _
    rw [dg_eq h]
  rw [e]
  show gsF n 0 (k + (sb_dg n + 0)) f = cq f (fun i => wb (nI (48 + n / 10 ^ (sb_dg n - 1 - i) % 10))) k (sb_dg n)
  unfold gsF gcF cq
  rw [if_pos rfl]
  funext q
  by_cases c : k ≤ q ∧ q < k + sb_dg n
  · rw [if_pos (by omega), if_pos c, sb_wb]
    show wb (nI (48 + n / 10 ^ (k + (sb_dg n + 0) - 1 - q) % 10)) = wb (nI (48 + n / 10 ^ (sb_dg n - 1 - (q - k)) % 10))
    rw [show k + (sb_dg n + 0) - 1 - q = sb_dg n - 1 - (q - k) by omega]
  · rw [if_neg (by omega), if_neg c]
theorem gs_1 {k : Nat} (h : n < 1000000000) : (k + (sb_dg n + 1), gsF n 1 (k + (sb_dg n + 1)) f) = (k + 1 + dgM n, cq (upd f k (wb 45)) (dgW n) (k + 1) (dgM n)) := by
  rw [dg_eq h]
  refine Prod.ext (by show k + (sb_dg n + 1) = k + 1 + sb_dg n; omega) ?_
  have e : dgW n = fun i => wb (nI (48 + n / 10 ^ (sb_dg n - 1 - i) % 10)) := by
    funext i
    show wb (nI (48 + n / 10 ^ (dgM n - 1 - i) % 10)) = _
    rw [dg_eq h]
  rw [e]
  show gsF n 1 (k + (sb_dg n + 1)) f = cq (upd f k (wb 45)) (fun i => wb (nI (48 + n / 10 ^ (sb_dg n - 1 - i) % 10))) (k + 1) (sb_dg n)
  unfold gsF gcF cq
  rw [if_neg (by decide), show k + (sb_dg n + 1) - sb_dg n - 1 = k by omega]
  funext q
  by_cases c0 : q = k
  · subst c0
    rw [upd_s, if_neg (by omega), upd_s, sb_wb]
    rfl
  · rw [upd_n c0]
    by_cases c : k + 1 ≤ q ∧ q < k + 1 + sb_dg n
    · rw [if_pos (by omega), if_pos c, sb_wb]
      show wb (nI (48 + n / 10 ^ (k + (sb_dg n + 1) - 1 - q) % 10)) = wb (nI (48 + n / 10 ^ (sb_dg n - 1 - (q - (k + 1))) % 10))
      rw [show k + (sb_dg n + 1) - 1 - q = sb_dg n - 1 - (q - (k + 1)) by omega]
    · rw [if_neg (by omega), if_neg c, upd_n c0]
/-- the text up to the credit -/
theorem wr_C (hn : nmA S B g w) (hag : ag S B L P g w) (hW : wf w S B L P) (hb : b < B) (hil : il ≤ 9) : (wb5 g b il).1 = wrn w b + 1 + dgM il + 1 ∧ wrC out w b il = cq out (wb5 g b il).2 0 (wb5 g b il).1 := by
  have ehm := ag_hm hag hb
  have n1 := an_nm (hn.2 b hb) 0 (fun _ => 0)
  rw [Nat.zero_add] at n1
  have e1 : wb1 g b = (nlM w (89 + 11 * b + 5), cq (fun _ => 0) (nmW w (89 + 11 * b + 5)) 0 (nlM w (89 + 11 * b + 5))) := n1
  have f1 : cq out (nmW w (89 + 11 * b + 5)) 0 (nlM w (89 + 11 * b + 5)) = cq out (wb1 g b).2 0 (wb1 g b).1 := by
    rw [e1]
    have z := cq_app (out := out) (f := fun _ => 0) (s := nmW w (89 + 11 * b + 5)) (k := 0) (m := nlM w (89 + 11 * b + 5))
    rw [cq_0, Nat.zero_add] at z
    exact z
  have k1 : (wb1 g b).1 = nlM w (89 + 11 * b + 5) := by rw [e1]
  have fA : wrA out w b = cq out (upd (wb1 g b).2 (wb1 g b).1 (sb_b 64)) 0 ((wb1 g b).1 + 1) := by
    unfold wrA
    rw [f1, ← k1, cq_put]
    rfl
  have hm8 := (hW.2.2.2.2.2.2.2.2.1 b hb).2
  have n2 := an_nm (hn.1 (hm w b) hm8) ((wb1 g b).1 + 1) (upd (wb1 g b).2 (wb1 g b).1 (sb_b 64))
  have e2 : wb2 g b = ((wb1 g b).1 + 1 + nlM w (9 + 10 * hm w b + 4), cq (upd (wb1 g b).2 (wb1 g b).1 (sb_b 64)) (nmW w (9 + 10 * hm w b + 4)) ((wb1 g b).1 + 1) (nlM w (9 + 10 * hm w b + 4))) := by
    unfold wb2
    rw [ehm]
    exact n2
  have k2 : (wb2 g b).1 = wrn w b := by
    rw [e2]
    show (wb1 g b).1 + 1 + nlM w (9 + 10 * hm w b + 4) = _
    rw [k1]
    rfl
  have f2 : cq (wrA out w b) (nmW w (9 + 10 * hm w b + 4)) (nlM w (89 + 11 * b + 5) + 1) (nlM w (9 + 10 * hm w b + 4)) = cq out (wb2 g b).2 0 (wb2 g b).1 := by
    rw [fA, ← k1, cq_app, e2]
  have fB : wrB out w b = cq out (wb3 g b).2 0 (wb3 g b).1 := by
    unfold wrB
    rw [f2, ← k2, cq_put]
    rfl
  have k3 : (wb3 g b).1 = wrn w b + 1 := by
    show (wb2 g b).1 + 1 = _
    rw [k2]
  have e4 : wb4 g b il = ((wb3 g b).1 + dgM il, cq (wb3 g b).2 (dgW il) (wb3 g b).1 (dgM il)) := gs_0 (by omega)
  have f4 : cq (wrB out w b) (dgW il) (wrn w b + 1) (dgM il) = cq out (wb4 g b il).2 0 (wb4 g b il).1 := by
    rw [fB, ← k3, cq_app, e4]
  have k4 : (wb4 g b il).1 = wrn w b + 1 + dgM il := by
    rw [e4]
    show (wb3 g b).1 + dgM il = _
    rw [k3]
  refine ⟨?_, ?_⟩
  · show (wb4 g b il).1 + 1 = _
    rw [k4]
  · unfold wrC
    rw [f4, ← k4, cq_put]
    rfl
theorem wr_D (hn : nmA S B g w) (hag : ag S B L P g w) (hW : wf w S B L P) (hb : b < B) (hil : il ≤ 9) (hcr : cr < 1000000000) : (wb6 g b il 0 cr).1 = wrn w b + 1 + dgM il + 1 + dgM cr ∧ it (otS (wb6 g b il 0 cr).2) (wb6 g b il 0 cr).1 0 out = wrD out w b il cr := by
  obtain ⟨k5, fC⟩ := wr_C (out := out) hn hag hW hb hil
  have e6 : wb6 g b il 0 cr = ((wb5 g b il).1 + dgM cr, cq (wb5 g b il).2 (dgW cr) (wb5 g b il).1 (dgM cr)) := gs_0 hcr
  refine ⟨by rw [e6, ← k5], ?_⟩
  have z : it (otS (wb6 g b il 0 cr).2) (wb6 g b il 0 cr).1 0 out = cq out (wb6 g b il 0 cr).2 0 (wb6 g b il 0 cr).1 := it_cq0 (v := (wb6 g b il 0 cr).2) _ out
  rw [z, e6]
  unfold wrD
  rw [fC, ← k5, cq_app]
theorem wr_E (hn : nmA S B g w) (hag : ag S B L P g w) (hW : wf w S B L P) (hb : b < B) (hil : il ≤ 9) (hcr : cr < 1000000000) : (wb6 g b il 1 cr).1 = wrn w b + 1 + dgM il + 1 + 1 + dgM cr ∧ it (otS (wb6 g b il 1 cr).2) (wb6 g b il 1 cr).1 0 out = wrE out w b il cr := by
  obtain ⟨k5, fC⟩ := wr_C (out := out) hn hag hW hb hil
  have e6 : wb6 g b il 1 cr = ((wb5 g b il).1 + 1 + dgM cr, cq (upd (wb5 g b il).2 (wb5 g b il).1 (wb 45)) (dgW cr) ((wb5 g b il).1 + 1) (dgM cr)) := gs_1 hcr
  refine ⟨by rw [e6, ← k5], ?_⟩
  have z : it (otS (wb6 g b il 1 cr).2) (wb6 g b il 1 cr).1 0 out = cq out (wb6 g b il 1 cr).2 0 (wb6 g b il 1 cr).1 := it_cq0 (v := (wb6 g b il 1 cr).2) _ out
  rw [z, e6]
  unfold wrE
  rw [fC, ← k5, cq_put, cq_app]
/-- the schedule -/
theorem sc_W (hn : nmA S B g w) (hag : ag S B L P g w) (hO : ok1 S B L P T w) : it (scS g L) 24 0 out = cq out (shW w L T) 0 24 := by
  have hW := hO.1
  have z : it (scS g L) 24 0 out = cq out (scB g L) 0 24 := it_cq0 (v := scB g L) 24 out
  rw [z]
  congr 1
  funext k
  have e2 : g 2 + nI k = nI (T + k) := by rw [ag_n hag (by decide : 2 < 9), hO.2.2, nI_add]
  unfold scB
  show _ = wb (shV w L T k)
  unfold shV
  rw [e2, ag_ho hag]
  by_cases c : hoF w L (nI (T + k)) = -1
  · rw [if_pos c, if_pos c]
  · rw [if_neg c, if_neg c]
    obtain ⟨j, hj, e, -⟩ := hoF_le w L (nI (T + k)) (by have := hW.2.2.2.2.2.1; omega) c
    have hL := hW.2.2.2.2.2.1
    have e3 : (hoF w L (nI (T + k))).toNatClampNeg = j := by rw [e]; exact nI_clamp (by omega)
    rw [e3, ag_ow hag hj, fl_nm (hn.2 _ (hW.2.2.2.2.2.2.2.2.2 j hj).2)]
end OUTW
