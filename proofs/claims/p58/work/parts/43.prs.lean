/-! ===== the reader of texts: its numbers, its steps ===== -/
abbrev PS := Nat × Nat × Nat × Nat × Int32
abbrev pAt (p : PS) : Nat := p.1
abbrev pTk (p : PS) : Nat := p.2.1
abbrev pTs (p : PS) : Nat := p.2.2.1
abbrev pEk (p : PS) : Nat := p.2.2.2.1
abbrev pEo (p : PS) : Int32 := p.2.2.2.2
abbrev ps_fs (ta len sd : Nat) (p : PS) : List Value := [.ref ta, .int (nI len), .ref sd, .int (nI (pAt p)), .int (nI (pTk p)), .int (nI (pTs p)), .int (nI (pEk p)), .int (pEo p)]
def flP (kd : Nat) (p : PS) : PS := if (pEk p) = 0 then ⟨(pAt p), (pTk p), (pTs p), kd, nI (pTs p)⟩ else p
abbrev ltP (b : Int32) : Prop := ¬ b < 97 ∧ ¬ 122 < b
abbrev dgP (b : Int32) : Prop := ¬ b < 48 ∧ ¬ 57 < b
/-- past blanks, r places at most -/
def skP (t : Nat → Int32) : Nat → Nat → Nat
  | 0, k => k
  | r + 1, k => if t k = 32 ∨ t k = 10 then skP t r (k + 1) else k
abbrev chP (q : Prop) (b : Int32) : Prop := (q → ltP b) ∧ (¬ q → dgP b)
/-- past letters, or digits -/
def ruP (t : Nat → Int32) (q : Prop) [Decidable q] : Nat → Nat → Nat
  | 0, k => k
  | r + 1, k => if chP q (t k) then ruP t q r (k + 1) else k
def sk0 (t : Nat → Int32) (len : Nat) (p : PS) : Nat := skP t (len - (pAt p)) (pAt p)
def ru0 (t : Nat → Int32) (len k : Nat) : Nat := ruP t (ltP (t k)) (len - k) k
abbrev stP (t : Nat → Int32) (len : Nat) (p : PS) : Prop := ((pTk p) = 1 ∨ (pTk p) = 2) ∧ sk0 t len p = (pAt p)
def nxP (t : Nat → Int32) (len : Nat) (p : PS) : PS :=
  if ¬ (pEk p) = 0 then p
  else if ¬ sk0 t len p < len then ⟨sk0 t len p, 4, sk0 t len p, (pEk p), (pEo p)⟩
  else if t (sk0 t len p) = 59 then ⟨sk0 t len p + 1, 3, sk0 t len p, (pEk p), (pEo p)⟩
  else ⟨ru0 t len (sk0 t len p), if ru0 t len (sk0 t len p) = sk0 t len p ∨ stP t len p then 0 else if ltP (t (sk0 t len p)) then 1 else 2, sk0 t len p, (pEk p), (pEo p)⟩
def nwF (v b : Int32) : Int32 := (v <<< (5 &&& 31)) ||| (b - 97 + 1)
def nvP (t : Nat → Int32) : Nat → Nat → Int32 → Int32
  | 0, _, v => v
  | r + 1, i, v => nvP t r (i + 1) (nwF v (t i))
def nm1 (t : Nat → Int32) (len : Nat) (p : PS) : PS := if ¬ (pTk (nxP t len p)) = 1 ∨ 6 < (pAt (nxP t len p)) - (pTs (nxP t len p)) then flP 1 (nxP t len p) else nxP t len p
def nmV (t : Nat → Int32) (len : Nat) (p : PS) : Int32 := if (pEk (nm1 t len p)) = 0 then nvP t ((pAt (nm1 t len p)) - (pTs (nm1 t len p))) (pTs (nm1 t len p)) 0 else 0
def vaP (t : Nat → Int32) : Nat → Nat → Int32 → Int32
  | 0, _, v => v
  | r + 1, i, v => vaP t r (i + 1) (10 * v + t i - 48)
def nu1 (t : Nat → Int32) (len : Nat) (p : PS) : PS := if ¬ (pTk (nxP t len p)) = 2 ∨ 4 < (pAt (nxP t len p)) - (pTs (nxP t len p)) then flP 1 (nxP t len p) else nxP t len p
def nu2 (t : Nat → Int32) (len : Nat) (p : PS) : Int32 := if (pEk (nu1 t len p)) = 0 then vaP t ((pAt (nu1 t len p)) - (pTs (nu1 t len p))) (pTs (nu1 t len p)) 0 else 0
/-- the place after a number between a and b -/
def nuP (t : Nat → Int32) (len : Nat) (a b : Int32) (p : PS) : PS := if nu2 t len p < a ∨ b < nu2 t len p then flP 2 (nu1 t len p) else nu1 t len p
def nuV (t : Nat → Int32) (len : Nat) (a b : Int32) (p : PS) : Int32 := if (pEk (nuP t len a b p)) = 0 then nu2 t len p else 0
def eqB (t : Nat → Int32) (ts i : Nat) : Nat → Nat → Bool
  | 0, _ => true
  | r + 1, j => decide (t (ts + j) = ks_c i j) && eqB t ts i r (j + 1)
abbrev wdB (t : Nat → Int32) (i : Nat) (p : PS) : Prop := (pTk p) = 1 ∧ (pAt p) - (pTs p) = ks_len.getD i 0 ∧ eqB t (pTs p) i (ks_len.getD i 0) 0 = true
def pvP (len : Nat) (p : PS) : Prop := (pTs p) ≤ (pAt p) ∧ (pAt p) ≤ len ∧ (pTk p) ≤ 4 ∧ (pEk p) ≤ 6
theorem skP_b (t : Nat → Int32) : ∀ (r k : Nat), k ≤ skP t r k ∧ skP t r k ≤ k + r
  | 0, k => ⟨Nat.le_refl _, Nat.le_refl _⟩
  | r + 1, k => by
    have := skP_b t r (k + 1)
    unfold skP
    split <;> omega
theorem ruP_b (t : Nat → Int32) (q : Prop) [Decidable q] : ∀ (r k : Nat), k ≤ ruP t q r k ∧ ruP t q r k ≤ k + r
  | 0, k => ⟨Nat.le_refl _, Nat.le_refl _⟩
  | r + 1, k => by
    have := ruP_b t q r (k + 1)
    unfold ruP
    split <;> omega
theorem pv_fl {len : Nat} {p : PS} (kd : Nat) (h : pvP len p) (hk : kd ≤ 6) : pvP len (flP kd p) := by
  obtain ⟨h1, h2, h3, h4⟩ := h
  unfold flP; split
  · exact ⟨h1, h2, h3, hk⟩
  · exact ⟨h1, h2, h3, h4⟩
theorem sk0_b {t : Nat → Int32} {len : Nat} {p : PS} (h : pvP len p) : (pAt p) ≤ sk0 t len p ∧ sk0 t len p ≤ len := by
  have := skP_b t (len - (pAt p)) (pAt p)
  have h2 := h.2.1
  unfold sk0
  omega
theorem ru0_b {t : Nat → Int32} {len k : Nat} (h : k ≤ len) : k ≤ ru0 t len k ∧ ru0 t len k ≤ len := by
  have := ruP_b t (ltP (t k)) (len - k) k
  unfold ru0
  omega
theorem pv_nx {t : Nat → Int32} {len : Nat} {p : PS} (h : pvP len p) : pvP len (nxP t len p) := by
  have hs := sk0_b (t := t) h
  have hr := ru0_b (t := t) hs.2
  obtain ⟨h1, h2, h3, h4⟩ := h
  unfold nxP
  split
  · exact ⟨h1, h2, h3, h4⟩
  split
  · exact ⟨Nat.le_refl _, hs.2, by show 4 ≤ 4; omega, h4⟩
  split
  · rename_i c1 c2 c3
    exact ⟨by show sk0 t len p ≤ sk0 t len p + 1; omega, by show sk0 t len p + 1 ≤ len; omega, by show 3 ≤ 4; omega, h4⟩
  · refine ⟨hr.1, hr.2, ?_, h4⟩
    show (if _ then 0 else if _ then 1 else 2) ≤ 4
    split
    · omega
    split <;> omega
theorem pv_nm {t : Nat → Int32} {len : Nat} {p : PS} (h : pvP len p) : pvP len (nm1 t len p) := by
  unfold nm1; split
  · exact pv_fl 1 (pv_nx h) (by omega)
  · exact pv_nx h
theorem pv_n1 {t : Nat → Int32} {len : Nat} {p : PS} (h : pvP len p) : pvP len (nu1 t len p) := by
  unfold nu1; split
  · exact pv_fl 1 (pv_nx h) (by omega)
  · exact pv_nx h
theorem pv_nu {t : Nat → Int32} {len : Nat} {a b : Int32} {p : PS} (h : pvP len p) : pvP len (nuP t len a b p) := by
  unfold nuP; split
  · exact pv_fl 2 (pv_n1 h) (by omega)
  · exact pv_n1 h
theorem zk_fl {kd : Nat} {p : PS} (hk : 0 < kd) : ¬ (pEk (flP kd p)) = 0 := by
  unfold flP; split
  · show ¬ kd = 0; omega
  · assumption
theorem zk_nx {t : Nat → Int32} {len : Nat} {p : PS} (h : (pEk (nxP t len p)) = 0) : (pEk p) = 0 := by
  unfold nxP at h
  split at h
  · rename_i c; exact absurd h c
  · rename_i c; exact Decidable.of_not_not c
theorem zk_n1 {t : Nat → Int32} {len : Nat} {p : PS} (h : (pEk (nu1 t len p)) = 0) : (pEk (nxP t len p)) = 0 ∧ (pTk (nxP t len p)) = 2 ∧ (pAt (nxP t len p)) - (pTs (nxP t len p)) ≤ 4 := by
  unfold nu1 at h; split at h
  · exact absurd h (zk_fl (by omega))
  · rename_i c; refine ⟨h, ?_, ?_⟩ <;> omega
theorem zk_nm {t : Nat → Int32} {len : Nat} {p : PS} (h : (pEk (nm1 t len p)) = 0) : (pEk (nxP t len p)) = 0 ∧ (pTk (nxP t len p)) = 1 ∧ (pAt (nxP t len p)) - (pTs (nxP t len p)) ≤ 6 := by
  unfold nm1 at h; split at h
  · exact absurd h (zk_fl (by omega))
  · rename_i c; refine ⟨h, ?_, ?_⟩ <;> omega
theorem zk_nu {t : Nat → Int32} {len : Nat} {a b : Int32} {p : PS} (h : (pEk (nuP t len a b p)) = 0) : (pEk (nu1 t len p)) = 0 ∧ ¬ nuV t len a b p < a ∧ ¬ b < nuV t len a b p := by
  have h0 := h
  unfold nuP at h; split at h
  · exact absurd h (zk_fl (by omega))
  · rename_i c
    refine ⟨h, ?_⟩
    unfold nuV; rw [if_pos h0]
    exact ⟨fun z => c (Or.inl z), fun z => c (Or.inr z)⟩
theorem zk_nu0 {t : Nat → Int32} {len : Nat} {a b : Int32} {p : PS} (h : (pEk (nuP t len a b p)) = 0) : (pEk p) = 0 := zk_nx (zk_n1 (zk_nu h).1).1
/-- a number that was read lies between its bounds -/
theorem nu_rng {t : Nat → Int32} {len a b : Nat} {p : PS} (ha : a < 2 ^ 31) (hb : b < 2 ^ 31) (h : (pEk (nuP t len (nI a) (nI b) p)) = 0) : ∃ j, a ≤ j ∧ j ≤ b ∧ nuV t len (nI a) (nI b) p = nI j := by
  obtain ⟨-, h1, h2⟩ := zk_nu h
  have h3 : nI a ≤ nuV t len (nI a) (nI b) p := Int32.not_lt.mp h1
  have h4 : ¬ nuV t len (nI a) (nI b) p < 0 := Int32.not_lt.mpr (Int32.le_trans (nI_pos' ha) h3)
  obtain ⟨j, hj, e⟩ := nI_of2 (nI_toInt hb) h4 (Int32.not_lt.mp h2)
  rw [e] at h3
  exact ⟨j, (nI_leI ha (by omega)).mp h3, hj, e⟩
theorem nu_0 {t : Nat → Int32} {len : Nat} {a b : Int32} {p : PS} (h : ¬ (pEk (nuP t len a b p)) = 0) : nuV t len a b p = 0 := by unfold nuV; rw [if_neg h]
/-! ===== the reader and the State that it fills ===== -/
abbrev PR := (Nat → Int32) × Nat × Nat × Nat × Nat × PS
abbrev rG (x : PR) : Nat → Int32 := x.1
abbrev rS (x : PR) : Nat := x.2.1
abbrev rB (x : PR) : Nat := x.2.2.1
abbrev rL (x : PR) : Nat := x.2.2.2.1
abbrev rP (x : PR) : Nat := x.2.2.2.2.1
abbrev rp (x : PR) : PS := x.2.2.2.2.2
abbrev rW (x : PR) (q : PS) : PR := ⟨rG x, rS x, rB x, rL x, rP x, q⟩
def okP (len : Nat) (x : PR) : Prop := wf (rG x) (rS x) (rB x) (rL x) (rP x) ∧ (∃ T, (rG x) 2 = nI T ∧ T ≤ 9999) ∧ pvP len (rp x)
abbrev smF (g : Nat → Int32) (S : Nat) (v : Int32) : Int32 := fi (fun k => g (9 + 10 * k + 4) = v) S 0
abbrev bmF (g : Nat → Int32) (B : Nat) (v : Int32) : Int32 := fi (fun k => g (89 + 11 * k + 5) = v) B 0
def fcP (c : Prop) [Decidable c] (kd : Nat) (p : PS) : PS := if c then flP kd p else p
/-- the street that a name tells -/
def ksV (t : Nat → Int32) (len : Nat) (g : Nat → Int32) (S : Nat) (p : PS) : Int32 := smF g S (nmV t len p)
def ks1 (t : Nat → Int32) (len : Nat) (g : Nat → Int32) (S : Nat) (p : PS) : PS := fcP (ksV t len g S p = -1) 3 (nm1 t len p)
abbrev mnF (a b : Int32) : Int32 := if b < a then b else a
section LN
variable (t : Nat → Int32) (len : Nat) (x : PR)
-- a street
def st0 : PS := fcP ((rS x) = 8) 5 (rp x)
def st1 : PS := fcP (¬ smF (rG x) (rS x) (nmV t len (st0 x)) = -1) 4 (nm1 t len (st0 x))
def st2 : PS := nuP t len 0 99 (st1 t len x)
def st3 : PS := nuP t len 0 99 (st2 t len x)
def stL : PR := if (pEk (st3 t len x)) = 0 then ⟨asF (rG x) (rS x) (nmV t len (st0 x)) (nuV t len 0 99 (st1 t len x)) (nuV t len 0 99 (st2 t len x)), (rS x) + 1, (rB x), (rL x), (rP x), st3 t len x⟩ else rW x (st3 t len x)
-- a borrower
def bo0 : PS := fcP ((rB x) = 12) 5 (rp x)
def bo1 : PS := fcP (¬ bmF (rG x) (rB x) (nmV t len (bo0 x)) = -1) 4 (nm1 t len (bo0 x))
def bo2 : PS := ks1 t len (rG x) (rS x) (bo1 t len x)
def bo3 : PS := nuP t len 0 9 (bo2 t len x)
def bo4 : PS := nuP t len 0 999 (bo3 t len x)
def boL : PR := if (pEk (bo4 t len x)) = 0 then ⟨abF (rG x) (rB x) (nmV t len (bo0 x)) (ksV t len (rG x) (rS x) (bo1 t len x)) (nuV t len 0 9 (bo2 t len x)) (nuV t len 0 999 (bo3 t len x)), (rS x), (rB x) + 1, (rL x), (rP x), bo4 t len x⟩ else rW x (bo4 t len x)
-- a permit
def pm0 : PS := fcP ((rP x) = 10) 5 (rp x)
def pm1 : PS := ks1 t len (rG x) (rS x) (pm0 x)
def pmV : Int32 := ksV t len (rG x) (rS x) (pm0 x)
def pm2 : PS := nuP t len ((rG x) 2) ((rG x) 2 + 48 - 1) (pm1 t len x)
def pmS : Int32 := nuV t len ((rG x) 2) ((rG x) 2 + 48 - 1) (pm1 t len x)
def pm3 : PS := nuP t len 1 (mnF 12 ((rG x) 2 + 48 - pmS t len x)) (pm2 t len x)
def pmN : Int32 := nuV t len 1 (mnF 12 ((rG x) 2 + 48 - pmS t len x)) (pm2 t len x)
def pm4 : PS := fcP ((pEk (pm3 t len x)) = 0 ∧ ¬ (fi (fun k => cpP (rG x) (rL x) (pmV t len x) (pmS t len x) (pmN t len x) k) (rL x) 0 = -1 ∧ (rP x) < 10)) 6 (pm3 t len x)
def pmL : PR := if (pEk (pm4 t len x)) = 0 then ⟨apF (rG x) (rP x) (pmV t len x) (pmS t len x) (pmN t len x), (rS x), (rB x), (rL x), (rP x) + 1, pm4 t len x⟩ else rW x (pm4 t len x)
-- a loan
def ldV : Int32 := bmF (rG x) (rB x) (nmV t len (rp x))
def ld1 : PS := fcP (ldV t len x = -1) 3 (nm1 t len (rp x))
def ld2 : PS := nuP t len ((rG x) 2) ((rG x) 2 + 48 - 1) (ld1 t len x)
def ldS : Int32 := nuV t len ((rG x) 2) ((rG x) 2 + 48 - 1) (ld1 t len x)
def ld3 : PS := nuP t len 1 (mnF 6 ((rG x) 2 + 48 - ldS t len x)) (ld2 t len x)
def ldN : Int32 := nuV t len 1 (mnF 6 ((rG x) 2 + 48 - ldS t len x)) (ld2 t len x)
def ld4 : PS := fcP ((pEk (ld3 t len x)) = 0 ∧ ¬ reF (rG x) (rL x) (rP x) (ldV t len x).toNatClampNeg (ldS t len x).toNatClampNeg (ldN t len x).toNatClampNeg = 0) 6 (ld3 t len x)
def ldL : PR := if (pEk (ld4 t len x)) = 0 then ⟨adF (rG x) (rL x) (ldV t len x).toNatClampNeg (ldS t len x).toNatClampNeg (ldN t len x).toNatClampNeg, (rS x), (rB x), (rL x) + 1, (rP x), ld4 t len x⟩ else rW x (ld4 t len x)
-- a whistle
def wh1 : PS := nuP t len 0 ((rG x) 6 - 1) (rp x)
def whV : Int32 := nuV t len 0 ((rG x) 6 - 1) (rp x)
abbrev whC (g : Nat → Int32) (k : Nat) : Prop := g (261 + 5 * k + 4) = 2 ∨ g (261 + 5 * k + 4) = 4
def wh2 : PS := fcP ((pEk (wh1 t len x)) = 0 ∧ ¬ whC (rG x) (whV t len x).toNatClampNeg) 6 (wh1 t len x)
def whL : PR := if (pEk (wh2 t len x)) = 0 then ⟨wsG (whV t len x).toNatClampNeg (rG x), (rS x), (rB x), (rL x), (rP x), wh2 t len x⟩ else rW x (wh2 t len x)
-- hours
def htV : Int32 := nuV t len 1 (mnF 99 (9999 - (rG x) 2)) (rp x)
def htP : PS := nuP t len 1 (mnF 99 (9999 - (rG x) 2)) (rp x)
def htL : PR := ⟨paG (rS x) (rB x) (rL x) (rP x) (htV t len x).toNatClampNeg (rG x), (rS x), (rB x), (rL x), (rP x), htP t len x⟩
-- a line, a text
def dsL : PR := if wdB t 1 (rp x) then stL t len x else if wdB t 2 (rp x) then boL t len x else if wdB t 3 (rp x) then pmL t len x else if wdB t 4 (rp x) then ldL t len x else if wdB t 5 (rp x) then whL t len x else if wdB t 6 (rp x) then htL t len x else rW x (flP 1 (rp x))
def ln0 : PR := rW x (nxP t len (fcP (¬ (pTk (rp x)) = 3) 1 (rp x)))
def lnL : PR := rW (dsL t len (ln0 t len x)) (nxP t len (rp (dsL t len (ln0 t len x))))
end LN
def loP (t : Nat → Int32) (len : Nat) : Nat → PR → PR
  | 0, x => x
  | r + 1, x => if (pEk (rp x)) = 0 ∧ ¬ (pTk (rp x)) = 4 then loP t len r (lnL t len x) else x
def pa0 (t : Nat → Int32) (len : Nat) (p : PS) : PS := fcP (¬ wdB t 0 (nxP t len p)) 1 (nxP t len p)
def pa1 (t : Nat → Int32) (len : Nat) (p : PS) : PS := nuP t len 1 24 (pa0 t len p)
def pa2 (t : Nat → Int32) (len : Nat) (p : PS) : PS := nuP t len 0 99 (pa1 t len p)
def paH (t : Nat → Int32) (len : Nat) (x : PR) : PR := ⟨upd (upd (rG x) 0 (nuV t len 1 24 (pa0 t len (rp x)))) 1 (nuV t len 0 99 (pa1 t len (rp x))), (rS x), (rB x), (rL x), (rP x), nxP t len (pa2 t len (rp x))⟩
/-- what a text makes of a State -/
def paF (t : Nat → Int32) (len : Nat) (x : PR) : PR := loP t len len (paH t len x)
