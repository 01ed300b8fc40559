/-! ===== a text is read into the draft ===== -/
theorem updG_updG (G : Nat → Nat → Int32) (j : Nat) (g h : Nat → Int32) : updG (updG G j g) j h = updG G j h := by
  funext i; unfold updG; split <;> rfl
section LD
variable {tb : Nat → ClassId} {bo n : Nat} {G : Nat → Nat → Int32} {F sf inp out g : Nat → Int32} {M0 : me_M}
theorem bq_nw {q : Nat} (hq : bo + 919 ≤ q) : sp tb (bo + 722) g (bq tb bo G F sf inp out M0) q = M0 q := by
  rw [sp_out (by omega), bq_no (hdq_none (by omega)), spN_out (fun j hj => by have := (sa_in (bo := bo) hj).2; omega)]
theorem bq_upo {x y : va_E} (hn : bo + 919 ≤ n) : me_up (sp tb (bo + 722) g (bq tb bo G F sf inp out (me_up M0 n x))) n y = sp tb (bo + 722) g (bq tb bo G F sf inp out (me_up M0 n y)) := by
  rw [bq_new hn, me_up_up]
theorem bq_pi {gc : Nat → Int32} {len : Nat} {q : PS} (hn : bo + 919 ≤ n) : sp tb (bo + 722) g (bq tb bo (updG G 0 gc) F sf inp out (me_up M0 n (.inr (3, ps_fs (bo + 720) len (bo + 1) q)))) = psM tb (bo + 1) n (bo + 720) len (sp tb (bo + 722) g (bq tb bo (updG G 0 gc) F sf inp out M0)) gc q := by
  have h : oth tb (bo + 1) gc (sp tb (bo + 722) g (bq tb bo (updG G 0 gc) F sf inp out M0)) := by
    have h := bq_dO (tb := tb) (bo := bo) (G := updG G 0 gc) (F := F) (sf := sf) (inp := inp) (out := out) (M0 := M0) (g := g)
    rw [updG_s] at h
    exact h
  rw [← bq_new hn]
  show _ = sp tb (bo + 1) gc (me_up _ n _)
  rw [← sp_upn (by omega), ← sp_absorb h]
theorem bq_po {gc h : Nat → Int32} {len : Nat} {q : PS} (hn : bo + 919 ≤ n) : psM tb (bo + 1) n (bo + 720) len (sp tb (bo + 722) g (bq tb bo (updG G 0 gc) F sf inp out M0)) h q = sp tb (bo + 722) g (bq tb bo (updG G 0 h) F sf inp out (me_up M0 n (.inr (3, ps_fs (bo + 720) len (bo + 1) q)))) := by
  show sp tb (bo + 1) h (me_up _ n _) = _
  rw [← sp_upn (by omega), bq_dset, updG_updG, bq_new hn]
theorem bq_pE {len : Nat} (hn : bo + 919 ≤ n) (hl : len ≤ 700) : psE tb (bo + 1) n (bo + 720) 700 len inp (sp tb (bo + 722) g (bq tb bo G F sf inp out M0)) := ⟨by omega, by omega, by omega, hl, by omega, bq_at h_in⟩
end LD
theorem wf_cl (g : Nat → Int32) : wf (clF g) 0 0 0 0 := by
  unfold clF
  exact ⟨rfl, by omega, rfl, by omega, rfl, by omega, rfl, by omega, fun b hb => by omega, fun k hk => by omega⟩
/-- the reader and the State at the start of a text -/
abbrev ldp : PS := (0, 0, 0, 0, -1)
def ldx (g : Nat → Int32) : PR := (clF g, 0, 0, 0, 0, ldp)
theorem ok_ldx (g : Nat → Int32) (len : Nat) : okP len (ldx g) := okP_mk (wf_cl g) ⟨0, rfl, by omega⟩ ⟨by decide, Nat.zero_le _, by decide, by decide⟩
/-- what a text makes of the draft -/
def ldF (inp : Nat → Int32) (len : Nat) (g : Nat → Int32) : PR := paF inp len (ldx g)
theorem ok_ldF (inp : Nat → Int32) (len : Nat) (g : Nat → Int32) : okP len (ldF inp len g) := by unfold ldF; exact ok_paF (ok_ldx g len)
