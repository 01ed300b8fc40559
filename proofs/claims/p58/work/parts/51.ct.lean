/-! ===== a bureau while it is built ===== -/
theorem up_comm {X : me_M} {a b : Nat} {x y : va_E} (h : a ≠ b) : me_up (me_up X a x) b y = me_up (me_up X b y) a x := by
  funext q; unfold me_up
  by_cases h1 : q = b
  · subst h1; rw [if_pos rfl, if_neg (fun z => h z.symm), if_pos rfl]
  · rw [if_neg h1, if_neg h1]
theorem sp_upc {tb : Nat → ClassId} {a q : Nat} {g : Nat → Int32} {X : me_M} {y : va_E} (h : q < a ∨ a + 65 ≤ q) : me_up (sp tb a g X) q y = sp tb a g (me_up X q y) := by
  funext i
  by_cases h1 : i = q
  · subst h1; rw [me_up_s, sp_out h, me_up_s]
  · rw [me_up_n h1]
    by_cases h2 : a ≤ i ∧ i < a + 65
    · unfold sp; rw [if_pos h2, if_pos h2]
    · rw [sp_out (by omega), sp_out (by omega), me_up_n h1]
theorem sp_eat {tb : Nat → ClassId} {a : Nat} {g : Nat → Int32} {X : me_M} {c : va_E} : sp tb a g (me_up X a c) = sp tb a g X := by
  funext i
  by_cases h2 : a ≤ i ∧ i < a + 65
  · unfold sp; rw [if_pos h2, if_pos h2]
  · rw [sp_out (by omega), sp_out (by omega), me_up_n (by omega)]
/-- k States of nothing, from b on -/
def spZ (tb : Nat → ClassId) (b : Nat) : Nat → me_M → me_M
  | 0, X => X
  | k + 1, X => sp tb (b + 65 * k) (fun _ => 0) (spZ tb b k X)
theorem spZ_up {tb : Nat → ClassId} {b q : Nat} {X : me_M} {y : va_E} : ∀ {k : Nat}, (q < b ∨ b + 65 * k ≤ q) → me_up (spZ tb b k X) q y = spZ tb b k (me_up X q y)
  | 0, _ => rfl
  | k + 1, h => by
    show me_up (sp tb (b + 65 * k) (fun _ => 0) (spZ tb b k X)) q y = sp tb (b + 65 * k) (fun _ => 0) (spZ tb b k (me_up X q y))
    rw [sp_upc (by omega), spZ_up (by omega)]
theorem spZ_out {tb : Nat → ClassId} {b q : Nat} {X : me_M} : ∀ {k : Nat}, (q < b ∨ b + 65 * k ≤ q) → spZ tb b k X q = X q
  | 0, _ => rfl
  | k + 1, h => by
    show sp tb (b + 65 * k) (fun _ => 0) (spZ tb b k X) q = X q
    rw [sp_out (by omega), spZ_out (by omega)]
theorem spZ_at {tb : Nat → ClassId} {b i o : Nat} {X : me_M} (ho : o < 65) : ∀ {k : Nat}, i < k → spZ tb b k X (b + 65 * i + o) = some (sp_cell tb (b + 65 * i) (fun _ => 0) o)
  | 0, h => by omega
  | k + 1, h => by
    show sp tb (b + 65 * k) (fun _ => 0) (spZ tb b k X) (b + 65 * i + o) = _
    by_cases hk : i = k
    · subst hk; exact sp_in _ _ _ _ ho
    · rw [sp_out (by omega)]; exact spZ_at ho (by omega)
def ha_f (b k : Nat) : Nat → Option Nat := fun i => if i < k then some (b + 65 * i) else none
theorem ha_0 {b : Nat} : (fun _ => none) = ha_f b 0 := by funext i; unfold ha_f; rw [if_neg (by omega)]
theorem ha_up {b k : Nat} : va_up (ha_f b k) k (some (b + 65 * k)) = ha_f b (k + 1) := by
  funext i; unfold va_up ha_f
  by_cases h : i = k
  · subst h; rw [if_pos rfl, if_pos (by omega)]
  · rw [if_neg h]
    by_cases h2 : i < k
    · rw [if_pos h2, if_pos (by omega)]
    · rw [if_neg h2, if_neg (by omega)]
abbrev hi_a (tb : Nat → ClassId) (b k : Nat) : va_E := .inl (tb 5, 10, .inr (.inr (.inr (.inr (ha_f b k)))))
abbrev hi_c (h : Nat) : va_E := .inr (1, [.ref (h + 1), .int 0, .int 0])
/-- the history with k of its States -/
def hiZ (tb : Nat → ClassId) (h k j : Nat) (M : me_M) : me_M := me_up (spZ tb (h + 2) k (me_up M h (hi_c h))) (h + 1) (hi_a tb (h + 2) j)
theorem hi_start {tb : Nat → ClassId} {h : Nat} {M : me_M} : me_up (me_up M (h + 1) (.inl (tb 5, 10, .inr (.inr (.inr (.inr (fun _ => none))))))) h (hi_c h) = hiZ tb h 0 0 M := by
  rw [up_comm (by omega), ha_0 (b := h + 2)]; rfl
theorem hi_next {tb : Nat → ClassId} {h k : Nat} {M : me_M} {c : va_E} : sp tb (h + 2 + 65 * k) (fun _ => 0) (me_up (hiZ tb h k k M) (h + 2 + 65 * k) c) = hiZ tb h (k + 1) k M := by
  rw [sp_eat]; unfold hiZ
  rw [← sp_upc (by omega)]; rfl
theorem hi_st {tb : Nat → ClassId} {h k j : Nat} {M : me_M} : me_up (hiZ tb h (k + 1) k M) (h + 1) (.inl (tb 5, 10, .inr (.inr (.inr (.inr (va_up (ha_f (h + 2) k) k (some (h + 2 + 65 * k)))))))) = hiZ tb h (k + 1) (k + 1) M := by
  unfold hiZ; rw [me_up_up, ha_up]
theorem hi_h {tb : Nat → ClassId} {h k j : Nat} {M : me_M} : hiZ tb h k j M h = some (hi_c h) := by
  unfold hiZ; rw [me_up_n (by omega), spZ_out (by omega), me_up_s]
theorem hi_ar {tb : Nat → ClassId} {h k j : Nat} {M : me_M} : hiZ tb h k j M (h + 1) = some (hi_a tb (h + 2) j) := by unfold hiZ; rw [me_up_s]
theorem hi_s {tb : Nat → ClassId} {h k j : Nat} {M : me_M} : hiZ tb h (k + 1) j M (h + 2 + 65 * k) = some (.inr (5, sc_fs (h + 2 + 65 * k) (fun _ => 0))) := by
  unfold hiZ; rw [me_up_n (by omega)]; exact sp_st _ _ _ _
theorem me_atn {D : va_G} {z0 : Nat} {M : me_M} {n n' : Nat} {s : State} {H : Heap} {locs : List Loc} (h : me_at D z0 M n s H locs) (e : n = n') : me_at D z0 M n' s H locs := e ▸ h
/-- the bytes of the first text -/
def bytS (k : Nat) (f : Nat → Int32) : Nat → Int32 := upd f k (vp_nar .byte ((ks_c 7 k).toInt8.toInt32))
def ftT : Nat → Int32 := it bytS 169 0 (fun _ => 0)
theorem ct_pi {tb : Nat → ClassId} {a po ta : Nat} {g : Nat → Int32} {R : me_M} {c t : va_E} (h1 : a + 65 ≤ po) (h2 : a + 65 ≤ ta) (h3 : ta ≠ po) : me_up (me_up (sp tb a g R) po c) ta t = sp tb a g (me_up (me_up R ta t) po c) := by
  rw [sp_upn h1, sp_upn h2, up_comm (fun z => h3 z.symm)]
theorem wf_0 : wf (fun _ => 0) 0 0 0 0 := ⟨rfl, by omega, rfl, by omega, rfl, by omega, rfl, by omega, fun b hb => by omega, fun k hk => by omega⟩
def ftX : PR := ((fun _ => 0), 0, 0, 0, 0, ldp)
theorem ok_ftX : okP 169 ftX := okP_mk wf_0 ⟨0, rfl, by omega⟩ ⟨by decide, Nat.zero_le _, by decide, by decide⟩
/-- what the first text makes -/
def ftY : PR := paF ftT 169 ftX
theorem ok_ftY : okP 169 ftY := by unfold ftY; exact ok_paF ok_ftX
