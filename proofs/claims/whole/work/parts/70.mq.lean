/-! ===== the model's cells ===== -/
def ky_l : List Int32 := [98, 117, 114, 101, 97, 117, 0, 0, 115, 116, 114, 101, 101, 116, 0, 0, 98, 111, 114, 114, 111, 119, 101, 114, 112, 101, 114, 109, 105, 116, 0, 0, 108, 101, 110, 100, 0, 0, 0, 0, 119, 104, 105, 115, 116, 108, 101, 0, 104, 111, 117, 114, 115, 0, 0, 0, 101, 108, 109, 0, 0, 0, 0, 0, 111, 97, 107, 0, 0, 0, 0, 0, 97, 110, 110, 0, 0, 0, 0, 0, 98, 111, 98, 0, 0, 0, 0, 0, 99, 105, 100, 0, 0, 0, 0, 0]
def kyF (k : Nat) : Int32 := ky_l.getD k 0
abbrev mq_fs (mo : Nat) (F : Nat → Int32) : List Value := [.ref (mo + 1), .int (F 0), .ref (mo + 2), .ref (mo + 3), .ref (mo + 4), .int (F 1), .ref (mo + 5), .int (F 2), .ref (mo + 6), .ref (mo + 7), .ref (mo + 8), .int (F 3), .ref (mo + 9), .int (F 4), .int (F 5), .int (F 6), .int (F 7), .int (F 8), .int (F 9), .int (F 10), .int (F 11), .int (F 12), .int (F 13)]
def mq (tb : Nat → ClassId) (mo : Nat) (F w av od sv sl nz ip ot : Nat → Int32) (M0 : me_M) : me_M := fun q => if q = mo then some (.inr (8, mq_fs mo F)) else if q = mo + 1 then some (.inl (tb 0, 96, .inl kyF)) else if q = mo + 2 then some (.inl (tb 0, 411, .inl w)) else if q = mo + 3 then some (.inl (tb 0, 411, .inl av)) else if q = mo + 4 then some (.inl (tb 0, 4110, .inl od)) else if q = mo + 5 then some (.inl (tb 0, 822, .inl sv)) else if q = mo + 6 then some (.inl (tb 0, 6, .inl sl)) else if q = mo + 7 then some (.inl (tb 0, 8, .inl nz)) else if q = mo + 8 then some (.inl (tb 1, 700, .inl ip)) else if q = mo + 9 then some (.inl (tb 1, 40, .inl ot)) else M0 q
section MQ
variable {tb : Nat → ClassId} {mo : Nat} {F w av od sv sl nz ip ot : Nat → Int32} {M0 : me_M}
theorem mq_F : mq tb mo F w av od sv sl nz ip ot M0 mo = some (.inr (8, mq_fs mo F)) := by unfold mq; rw [if_pos rfl]
theorem mq_ky : mq tb mo F w av od sv sl nz ip ot M0 (mo + 1) = some (.inl (tb 0, 96, .inl kyF)) := by unfold mq; rw [if_neg (by omega), if_pos rfl]
theorem mq_w : mq tb mo F w av od sv sl nz ip ot M0 (mo + 2) = some (.inl (tb 0, 411, .inl w)) := by unfold mq; rw [if_neg (by omega), if_neg (by omega), if_pos rfl]
theorem mq_av : mq tb mo F w av od sv sl nz ip ot M0 (mo + 3) = some (.inl (tb 0, 411, .inl av)) := by unfold mq; rw [if_neg (by omega), if_neg (by omega), if_neg (by omega), if_pos rfl]
theorem mq_od : mq tb mo F w av od sv sl nz ip ot M0 (mo + 4) = some (.inl (tb 0, 4110, .inl od)) := by unfold mq; rw [if_neg (by omega), if_neg (by omega), if_neg (by omega), if_neg (by omega), if_pos rfl]
theorem mq_sv : mq tb mo F w av od sv sl nz ip ot M0 (mo + 5) = some (.inl (tb 0, 822, .inl sv)) := by unfold mq; rw [if_neg (by omega), if_neg (by omega), if_neg (by omega), if_neg (by omega), if_neg (by omega), if_pos rfl]
theorem mq_sl : mq tb mo F w av od sv sl nz ip ot M0 (mo + 6) = some (.inl (tb 0, 6, .inl sl)) := by unfold mq; rw [if_neg (by omega), if_neg (by omega), if_neg (by omega), if_neg (by omega), if_neg (by omega), if_neg (by omega), if_pos rfl]
theorem mq_nz : mq tb mo F w av od sv sl nz ip ot M0 (mo + 7) = some (.inl (tb 0, 8, .inl nz)) := by unfold mq; rw [if_neg (by omega), if_neg (by omega), if_neg (by omega), if_neg (by omega), if_neg (by omega), if_neg (by omega), if_neg (by omega), if_pos rfl]
theorem mq_ip : mq tb mo F w av od sv sl nz ip ot M0 (mo + 8) = some (.inl (tb 1, 700, .inl ip)) := by unfold mq; rw [if_neg (by omega), if_neg (by omega), if_neg (by omega), if_neg (by omega), if_neg (by omega), if_neg (by omega), if_neg (by omega), if_neg (by omega), if_pos rfl]
theorem mq_ot : mq tb mo F w av od sv sl nz ip ot M0 (mo + 9) = some (.inl (tb 1, 40, .inl ot)) := by unfold mq; rw [if_neg (by omega), if_neg (by omega), if_neg (by omega), if_neg (by omega), if_neg (by omega), if_neg (by omega), if_neg (by omega), if_neg (by omega), if_neg (by omega), if_pos rfl]
theorem mq_o {q : Nat} (h : q < mo ∨ mo + 10 ≤ q) : mq tb mo F w av od sv sl nz ip ot M0 q = M0 q := by unfold mq; rw [if_neg (by omega), if_neg (by omega), if_neg (by omega), if_neg (by omega), if_neg (by omega), if_neg (by omega), if_neg (by omega), if_neg (by omega), if_neg (by omega), if_neg (by omega)]
theorem mq_wF {i : Nat} {v : Int32} {fs : List Value} (hf : mq_fs mo (upd F i v) = fs) : me_up (mq tb mo F w av od sv sl nz ip ot M0) mo (.inr (8, fs)) = mq tb mo (upd F i v) w av od sv sl nz ip ot M0 := by
  funext q
  by_cases h : q = mo
  · subst h; rw [me_up_s, mq_F, hf]
  · rw [me_up_n h]; unfold mq; rw [if_neg h, if_neg h]
theorem mq_wF2 {F' : Nat → Int32} {fs : List Value} (hf : mq_fs mo F' = fs) : me_up (mq tb mo F w av od sv sl nz ip ot M0) mo (.inr (8, fs)) = mq tb mo F' w av od sv sl nz ip ot M0 := by
  funext q
  by_cases h : q = mo
  · subst h; rw [me_up_s, mq_F, hf]
  · rw [me_up_n h]; unfold mq; rw [if_neg h, if_neg h]
theorem mq_w_w {f : Nat → Int32} : me_up (mq tb mo F w av od sv sl nz ip ot M0) (mo + 2) (.inl (tb 0, 411, .inl f)) = mq tb mo F f av od sv sl nz ip ot M0 := by
  funext q
  by_cases h : q = mo + 2
  · subst h; rw [me_up_s, mq_w]
  · rw [me_up_n h]; unfold mq; rw [if_neg h, if_neg h]
theorem mq_w_av {f : Nat → Int32} : me_up (mq tb mo F w av od sv sl nz ip ot M0) (mo + 3) (.inl (tb 0, 411, .inl f)) = mq tb mo F w f od sv sl nz ip ot M0 := by
  funext q
  by_cases h : q = mo + 3
  · subst h; rw [me_up_s, mq_av]
  · rw [me_up_n h]; unfold mq; rw [if_neg h, if_neg h]
theorem mq_w_od {f : Nat → Int32} : me_up (mq tb mo F w av od sv sl nz ip ot M0) (mo + 4) (.inl (tb 0, 4110, .inl f)) = mq tb mo F w av f sv sl nz ip ot M0 := by
  funext q
  by_cases h : q = mo + 4
  · subst h; rw [me_up_s, mq_od]
  · rw [me_up_n h]; unfold mq; rw [if_neg h, if_neg h]
theorem mq_w_sv {f : Nat → Int32} : me_up (mq tb mo F w av od sv sl nz ip ot M0) (mo + 5) (.inl (tb 0, 822, .inl f)) = mq tb mo F w av od f sl nz ip ot M0 := by
  funext q
  by_cases h : q = mo + 5
  · subst h; rw [me_up_s, mq_sv]
  · rw [me_up_n h]; unfold mq; rw [if_neg h, if_neg h]
theorem mq_w_sl {f : Nat → Int32} : me_up (mq tb mo F w av od sv sl nz ip ot M0) (mo + 6) (.inl (tb 0, 6, .inl f)) = mq tb mo F w av od sv f nz ip ot M0 := by
  funext q
  by_cases h : q = mo + 6
  · subst h; rw [me_up_s, mq_sl]
  · rw [me_up_n h]; unfold mq; rw [if_neg h, if_neg h]
theorem mq_w_nz {f : Nat → Int32} : me_up (mq tb mo F w av od sv sl nz ip ot M0) (mo + 7) (.inl (tb 0, 8, .inl f)) = mq tb mo F w av od sv sl f ip ot M0 := by
  funext q
  by_cases h : q = mo + 7
  · subst h; rw [me_up_s, mq_nz]
  · rw [me_up_n h]; unfold mq; rw [if_neg h, if_neg h]
theorem mq_w_ip {f : Nat → Int32} : me_up (mq tb mo F w av od sv sl nz ip ot M0) (mo + 8) (.inl (tb 1, 700, .inl f)) = mq tb mo F w av od sv sl nz f ot M0 := by
  funext q
  by_cases h : q = mo + 8
  · subst h; rw [me_up_s, mq_ip]
  · rw [me_up_n h]; unfold mq; rw [if_neg h, if_neg h]
theorem mq_w_ot {f : Nat → Int32} : me_up (mq tb mo F w av od sv sl nz ip ot M0) (mo + 9) (.inl (tb 1, 40, .inl f)) = mq tb mo F w av od sv sl nz ip f M0 := by
  funext q
  by_cases h : q = mo + 9
  · subst h; rw [me_up_s, mq_ot]
  · rw [me_up_n h]; unfold mq; rw [if_neg h, if_neg h]
end MQ
/-- the model's row is in order: as a State's, and its marks are 0 or 1, its states not below 0 -/
def wz (w : Nat → Int32) : Prop := (∀ k, k < 10 → bz (w (221 + 4 * k + 3)) = w (221 + 4 * k + 3)) ∧ (∀ k, k < 30 → 0 ≤ w (261 + 5 * k + 4))
theorem wz_upd {w : Nat → Int32} {j : Nat} {v : Int32} (h : wz w) (hj : j < 221 ∨ 411 ≤ j) : wz (upd w j v) :=
  ⟨fun k hk => by rw [upd_n (by omega)]; exact h.1 k hk, fun k hk => by rw [upd_n (by omega)]; exact h.2 k hk⟩
theorem wz_updP {w : Nat → Int32} {k f : Nat} {v : Int32} (h : wz w) (hk : k < 10) (hf : f < 4) (hv : f = 3 → bz v = v) : wz (upd w (221 + 4 * k + f) v) := by
  refine ⟨fun j hj => ?_, fun j hj => by rw [upd_n (by omega)]; exact h.2 j hj⟩
  by_cases c : 221 + 4 * j + 3 = 221 + 4 * k + f
  · rw [c, upd_s]; exact hv (by omega)
  · rw [upd_n c]; exact h.1 j hj
theorem wz_updL {w : Nat → Int32} {k f : Nat} {v : Int32} (h : wz w) (hk : k < 30) (hf : f < 5) (hv : f = 4 → 0 ≤ v) : wz (upd w (261 + 5 * k + f) v) := by
  refine ⟨fun j hj => by rw [upd_n (by omega)]; exact h.1 j hj, fun j hj => ?_⟩
  by_cases c : 261 + 5 * j + 4 = 261 + 5 * k + f
  · rw [c, upd_s]; exact hv (by omega)
  · rw [upd_n c]; exact h.2 j hj
