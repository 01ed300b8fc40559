/-! ===== a new model ===== -/
def kyP (k : Nat) : Nat → Int32 := fun q => if q < k then kyF q else 0
theorem ky_0 : (fun _ => 0 : Nat → Int32) = kyP 0 := by funext q; unfold kyP; rw [if_neg (by omega)]
theorem ky_s {k : Nat} {x : Int32} (h : kyF k = x) : upd (kyP k) k x = kyP (k + 1) := by
  funext q
  by_cases c : q = k
  · subst c; rw [upd_s]; unfold kyP; rw [if_pos (by omega), h]
  · rw [upd_n c]; unfold kyP
    by_cases c2 : q < k
    · rw [if_pos c2, if_pos (by omega)]
    · rw [if_neg c2, if_neg (by omega)]
theorem ky_st {tb : Nat → ClassId} {M : me_M} {a k : Nat} {x : Int32} (h : kyF k = x) : me_up (me_up M a (.inl (tb 0, 96, .inl (kyP k)))) a (.inl (tb 0, 96, .inl (upd (kyP k) k x))) = me_up M a (.inl (tb 0, 96, .inl (kyP (k + 1)))) := by rw [me_up_up, ky_s h]
theorem ky_96 : kyP 96 = kyF := by
  funext q; unfold kyP
  by_cases c : q < 96
  · rw [if_pos c]
  · rw [if_neg c]; unfold kyF
    have h : ky_l.length ≤ q := by show 96 ≤ q; omega
    rw [List.getD_eq_getElem?_getD, List.getElem?_eq_none h]; rfl
abbrev zz : Nat → Int32 := fun _ => 0
abbrev ksl (k : Nat) : Nat → Int32 := fun i => kyF (8 * k + i)
def isA : Nat → Int32 := cq zz (ksl 7) 0 6
def isB : Nat → Int32 := cq isA (ksl 8) 0 6
def isC : Nat → Int32 := cq isB (ksl 9) 0 6
def isD : Nat → Int32 := cq isC (ksl 10) 0 6
def isE : Nat → Int32 := cq isD (ksl 11) 0 6
def iw1 : Nat → Int32 := upd (upd zz 0 2) 1 5
def iwA : Nat → Int32 := bdW iw1 isA 0 60 20
def iwB : Nat → Int32 := bdW iwA isB 1 85 50
def iwC : Nat → Int32 := cmW iwB isC 0 0 3 40
def iwD : Nat → Int32 := cmW iwC isD 1 1 7 90
def iwE : Nat → Int32 := cmW iwD isE 2 1 2 50
def iwP : Nat → Int32 := apF iwE 0 1 10 2
def iwL : Nat → Int32 := adF iwP 0 0 4 2
def iwM : Nat → Int32 := adF iwL 1 1 6 3
def iwZ : WN := mpS 2 3 2 1 5 (iwM, zz)
theorem oi_1 : ok1 0 0 0 0 0 iw1 := ⟨⟨rfl, by omega, rfl, by omega, rfl, by omega, rfl, by omega, fun b hb => by omega, fun k hk => by omega⟩, wz_upd (wz_upd ⟨fun k hk => by show bz 0 = 0; decide, fun k hk => by show (0 : Int32) ≤ 0; decide⟩ (by omega)) (by omega), rfl⟩
theorem oi_A : ok1 1 0 0 0 0 iwA := ok_bd oi_1 (by omega)
theorem oi_B : ok1 2 0 0 0 0 iwB := ok_bd oi_A (by omega)
theorem oi_C : ok1 2 1 0 0 0 iwC := ok_cm (k := 0) oi_B (by omega) (by omega) rfl
theorem oi_D : ok1 2 2 0 0 0 iwD := ok_cm (k := 1) oi_C (by omega) (by omega) rfl
theorem oi_E : ok1 2 3 0 0 0 iwE := ok_cm (k := 1) oi_D (by omega) (by omega) rfl
theorem oi_P : ok1 2 3 0 1 0 iwP := ok_ap2 oi_E (by omega)
theorem oi_L : ok1 2 3 1 1 0 iwL := ok_ad2 oi_P (by omega) (by omega)
theorem oi_M : ok1 2 3 2 1 0 iwM := ok_ad2 oi_L (by omega) (by omega)
