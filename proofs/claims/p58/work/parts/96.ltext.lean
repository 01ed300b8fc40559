/-! ===== a builder's text as a list of letters ===== -/
def dig (w : Nat) : List Nat := (List.range (sb_dg w)).map (fun i => 48 + w / 10 ^ (sb_dg w - 1 - i) % 10)
theorem dig_len (w : Nat) : (dig w).length = sb_dg w := by simp [dig]
/-- k letters of t, those of the list -/
def hasT (k : Nat) (t : Nat → Int32) (l : List Nat) : Prop := k = l.length ∧ (∀ i, i < k → t i = sb_b (l.getD i 0) ∧ l.getD i 0 < 128) ∧ sb_Fit t
theorem getD_l {l m : List Nat} {i : Nat} (h : i < l.length) : (l ++ m).getD i 0 = l.getD i 0 := by
  simp [List.getD_eq_getElem?_getD, List.getElem?_append_left h]
theorem getD_r {l m : List Nat} {i : Nat} (h : l.length ≤ i) : (l ++ m).getD i 0 = m.getD (i - l.length) 0 := by
  simp [List.getD_eq_getElem?_getD, List.getElem?_append_right h]
theorem hT_chr {k w : Nat} {t : Nat → Int32} {l : List Nat} (h : hasT k t l) (hw : w < 128) : hasT (k + 1) (upd t k (sb_b w)) (l ++ [w]) := by
  obtain ⟨h1, h2, h3⟩ := h
  refine ⟨by simp [h1], fun i hi => ?_, sb_fitU h3 (sb_fitB w)⟩
  by_cases e : i = k
  · subst e
    rw [upd_s, getD_r (by omega), h1, Nat.sub_self]
    exact ⟨rfl, hw⟩
  · rw [upd_n e, getD_l (by omega)]
    exact h2 i (by omega)
def ksN (i : Nat) : List Nat := if i = 8 then [98, 117, 114, 101, 97, 117, 32] else if i = 9 then [59, 115, 116, 114, 101, 101, 116, 32] else if i = 10 then [59, 98, 111, 114, 114, 111, 119, 101, 114, 32] else [59, 104, 111, 117, 114, 115, 32]
theorem ksN_len : ∀ i, i < 12 → 8 ≤ i → (ksN i).length = ks_len.getD i 0 := by decide +kernel
theorem ksN_c : ∀ i, i < 12 → 8 ≤ i → ∀ j, j < ks_len.getD i 0 → ks_c i j = sb_b ((ksN i).getD j 0) ∧ (ksN i).getD j 0 < 128 := by decide +kernel
theorem hT_txt {k i : Nat} {t : Nat → Int32} {l : List Nat} (h : hasT k t l) (hi : i < 12) (h8 : 8 ≤ i) : hasT (k + ks_len.getD i 0) (va_cpy (ks_c i) t 0 k (ks_len.getD i 0)) (l ++ ksN i) := by
  obtain ⟨h1, h2, h3⟩ := h
  refine ⟨by rw [List.length_append, ksN_len i hi h8, h1], fun j hj => ?_, fun j => ?_⟩
  · by_cases e : j < k
    · rw [pk_cpy_out (Or.inl e), getD_l (by omega)]
      exact h2 j e
    · rw [pk_cpy_in (by omega) hj, getD_r (by omega), Nat.zero_add, ← h1]
      exact ksN_c i hi h8 _ (by omega)
  · by_cases e : k ≤ j ∧ j < k + ks_len.getD i 0
    · rw [pk_cpy_in e.1 e.2, Nat.zero_add]
      exact ks_fit i hi _ (by omega)
    · rw [pk_cpy_out (by omega)]
      exact h3 j
theorem hT_int {k w : Nat} {t : Nat → Int32} {l : List Nat} (h : hasT k t l) : hasT (k + (sb_dg w + 0)) (gsF w 0 (k + (sb_dg w + 0)) t) (l ++ dig w) := by
  obtain ⟨h1, h2, h3⟩ := h
  refine ⟨by rw [List.length_append, dig_len, h1]; omega, fun j hj => ?_, gs_fit h3⟩
  have e0 : gsF w 0 (k + (sb_dg w + 0)) t = gcF w (k + (sb_dg w + 0)) (sb_dg w) t := by unfold gsF; rw [if_pos rfl]
  rw [e0]
  unfold gcF
  by_cases e : j < k
  · rw [if_neg (by omega), getD_l (by omega)]
    exact h2 j e
  · rw [if_pos (by omega), getD_r (by omega), ← h1]
    have e2 : (dig w).getD (j - k) 0 = 48 + w / 10 ^ (sb_dg w - 1 - (j - k)) % 10 := by
      unfold dig
      rw [List.getD_eq_getElem?_getD, List.getElem?_map, List.getElem?_range (by omega)]
      rfl
    rw [e2, show k + (sb_dg w + 0) - 1 - j = sb_dg w - 1 - (j - k) by omega]
    exact ⟨rfl, by omega⟩
theorem dg_lt10 {w : Nat} (h : w < 10) : sb_dg w = 1 := dg_1 (by omega)
theorem dg_lt100 {w : Nat} (h : w < 100) : sb_dg w ≤ 2 := by
  by_cases c : w ≤ 9
  · rw [dg_1 c]; omega
  · rw [dg_2 c h]; omega
theorem dg_lt1000 {w : Nat} (h : w < 1000) : sb_dg w ≤ 3 := by
  by_cases c : w ≤ 9
  · rw [dg_1 c]; omega
  · by_cases c2 : w < 100
    · rw [dg_2 c c2]; omega
    · unfold sb_dg; rw [if_neg (by omega), if_neg (by omega), if_pos h]; omega
/-! the text of a bureau -/
def hdT (a b : Nat) : List Nat := ksN 8 ++ dig a ++ [32] ++ dig b
def stT (d n : Nat → Nat) : Nat → List Nat
  | 0 => []
  | k + 1 => stT d n k ++ (ksN 9 ++ [114 + k] ++ [32] ++ dig (d k) ++ [32] ++ dig (n k))
def boT (st il cr : Nat → Nat) : Nat → List Nat
  | 0 => []
  | k + 1 => boT st il cr k ++ (ksN 10 ++ [97 + k] ++ [32] ++ [114 + st k] ++ [32] ++ dig (il k) ++ [32] ++ dig (cr k))
def nup (f : Nat → Nat) (k v : Nat) : Nat → Nat := fun j => if j = k then v else f j
theorem nup_n {f : Nat → Nat} {k j v : Nat} (h : j < k) : nup f k v j = f j := if_neg (by omega)
theorem stT_cg {d n d2 n2 : Nat → Nat} : ∀ {k : Nat}, (∀ j, j < k → d j = d2 j ∧ n j = n2 j) → stT d n k = stT d2 n2 k
  | 0, _ => rfl
  | k + 1, h => by
    unfold stT
    rw [stT_cg (fun j hj => h j (by omega)), (h k (by omega)).1, (h k (by omega)).2]
theorem boT_cg {s i c s2 i2 c2 : Nat → Nat} : ∀ {k : Nat}, (∀ j, j < k → s j = s2 j ∧ i j = i2 j ∧ c j = c2 j) → boT s i c k = boT s2 i2 c2 k
  | 0, _ => rfl
  | k + 1, h => by
    unfold boT
    rw [boT_cg (fun j hj => h j (by omega)), (h k (by omega)).1, (h k (by omega)).2.1, (h k (by omega)).2.2]
def stQ (a b i : Nat) (l : List Nat) : Prop := ∃ d n : Nat → Nat, (∀ j, d j < 100 ∧ n j < 100) ∧ l = hdT a b ++ stT d n i
def boQ (a b S i : Nat) (l : List Nat) : Prop := ∃ d n st il cr : Nat → Nat, (∀ j, d j < 100 ∧ n j < 100 ∧ st j < S ∧ il j < 10 ∧ cr j < 200) ∧ l = hdT a b ++ stT d n S ++ boT st il cr i
theorem stQ_0 {a b : Nat} : stQ a b 0 (hdT a b) := ⟨fun _ => 0, fun _ => 0, fun j => ⟨(by decide : 0 < 100), (by decide : 0 < 100)⟩, by simp [stT]⟩
theorem stQ_s {a b i x y : Nat} {l : List Nat} (h : stQ a b i l) (hx : x < 100) (hy : y < 100) : stQ a b (i + 1) (l ++ ksN 9 ++ [114 + i] ++ [32] ++ dig x ++ [32] ++ dig y) := by
  obtain ⟨d, n, h1, rfl⟩ := h
  refine ⟨nup d i x, nup n i y, fun j => ?_, ?_⟩
  · unfold nup
    refine ⟨?_, ?_⟩ <;> split
    · exact hx
    · exact (h1 j).1
    · exact hy
    · exact (h1 j).2
  · show _ = hdT a b ++ (stT (nup d i x) (nup n i y) i ++ (ksN 9 ++ [114 + i] ++ [32] ++ dig (nup d i x i) ++ [32] ++ dig (nup n i y i)))
    rw [stT_cg (d := nup d i x) (n := nup n i y) (d2 := d) (n2 := n) (k := i) (fun j hj => ⟨nup_n hj, nup_n hj⟩), show nup d i x i = x from if_pos rfl, show nup n i y i = y from if_pos rfl]
    simp only [List.append_assoc]
theorem boQ_0 {a b S : Nat} {l : List Nat} (h : stQ a b S l) (hS : 0 < S) : boQ a b S 0 l := by
  obtain ⟨d, n, h1, rfl⟩ := h
  exact ⟨d, n, fun _ => 0, fun _ => 0, fun _ => 0, fun j => ⟨(h1 j).1, (h1 j).2, hS, (by decide : 0 < 10), (by decide : 0 < 200)⟩, by simp [boT]⟩
theorem boQ_s {a b S i x y z : Nat} {l : List Nat} (h : boQ a b S i l) (hx : x < S) (hy : y < 10) (hz : z < 200) : boQ a b S (i + 1) (l ++ ksN 10 ++ [97 + i] ++ [32] ++ [114 + x] ++ [32] ++ dig y ++ [32] ++ dig z) := by
  obtain ⟨d, n, st, il, cr, h1, rfl⟩ := h
  refine ⟨d, n, nup st i x, nup il i y, nup cr i z, fun j => ⟨(h1 j).1, (h1 j).2.1, ?_, ?_, ?_⟩, ?_⟩
  · unfold nup; split
    · exact hx
    · exact (h1 j).2.2.1
  · unfold nup; split
    · exact hy
    · exact (h1 j).2.2.2.1
  · unfold nup; split
    · exact hz
    · exact (h1 j).2.2.2.2
  · show _ = hdT a b ++ stT d n S ++ (boT (nup st i x) (nup il i y) (nup cr i z) i ++ (ksN 10 ++ [97 + i] ++ [32] ++ [114 + nup st i x i] ++ [32] ++ dig (nup il i y i) ++ [32] ++ dig (nup cr i z i)))
    rw [boT_cg (s := nup st i x) (i := nup il i y) (c := nup cr i z) (s2 := st) (i2 := il) (c2 := cr) (k := i) (fun j hj => ⟨nup_n hj, nup_n hj, nup_n hj⟩), show nup st i x i = x from if_pos rfl, show nup il i y i = y from if_pos rfl, show nup cr i z i = z from if_pos rfl]
    simp only [List.append_assoc]
/-! the builder in memory -/
section SBB
variable {tb : Nat → ClassId} {M : me_M} {N0 k q : Nat} {t : Nat → Int32} {x y : va_E}
theorem sb_eat {b v cap : Nat} {f : Nat → Int32} : sbV tb (me_up M b x) b v cap k f = sbV tb M b v cap k f := by unfold sbV; rw [me_up_up]
theorem sbT_up (h : q < N0) : me_up (sbT tb M N0 k t) q x = sbT tb (me_up M q x) N0 k t := by
  have := sb_vn N0 k
  unfold sbT; exact sb_new (by omega) (by omega)
theorem sbT_up2 (h : q < N0) : me_up (sbT tb (me_up M q x) N0 k t) q y = sbT tb (me_up M q y) N0 k t := by rw [sbT_up h, me_up_up]
theorem sbT_out (h : q < N0) : sbT tb M N0 k t q = M q := by
  have := sb_vn N0 k
  unfold sbT; exact sb_out (by omega) (by omega)
theorem sbT_o : sbT tb M N0 k t N0 = some (.inr (9, [.ref (sv N0 k), .int 0, .int 0, .int (nI k)])) := by
  have := sb_vn N0 k
  unfold sbT; exact sb_o (by omega)
def t8 : Nat → Int32 := va_cpy (ks_c 8) (fun _ => 0) 0 0 (ks_len.getD 8 0)
theorem sb_first : sbV tb (me_up M N0 x) N0 (N0 + 1) 23 (0 + ks_len.getD 8 0) (va_cpy (ks_c 8) (fun _ => 0) 0 0 (ks_len.getD 8 0)) = sbT tb M N0 7 t8 := by
  rw [sb_eat]
  show _ = sbV tb M N0 (N0 + 1) 23 7 (tx 7 t8)
  have e : tx 7 t8 = t8 := by
    funext i; unfold tx
    by_cases h : i < 7
    · rw [if_pos h]
    · rw [if_neg h]; unfold t8
      exact (pk_cpy_out (f := ks_c 8) (g := fun _ => 0) (sp := 0) (dp := 0) (n := ks_len.getD 8 0) (j := i) (Or.inr (by show 0 + 7 ≤ i; omega))).symm
  rw [e]; rfl
theorem hT_8 : hasT 7 t8 (ksN 8) := by
  have h := hT_txt (k := 0) (i := 8) (t := fun _ => 0) (l := []) ⟨rfl, fun i hi => by omega, sb_fit0⟩ (by decide) (by decide)
  exact h
/-- the text made of it, and the builder forgotten -/
theorem sbT_text {D : va_G} {z0 n : Nat} {s : State} {H : Heap} {locs : List Loc} {c1 c2 : va_E} {b v cap : Nat} {f : Nat → Int32} (hb : M b = none) (hv : M v = none) (h1 : n ≠ b) (h2 : n ≠ v) (h3 : n + 1 ≠ b) (h4 : n + 1 ≠ v) {n' : Nat} (h : me_at D z0 (sbV tb (me_up (me_up M n c1) (n + 1) c2) b v cap k f) n' s H locs) : me_at D z0 (me_up (me_up M n c1) (n + 1) c2) n' s H locs := by
  refine h.sub (fun q y hq => ?_)
  by_cases e1 : q = b
  · subst e1
    rw [me_up_n (by omega), me_up_n (by omega), hb] at hq; cases hq
  by_cases e2 : q = v
  · subst e2
    rw [me_up_n (by omega), me_up_n (by omega), hv] at hq; cases hq
  rw [sb_out e1 e2]; exact hq
end SBB
