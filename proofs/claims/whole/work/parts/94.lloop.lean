/-! ===== the law's loop, over any relation that its cases keep ===== -/
def lw_hd : List Nat := [280, 384, 440, 453, 466, 479, 492, 505, 518, 531, 544, 557, 570, 626, 639, 695, 763, 819, 875, 888, 944, 1000, 1056, 1112, 1125, 1181, 1237, 1293, 1349, 1405, 1461, 1529, 1542, 1610, 1690, 1770, 1850, 1918, 1986, 2054, 2131, 2174, 2187, 2267, 2323, 2379, 2459, 2515, 2583, 2639, 2695, 2739, 2795, 2808, 2864]
theorem lw_hd_len : lw_hd.length = 55 := rfl
theorem lw_offs : ∀ k : Fin 55, (#[235, 339, 395, 408, 421, 434, 447, 460, 473, 486, 499, 512, 525, 581, 594, 650, 718, 774, 830, 843, 899, 955, 1011, 1067, 1080, 1136, 1192, 1248, 1304, 1360, 1416, 1484, 1497, 1565, 1645, 1725, 1805, 1873, 1941, 2009, 2086, 2129, 2142, 2222, 2278, 2334, 2414, 2470, 2538, 2594, 2650, 2694, 2750, 2763, 2819] : Array Int)[k.val]? = (lw_hd[k.val]?).map (fun q => (q : Int) - 45) := by decide
theorem lw_and63 (x : Int32) : ∃ k : Nat, k ≤ 63 ∧ x &&& 63 = nI k := by
  have h2 : (x &&& 63).toBitVec = x.toBitVec &&& 63#32 := by first | rfl | simp
  refine ⟨(x &&& 63).toBitVec.toNat, ?_, ?_⟩
  · rw [h2, BitVec.toNat_and]
    exact Nat.and_le_right
  · apply Int32.toBitVec_inj.mp
    show (x &&& 63).toBitVec = BitVec.ofNat 32 (x &&& 63).toBitVec.toNat
    rw [BitVec.ofNat_toNat, BitVec.setWidth_eq]
theorem lw_cond {L t : Nat} (hL : L ≤ 3072) (ht : 6 * t ≤ 3078) : (nI L - 6 < nI (6 * t)) ↔ ¬ 6 * t + 6 ≤ L := by
  have h6 : (6 : Int32) = nI 6 := rfl
  by_cases h : 6 ≤ L
  · have : nI L - 6 = nI (L - 6) := by
      rw [h6, show nI L = nI (L - 6) + nI 6 from by rw [nI_add, Nat.sub_add_cancel h], Int32.add_sub_cancel]
    rw [this, Int32.lt_iff_toInt_lt, nI_toInt (by omega), nI_toInt (by omega)]
    omega
  · have h0 : nI L - 6 < 0 := by
      have : L = 0 ∨ L = 1 ∨ L = 2 ∨ L = 3 ∨ L = 4 ∨ L = 5 := by omega
      rcases this with rfl | rfl | rfl | rfl | rfl | rfl <;> decide
    refine ⟨fun _ => by omega, fun _ => ?_⟩
    rw [Int32.lt_iff_toInt_lt] at h0 ⊢
    rw [nI_toInt (by omega)]
    have h9 : (0 : Int32).toInt = 0 := rfl
    omega
section LWL
variable {p : Program} {l : Launch} {e : Env} {R : Room} {s : State} {m : MethodId} {args : Array Value} {below : List Frame} {meth : Method} {c : Code} {H : Heap} {locs : List Loc} {cells slots : Nat} {Q : State → Prop} {ls : Array Slot}
variable {D : va_G} {tb : Nat → ClassId} {X : State → Prop} {z0 n : Nat} {M : me_M} {b L bo mo oa da : Nat} {xs : Nat → Int32}
/-- one case of the law, from its head pc0 to the end of the round, with a relation LR kept -/
def lw_ck (p : Program) (l : Launch) (e : Env) (R : Room) (s : State) (m : MethodId) (args : Array Value) (below : List Frame) (meth : Method) (c : Code) (Q : State → Prop) (D : va_G) (z0 b L bo mo oa da : Nat) (LR : Nat → me_M → Prop) (pc0 : Nat) : Prop :=
  ∀ (t n : Nat) (M : me_M) (ls : Array Slot) (H : Heap) (locs : List Loc), 6 * t + 6 ≤ L → LR t M → me_at D z0 M n s H locs → lv_has ls 10 [(0, .ref b), (1, .ref bo), (2, .ref mo), (3, .ref oa), (4, .ref da), (5, .int (nI (6 * t)))] →
    (∀ (ls1 : Array Slot) (H1 : Heap) (locs1 : List Loc) (n5 : Nat) (M2 : me_M), lv_has ls1 10 [(0, .ref b), (1, .ref bo), (2, .ref mo), (3, .ref oa), (4, .ref da), (5, .int (nI (6 * t)))] → LR (t + 1) M2 → me_at D z0 M2 n5 s H1 locs1 → W p l e R s m args below meth c H1 locs1 (1000 + 100 * (t + 1)) (14000 + 2000 * (t + 1)) Q (F0 m 2920 ls1 [])) →
    W p l e R s m args below meth c H locs (1000 + 100 * t) (14000 + 2000 * t) Q (F0 m pc0 ls [])
set_option maxHeartbeats 1000000 in
theorem lw_loop {LR : Nat → me_M → Prop} (hC : me_cx ws_all p c cL_law 10 s args m RL D tb X z0) (hX : va_X b L xs s s.heap) (hbl : b < s.heap.size) (hbA : ¬ me_A z0 b) (hL : L ≤ 3072)
    (hall : ∀ k pc0 : Nat, lw_hd[k]? = some pc0 → lw_ck p l e R s m args below meth c Q D z0 b L bo mo oa da LR pc0) (hskip : ∀ t M, t < 512 → LR t M → LR (t + 1) M)
    (hend : ∀ (ls1 : Array Slot) (H1 : Heap) (locs1 : List Loc) (n5 : Nat) (M2 : me_M), me_at D z0 M2 n5 s H1 locs1 → W p l e R s m args below meth c H1 locs1 60000 1100000 Q (F0 m 2926 ls1 [])) :
    ∀ (j t n : Nat) (M : me_M) (ls : Array Slot) (H : Heap) (locs : List Loc), t + j = 513 → LR t M → me_at D z0 M n s H locs → lv_has ls 10 [(0, .ref b), (1, .ref bo), (2, .ref mo), (3, .ref oa), (4, .ref da), (5, .int (nI (6 * t)))] → W p l e R s m args below meth c H locs (1000 + 100 * t) (14000 + 2000 * t) Q (F0 m 28 ls []) := by
  have hx := hC.1
  have hb := hC.2.1
  intro j
  induction j with
  | zero =>
    intro t n M ls H locs ht hR hM hl
    refine lv_iload hx hb dL_law_28 (lv_at hl 5 rfl) ?_
    refine lv_aload_n hx hb dL_law_30 rfl (lv_at hl 0 rfl) ?_
    refine va_slen hx hb hX hbl hbA hM.2.2.2.2 dL_law_31 ?_
    refine lv_bipush (v := 6) hx hb dL_law_32 (by decide) ?_
    refine lv_isub hx hb dL_law_34 ?_
    refine lv_icmp_gt (tgt := 2926) hx hb dL_law_35 (by decide) (fun _ => ?_) (fun h => ?_)
    · exact W.widen (by omega) (by omega) (hend ls H locs n M hM)
    · exact absurd ((lw_cond hL (by omega)).mpr (by omega)) h
  | succ j ih =>
    intro t n M ls H locs ht hR hM hl
    refine lv_iload hx hb dL_law_28 (lv_at hl 5 rfl) ?_
    refine lv_aload_n hx hb dL_law_30 rfl (lv_at hl 0 rfl) ?_
    refine va_slen hx hb hX hbl hbA hM.2.2.2.2 dL_law_31 ?_
    refine lv_bipush (v := 6) hx hb dL_law_32 (by decide) ?_
    refine lv_isub hx hb dL_law_34 ?_
    refine lv_icmp_gt (tgt := 2926) hx hb dL_law_35 (by decide) (fun _ => ?_) (fun h => ?_)
    · exact W.widen (by omega) (by omega) (hend ls H locs n M hM)
    have h6 : 6 * t + 6 ≤ L := Classical.not_not.mp (fun q => h ((lw_cond hL (by omega)).mpr q))
    have nxt : ∀ (ls1 : Array Slot) (H1 : Heap) (locs1 : List Loc) (n5 : Nat) (M2 : me_M), lv_has ls1 10 [(0, .ref b), (1, .ref bo), (2, .ref mo), (3, .ref oa), (4, .ref da), (5, .int (nI (6 * t)))] → LR (t + 1) M2 → me_at D z0 M2 n5 s H1 locs1 → W p l e R s m args below meth c H1 locs1 (1000 + 100 * (t + 1)) (14000 + 2000 * (t + 1)) Q (F0 m 2920 ls1 []) := by
      intro ls1 H1 locs1 n5 M2 hl1 hR1 hM1
      refine lv_iinc (k := 5) (v := nI (6 * (t + 1))) (lv' := [(5, .int (nI (6 * (t + 1)))), (0, .ref b), (1, .ref bo), (2, .ref mo), (3, .ref oa), (4, .ref da)]) hx hb dL_law_2920 hl1 rfl (by show nI (6 * t) + nI 6 = _; rw [nI_add]; rfl) (by decide) rfl (fun ls2 hl2 => ?_)
      refine lv_goto (tgt := 28) hx hb dL_law_2923 (by decide) ?_
      exact ih (t + 1) n5 M2 ls2 H1 locs1 (by omega) hR1 hM1 (lv_sub hl2 [1, 2, 3, 4, 5, 0] rfl)
    refine lv_aload_n hx hb dL_law_38 rfl (lv_at hl 0 rfl) ?_
    refine lv_iload hx hb dL_law_39 (lv_at hl 5 rfl) ?_
    obtain ⟨e1, e2⟩ := me_ix (i := nI (6 * t)) (k := 6 * t) (N := L) rfl (by omega) (by omega)
    refine va_sld hx hb hX hbl hbA hM.2.2.2.2 e1 dL_law_41 ?_
    rw [e2]
    refine lv_bipush (v := 63) hx hb dL_law_42 (by decide) ?_
    refine lv_iand hx hb dL_law_44 ?_
    obtain ⟨kx, hk, ek⟩ := lw_and63 (xs (6 * t))
    rw [ek]
    have ti := nI_toInt (n := kx) (by omega)
    by_cases h55 : kx < 55
    · have hof : ∃ pc0, lw_hd[kx]? = some pc0 := ⟨_, List.getElem?_eq_getElem (by rw [lw_hd_len]; exact h55)⟩
      obtain ⟨pc0, hpc⟩ := hof
      refine lv_tableIn (off := (pc0 : Int) - 45) (tgt := pc0) hx hb dL_law_45 (by rw [ti]; omega) (by rw [ti]; omega) ?_ (by omega) ?_
      · rw [ti, show ((kx : Int) - 0).toNat = kx from by omega]
        have hz := lw_offs ⟨kx, h55⟩
        simp only [] at hz
        rw [hpc] at hz
        exact hz
      · exact hall kx pc0 hpc t n M ls H locs h6 hR hM hl nxt
    · refine lv_tableOut (tgt := 2920) hx hb dL_law_45 (Or.inr (by rw [ti]; omega)) (by decide) ?_
      exact W.widen (by omega) (by omega) (nxt ls H locs n M hl (hskip t M (by omega) hR) hM)
end LWL
