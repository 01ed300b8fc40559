section LW2
variable {s : State} {args : Array Value}
theorem lw_xwT : ∀ w ∈ xw_B, w ∈ tables_1 := by decide +kernel
theorem lw_hne1 : ∀ i : Nat, i < 12 → ∀ j : Nat, j < 12 → i ≠ j → Int32.ofNat (ks_len.getD i 0) ≠ Int32.ofNat (ks_len.getD j 0) ∨ (ks_byt.getD i []).getD 0 0 ≠ (ks_byt.getD j []).getD 0 0 := by decide +kernel
theorem lw_hne0 : ∀ i : Nat, i < 12 → 0 < ks_len.getD i 0 := by decide +kernel
theorem lw_evref {t : Term} {C : String} (h : (Cond.exactly t C).before args s = true) : ∃ x, t.eval args s none [] s = some (.ref x) := by
  obtain ⟨a, -, -, -, he, -⟩ := Cond.exactly_spec h
  exact ⟨a, he⟩
theorem lw_hne (hF : ∀ (i : Nat) {w : Cond}, lw_fl[i]? = some w → w.before args s = true) : ∀ i j : Nat, i < 12 → j < 12 → i ≠ j → (Cond.not (Cond.eq (lw_tm i) (lw_tm j))).before args s = true ∨ (Cond.not (Cond.eq (lw_tm j) (lw_tm i))).before args s = true := by
  intro i j hi hj hij
  obtain ⟨x, hx⟩ := lw_evref (hF _ (lw_k1 i hi))
  obtain ⟨y, hy⟩ := lw_evref (hF _ (lw_k1 j hj))
  refine Or.inl (lw_noteq hx hy (fun h => ?_))
  subst h
  rcases lw_hne1 i hi j hj hij with h | h
  · exact h (lw_len_same hx hy (va_eqt (hF _ (lw_k4 i hi))) (va_eqt (hF _ (lw_k4 j hj))))
  · exact h (lw_el_same hx hy (va_eqt (hF _ (lw_k5 i hi 0 (lw_hne0 i hi)))) (va_eqt (hF _ (lw_k5 j hj 0 (lw_hne0 j hj)))))
theorem lw_Xof (hts : ∀ w ∈ ws_all, w.before args s = true) (hT : ∀ w ∈ tables_1, w.before args s = true) (hv : (Jvm.Cond.and given_1 narrow_1).before args s = true) : ∃ (kK kV : Nat → Nat) (kO kT : Nat), lw_X kK kV kO kT s.heap.size s := by
  have hF : ∀ (i : Nat) {w : Cond}, lw_fl[i]? = some w → w.before args s = true := fun i w h => flat_of_before _ hv w (List.mem_of_getElem? h)
  have hW : ∀ (i : Nat) {w : Cond}, tables_1[i]? = some w → w.before args s = true := fun i w h => lw_tw hT i h
  have hA : ∀ a : Nat, a < s.heap.size → ¬ me_A s.heap.size a := fun a h q => Nat.lt_irrefl _ (Nat.lt_of_lt_of_le h q)
  obtain ⟨kK, kV, hS, hev⟩ := vk_Sof (args := args) (s := s) (N := 12) (tm := lw_tm) (len := ks_len) (byt := ks_byt) (A := me_A s.heap.size) (fun i hi => Nat.lt_of_le_of_lt (ks_small i hi) (by decide)) (fun i hi => hF _ (lw_k1 i hi)) (fun i hi => hF _ (lw_k2 i hi)) (fun i hi => hF _ (lw_k3 i hi)) (fun i hi => hF _ (lw_k4 i hi)) (fun i hi j hj => hF _ (lw_k5 i hi j hj)) (lw_hne hF) hA
  have hi0 : (Cond.initialized "java/lang/Integer").before args s = true := hW 19 (by decide +kernel)
  have hi1 : (Cond.initialized "java/lang/Throwable").before args s = true := hW 20 (by decide +kernel)
  obtain ⟨tO, eO, vO⟩ := va_Tof (args := args) (s := s) (tm := .static "java/lang/Integer" "DigitOnes" "[B") (ty := .byte) (N := 100) (f := fun k => .int (sb_b (48 + k % 10))) (A := me_A s.heap.size) (by decide) (hF 12 (by decide +kernel)) (va_eqt (hF 13 (by decide +kernel))) (fun j hj => va_eqt (hF _ (lw_d1 j hj))) hA
  obtain ⟨tT, eT, vT⟩ := va_Tof (args := args) (s := s) (tm := .static "java/lang/Integer" "DigitTens" "[B") (ty := .byte) (N := 100) (f := fun k => .int (sb_b (48 + k / 10))) (A := me_A s.heap.size) (by decide) (hF 115 (by decide +kernel)) (va_eqt (hF 116 (by decide +kernel))) (fun j hj => va_eqt (hF _ (lw_d2 j hj))) hA
  obtain ⟨v, ev, vr⟩ := Cond.isRef_spec (hF 5 (w := .isRef (.static "jdk/internal/util/Preconditions" "SIOOBE_FORMATTER" "Ljava/util/function/BiFunction;")) (by decide +kernel))
  have hvv : v = .null ∨ ∃ q, v = .ref q := by
    cases v with
    | null => exact Or.inl rfl
    | ref q => exact Or.inr ⟨q, rfl⟩
    | _ => simp [Value.isRef] at vr
  obtain ⟨cur, kc, hcur, -⟩ := Cond.instantiable_spec (hW 27 (w := .instantiable RX7 11) (by decide +kernel))
  have hsA : lw_sA.before args s = true := hW 1290 (by decide +kernel)
  have hsB : lw_sB.before args s = true := hW 1291 (by decide +kernel)
  have hsC : lw_sC.before args s = true := hW 1292 (by decide +kernel)
  have hsD : lw_sD.before args s = true := hW 1293 (by decide +kernel)
  have hib : (Cond.instantiable RJ4 4).before args s = true := hW 856 (by decide +kernel)
  refine ⟨kK, kV, tO, tT, ?_, ?_, ?_, ?_, ?_, ?_, ?_, ?_, ?_⟩
  · exact ⟨va_Nw.of rfl (hW 49 (by decide +kernel)), va_Nw.of rfl (hW 80 (by decide +kernel)), va_Nw.of rfl (hW 113 (by decide +kernel)), va_Nw.of rfl (hW 145 (by decide +kernel)), va_Nw.of rfl (hW 370 (by decide +kernel)), va_Nw.of rfl (hW 505 (by decide +kernel)), va_AO.of (hW 41 (by decide +kernel)), va_AO.of (hW 43 (by decide +kernel)), va_AO.of (hW 45 (by decide +kernel)), va_AO.of (hW 47 (by decide +kernel)), va_AO.of (hW 232 (by decide +kernel))⟩
  · refine ⟨vx_Zqof (hW 604 (by decide +kernel)) hi1 (hF 9 (by decide +kernel)) hA, vx_Zqof (hW 606 (by decide +kernel)) hi1 (hF 10 (by decide +kernel)) hA, fun w hw => va_Nw.of (lw_xwB w hw).2 (hT w (lw_xwT w hw)), fun k tx h => ?_⟩
    obtain ⟨-, -, -, a, -, -, -, -, -, he⟩ := Cond.stringRef_spec hcur (hT _ h)
    exact ⟨a, vk_R.of (hT _ h) he⟩
  · exact ⟨hS, va_Zof (hW 260 (by decide +kernel)) (hW 9 (by decide +kernel)) (va_eqt (hF 4 (by decide +kernel))) hA, ⟨v, hvv, va_Zof (hW 276 (by decide +kernel)) (hW 11 (by decide +kernel)) ev hA⟩, vk_R.of (hW 346 (by decide +kernel)) (hev 0 (by decide)), vk_R.of (hW 361 (by decide +kernel)) (hev 1 (by decide)), vk_R.of (hW 381 (by decide +kernel)) (hev 2 (by decide)), vk_R.of (hW 398 (by decide +kernel)) (hev 3 (by decide)), vk_R.of (hW 422 (by decide +kernel)) (hev 4 (by decide)), vk_R.of (hW 471 (by decide +kernel)) (hev 5 (by decide)), vk_R.of (hW 480 (by decide +kernel)) (hev 6 (by decide)), vk_R.of (hW 247 (by decide +kernel)) (hev 7 (by decide)), vk_R.of (hW 857 (by decide +kernel)) (hev 8 (by decide)), vk_R.of (hW 1027 (by decide +kernel)) (hev 9 (by decide)), vk_R.of (hW 1029 (by decide +kernel)) (hev 10 (by decide)), vk_R.of (hW 1030 (by decide +kernel)) (hev 11 (by decide))⟩
  · exact ⟨va_Zref (hW 1003 (by decide +kernel)) hi0 eO hA, va_Zref (hW 1005 (by decide +kernel)) hi0 eT hA, vO, vT, va_Nw.of rfl (lw_selp (by decide) hib hsA (hW 894 (by decide +kernel)) (hW 895 (by decide +kernel))), va_Nw.of rfl (lw_selp (by decide) hib hsB (hW 898 (by decide +kernel)) (hW 899 (by decide +kernel))), va_Nw.of rfl (lw_selp (by decide) hib hsC (hW 945 (by decide +kernel)) (hW 946 (by decide +kernel))), va_Nw.of rfl (lw_selp (by decide) hib hsD (hW 949 (by decide +kernel)) (hW 950 (by decide +kernel))), va_Nw.of rfl (hW 917 (by decide +kernel))⟩
  · exact ⟨va_Nw.of rfl (hW 646 (by decide +kernel)), va_Nw.of rfl (hW 579 (by decide +kernel)), va_Nw.of rfl (hW 724 (by decide +kernel)), va_Nc.of (args := args) (hF 227 (by decide +kernel)), va_Nc.of (args := args) (hF 228 (by decide +kernel)), va_Nc.of (args := args) (hF 239 (by decide +kernel))⟩
  · exact va_Nw.of rfl hsA
  · exact va_Nw.of rfl hsB
  · exact va_Nw.of rfl hsC
  · exact va_Nw.of rfl hsD
end LW2
