section LRUN
variable {p : Program} {e : Env} {s : State} {m : MethodId} {below : List Frame} {meth : Method} {c : Code} {Q : State → Prop}
/-- the law's walk, from its entry to its last two instructions, over what its cases keep -/
theorem lw_run (l : Launch) {b L : Nat} {xs : Nat → Int32} (LR : (Nat → ClassId) → Nat → Nat → me_M → Prop) (hL : L ≤ 3072) (hx : p.tables.exec = Jvm.exec) (hb : c.code = cL_law) (hml : c.maxLocals = 10) (hown : s.vm.findClass RL = some m.cls)
    (hts : ∀ w ∈ ws_all, w.before #[Value.ref b] s = true) (hT : ∀ w ∈ tables_1, w.before #[Value.ref b] s = true) (hv : (Jvm.Cond.and given_1 narrow_1).before #[Value.ref b] s = true) (hX : va_X b L xs s s.heap) (hbl : b < s.heap.size)
    (h0 : ∀ tb, LR tb s.heap.size 0 (lw_MA tb s.heap.size)) (hskip : ∀ tb z0 t M, t < 512 → LR tb z0 t M → LR tb z0 (t + 1) M)
    (hcases : ∀ (D : va_G) (tb : Nat → ClassId) (kK kV : Nat → Nat) (kO kT : Nat), me_cx ws_all p c cL_law 10 s #[Value.ref b] m RL D tb (lw_X kK kV kO kT s.heap.size) s.heap.size → ∀ k pc0 : Nat, lw_hd[k]? = some pc0 → lw_ck p l e room_1 s m #[Value.ref b] below meth c Q D s.heap.size b L s.heap.size (s.heap.size + 919) (s.heap.size + 929) (s.heap.size + 930) (LR tb s.heap.size) pc0)
    (hend : ∀ (ls1 : Array Slot) (H1 : Heap) (locs1 : List Loc), va_S (me_A s.heap.size) s.heap H1 locs1 → W p l e room_1 s m #[Value.ref b] below meth c H1 locs1 60000 1100000 Q (F0 m 2926 ls1 [])) :
    W p l e room_1 s m #[Value.ref b] below meth c s.heap [] 0 0 Q (entryFrame m ([Value.ref b] : List Value).toArray 10) := by
  obtain ⟨D, tb, hK⟩ := lw_K hts hT
  obtain ⟨kK, kV, kO, kT, hXX⟩ := lw_Xof hts hT hv
  have hC : me_cx ws_all p c cL_law 10 s #[Value.ref b] m RL D tb (lw_X kK kV kO kT s.heap.size) s.heap.size := ⟨hx, hb, hml, hown, hts, ⟨hK, hXX⟩, lw_st⟩
  have hbA : ¬ me_A s.heap.size b := fun q => Nat.lt_irrefl _ (Nat.lt_of_lt_of_le hbl q)
  have hl := lv_entry [Value.ref b] (n := 10) (Nat.le_of_ble_eq_true rfl)
  rw [lg_entry_eq]
  have hM : me_at D s.heap.size (fun _ => none) s.heap.size s s.heap [] := ⟨(fun q x h => by cases h), rfl, Nat.le_refl _, Nat.le_refl _, va_S.rf⟩
  refine lw_first hC (fun U h => h.1) (fun U h => h.2.2.1) hM hl (fun ls1 H1 locs1 hl1 hM1 => ?_)
  exact lw_loop hC hX hbl hbA hL (hcases D tb kK kV kO kT hC) (hskip tb s.heap.size) (fun ls2 H2 locs2 n5 M2 hM2 => hend ls2 H2 locs2 hM2.2.2.2.2) 513 0 _ _ _ _ _ rfl (h0 tb) hM1 hl1
end LRUN
