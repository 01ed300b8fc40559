/-! ===== the law's first steps: the bureau, the model, the two arrays of answers ===== -/
/-- the memory behind them: the bureau at bo, the model at bo + 919, the arrays at bo + 929 and bo + 930 -/
def lw_Mc (tb : Nat → ClassId) (bo : Nat) : me_M := sp tb (bo + 722) (rG ftY) (bq tb bo (fun _ _ => 0) (upd (fun _ => 0) 3 (-1)) (fun _ => 0) (fun _ => 0) (fun _ => 0) (me_up (me_up (me_up (fun _ => none) bo (.inr (7, [.null, .null, .null, .null, .null, .null, .int 0, .null, .int 0, .int 0, .int 0]))) (bo + 787) (.inr (3, ps_fs (bo + 788) 169 (bo + 722) (rp ftY)))) (bo + 788) (.inl (tb 1, 169, .inl ftT))))
def lw_Mm (tb : Nat → ClassId) (bo : Nat) : me_M := mq tb (bo + 919) (upd zz 6 (-1)) iwZ.1 zz zz zz isE iwZ.2 zz zz (lw_Mc tb bo)
def lw_MA (tb : Nat → ClassId) (bo : Nat) : me_M := me_up (me_up (lw_Mm tb bo) (bo + 929) (.inl (tb 3, 1, .inr (.inl (fun _ => 0))))) (bo + 930) (.inl (tb 4, 1, .inr (.inr (.inr (.inl (fun _ => 0))))))
theorem lw_mt {tb : Nat → ClassId} {mo : Nat} {F w av od sv sl nz ip ot : Nat → Int32} {M0 : me_M} {x : va_E} : mq tb mo F w av od sv sl nz ip ot (me_up M0 mo x) = mq tb mo F w av od sv sl nz ip ot M0 := by
  funext q
  unfold mq
  by_cases h : q = mo
  · rw [if_pos h, if_pos h]
  · rw [if_neg h, if_neg h, me_up_n h]
section LFI
variable {p : Program} {l : Launch} {e : Env} {s : State} {m : MethodId} {args : Array Value} {below : List Frame} {meth : Method} {c : Code} {H : Heap} {Q : State → Prop} {ls : Array Slot}
variable {D : va_G} {tb : Nat → ClassId} {X : State → Prop} {z0 b : Nat}
set_option maxHeartbeats 4000000 in
theorem lw_first {kK kV : Nat → Nat} (hC : me_cx ws_all p c cL_law 10 s args m RL D tb X z0) (hN : ∀ U, X U → me_nest U) (hKS : ∀ U, X U → me_ks kK kV z0 U) (hM : me_at D z0 (fun _ => none) z0 s H []) (hl : lv_has ls 10 [(0, .ref b)])
    (kk : ∀ (ls1 : Array Slot) (H1 : Heap) (locs1 : List Loc), lv_has ls1 10 [(0, .ref b), (1, .ref z0), (2, .ref (z0 + 919)), (3, .ref (z0 + 929)), (4, .ref (z0 + 930)), (5, .int (nI (6 * 0)))] → me_at D z0 (lw_MA tb z0) (z0 + 931) s H1 locs1 → W p l e room_1 s m args below meth c H1 locs1 (1000 + 100 * 0) (14000 + 2000 * 0) Q (F0 m 28 ls1 [])) :
    W p l e room_1 s m args below meth c H [] 0 0 Q (F0 m 0 ls []) := by
  have hx := hC.1
  have hb := hC.2.1
  have hw := hC.2.2.2.2.1
  refine me_new (C := RX7) (T := TX7) (N := 11) (ci := 7) (fs := [.null, .null, .null, .null, .null, .null, .int 0, .null, .int 0, .int 0, .int 0]) (M2 := me_up (fun _ => none) z0 (.inr (7, [.null, .null, .null, .null, .null, .null, .int 0, .null, .int 0, .int 0, .int 0]))) hC hM in_X7 tyX7 tyX7_ok w_27 w_28 w_1 rfl (fun j hj => by rcases (show j = 0 ∨ j = 1 ∨ j = 2 ∨ j = 3 ∨ j = 4 ∨ j = 5 ∨ j = 6 ∨ j = 7 ∨ j = 8 ∨ j = 9 ∨ j = 10 by omega) with rfl | rfl | rfl | rfl | rfl | rfl | rfl | rfl | rfl | rfl | rfl <;> rfl) (Nat.le_of_ble_eq_true rfl) (Nat.le_of_ble_eq_true rfl) rfl dL_law_0 (fun H hM => ?_)
  refine lv_dup hx hb dL_law_3 rfl ?_
  refine me_callIv (As := []) (rest := [.ref z0]) hC hl.1 hM (c_X7_init l D tb X z0 (z0 + 1) kK kV z0 _ hN hKS (me_up_s _ _ _) rfl) (ki_L_135 hw rfl rfl ⟨by decide, by decide⟩) rfl rfl (Nat.le_of_ble_eq_true rfl) dL_law_4 ⟨Nat.le_of_ble_eq_true rfl, Nat.le_of_ble_eq_true rfl⟩ (fun H locs hM => ?_)
  have hM : me_at D z0 (lw_Mc tb z0) (z0 + 919) s H locs := hM
  generalize hc0 : lw_Mc tb z0 = C0 at hM
  refine lv_astore_n (lv' := [(1, .ref z0), (0, .ref b)]) hx hb dL_law_7 rfl hl (by decide) rfl (fun ls hl => ?_)
  refine me_new (C := RX8) (T := TX8) (N := 23) (ci := 8) (fs := [.null, .int 0, .null, .null, .null, .int 0, .null, .int 0, .null, .null, .null, .int 0, .null, .int 0, .int 0, .int 0, .int 0, .int 0, .int 0, .int 0, .int 0, .int 0, .int 0]) (M2 := me_up C0 (z0 + 919) (.inr (8, [.null, .int 0, .null, .null, .null, .int 0, .null, .int 0, .null, .null, .null, .int 0, .null, .int 0, .int 0, .int 0, .int 0, .int 0, .int 0, .int 0, .int 0, .int 0, .int 0]))) hC hM in_X8 tyX8 tyX8_ok w_1303 w_1304 w_14 rfl (fun j hj => by rcases (show j = 0 ∨ j = 1 ∨ j = 2 ∨ j = 3 ∨ j = 4 ∨ j = 5 ∨ j = 6 ∨ j = 7 ∨ j = 8 ∨ j = 9 ∨ j = 10 ∨ j = 11 ∨ j = 12 ∨ j = 13 ∨ j = 14 ∨ j = 15 ∨ j = 16 ∨ j = 17 ∨ j = 18 ∨ j = 19 ∨ j = 20 ∨ j = 21 ∨ j = 22 by omega) with rfl | rfl | rfl | rfl | rfl | rfl | rfl | rfl | rfl | rfl | rfl | rfl | rfl | rfl | rfl | rfl | rfl | rfl | rfl | rfl | rfl | rfl | rfl <;> rfl) (Nat.le_of_ble_eq_true rfl) (Nat.le_of_ble_eq_true rfl) rfl dL_law_8 (fun H hM => ?_)
  refine lv_dup hx hb dL_law_11 rfl ?_
  refine me_callIv (As := []) (rest := [.ref (z0 + 919)]) hC hl.1 hM (c_X8_init l D tb X z0 (z0 + 919 + 1) (z0 + 919) C0 rfl) (ki_L_138 hw rfl rfl ⟨by decide, by decide⟩) rfl rfl (Nat.le_of_ble_eq_true rfl) dL_law_12 ⟨Nat.le_of_ble_eq_true rfl, Nat.le_of_ble_eq_true rfl⟩ (fun H locs hM => ?_)
  subst hc0
  have hM : me_at D z0 (lw_Mm tb z0) (z0 + 929) s H locs := hM
  generalize hm0 : lw_Mm tb z0 = E0 at hM
  refine lv_astore_n (lv' := [(2, .ref (z0 + 919)), (1, .ref z0), (0, .ref b)]) hx hb dL_law_15 rfl hl (by decide) rfl (fun ls hl => ?_)
  refine lv_iconst (v := 1) hx hb dL_law_16 (by decide) ?_
  refine me_newa (atype := .long) (N' := 1) (a0 := (1, .inr (.inl (fun _ => 0)))) (k := 3) (M2 := me_up E0 (z0 + 929) (.inl (tb 3, 1, .inr (.inl (fun _ => 0))))) hC hM w_1932 rfl (fun _ => rfl) (by decide) (by decide) (by decide) (Nat.le_of_ble_eq_true rfl) (Nat.le_of_ble_eq_true rfl) rfl dL_law_17 (fun H hM => ?_)
  refine lv_astore_n (lv' := [(3, .ref (z0 + 929)), (2, .ref (z0 + 919)), (1, .ref z0), (0, .ref b)]) hx hb dL_law_19 rfl hl (by decide) rfl (fun ls hl => ?_)
  refine lv_iconst (v := 1) hx hb dL_law_20 (by decide) ?_
  refine me_newa (atype := .double) (N' := 1) (a0 := (1, .inr (.inr (.inr (.inl (fun _ => 0)))))) (k := 4) (M2 := me_up (me_up E0 (z0 + 929) (.inl (tb 3, 1, .inr (.inl (fun _ => 0))))) (z0 + 930) (.inl (tb 4, 1, .inr (.inr (.inr (.inl (fun _ => 0))))))) hC hM w_1933 rfl (fun _ => rfl) (by decide) (by decide) (by decide) (Nat.le_of_ble_eq_true rfl) (Nat.le_of_ble_eq_true rfl) rfl dL_law_21 (fun H hM => ?_)
  refine lv_astore (lv' := [(4, .ref (z0 + 930)), (3, .ref (z0 + 929)), (2, .ref (z0 + 919)), (1, .ref z0), (0, .ref b)]) hx hb dL_law_23 hl (by decide) rfl (fun ls hl => ?_)
  refine lv_iconst (v := 0) hx hb dL_law_25 (by decide) ?_
  refine lv_istore (lv' := [(5, .int 0), (4, .ref (z0 + 930)), (3, .ref (z0 + 929)), (2, .ref (z0 + 919)), (1, .ref z0), (0, .ref b)]) hx hb dL_law_26 hl (by decide) rfl (fun ls hl => ?_)
  subst hm0
  exact W.widen (Nat.le_of_ble_eq_true rfl) (Nat.le_of_ble_eq_true rfl) (kk ls H locs (lv_sub hl [5, 4, 3, 2, 1, 0] rfl) hM)
end LFI
