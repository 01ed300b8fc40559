/-- the memory behind the bureau's making -/
def lw_M0 (tb : Nat → ClassId) (bo : Nat) : me_M := me_up (me_up (me_up (fun _ => none) bo (.inr (7, [.null, .null, .null, .null, .null, .null, .int 0, .null, .int 0, .int 0, .int 0]))) (bo + 787) (.inr (3, ps_fs (bo + 788) 169 (bo + 722) (rp ftY)))) (bo + 788) (.inl (tb 1, 169, .inl ftT))
section LAWF
variable {p : Program} {l : Launch} {e : Env} {s : State} {m : MethodId} {args : Array Value} {below : List Frame} {meth : Method} {c : Code} {H : Heap} {Q : State → Prop} {ls : Array Slot}
variable {D : va_G} {tb : Nat → ClassId} {X : State → Prop} {z0 b LS : Nat} {xs : Nat → Int32}
set_option maxHeartbeats 4000000 in
theorem law_0 {kK kV : Nat → Nat} (hC : me_cx ws_all p c cL_law 12 s args m RL D tb X z0) (hN : ∀ U, X U → me_nest U) (hKS : ∀ U, X U → me_ks kK kV z0 U) (hX : va_X b LS xs s s.heap) (hbl : b < s.heap.size) (hbA : ¬ me_A z0 b) (hLS : LS ≤ 260) (hM : me_at D z0 (fun _ => none) z0 s H []) (hl : lv_has ls 12 [(0, .ref b)])
    (kk : ∀ (f : Nat → Int32) (M9 : me_M) (ls1 : Array Slot) (H1 : Heap) (locs1 : List Loc) (n : Nat), lv_has ls1 12 [(0, .ref b), (1, .ref z0), (2, .ref (z0 + 919)), (3, .int 1), (4, .int (nI 0))] → me_at D z0 (sp tb (z0 + 722) (rG ftY) (bq tb z0 (fun _ _ => 0) (upd (fun _ => 0) 3 (-1)) (fun _ => 0) (fun _ => 0) (fun _ => 0) (me_up M9 (z0 + 919) (.inl (tb 0, 1, .inl f))))) n s H1 locs1 → W p l e room_1 s m args below meth c H1 locs1 (1000 + 1000 * 0) (7000 + 30000 * 0) Q (F0 m 34 ls1 [])) :
    W p l e room_1 s m args below meth c H [] 0 0 Q (F0 m 0 ls []) := by
  have hx := hC.1
  have hb := hC.2.1
  have hw := hC.2.2.2.2.1
  refine me_new (C := RX7) (T := TX7) (N := 11) (ci := 7) (fs := [.null, .null, .null, .null, .null, .null, .int 0, .null, .int 0, .int 0, .int 0]) (M2 := me_up (fun _ => none) z0 (.inr (7, [.null, .null, .null, .null, .null, .null, .int 0, .null, .int 0, .int 0, .int 0]))) hC hM in_X7 tyX7 tyX7_ok w_26 w_27 w_1 rfl (fun j hj => by rcases (show j = 0 ∨ j = 1 ∨ j = 2 ∨ j = 3 ∨ j = 4 ∨ j = 5 ∨ j = 6 ∨ j = 7 ∨ j = 8 ∨ j = 9 ∨ j = 10 by omega) with rfl | rfl | rfl | rfl | rfl | rfl | rfl | rfl | rfl | rfl | rfl <;> rfl) (Nat.le_of_ble_eq_true rfl) (Nat.le_of_ble_eq_true rfl) rfl dL_law_0 (fun H hM => ?_)
  refine lv_dup hx hb dL_law_3 rfl ?_
  refine me_callIv (As := []) (rest := [.ref z0]) hC hl.1 hM (c_X7_init l D tb X z0 (z0 + 1) kK kV z0 _ hN hKS (me_up_s _ _ _) rfl) (ki_L_229 hw rfl rfl ⟨by decide, by decide⟩) rfl rfl (Nat.le_of_ble_eq_true rfl) dL_law_4 ⟨Nat.le_of_ble_eq_true rfl, Nat.le_of_ble_eq_true rfl⟩ (fun H locs hM => ?_)
  have hM : me_at D z0 (sp tb (z0 + 722) (rG ftY) (bq tb z0 (fun _ _ => 0) (upd (fun _ => 0) 3 (-1)) (fun _ => 0) (fun _ => 0) (fun _ => 0) (lw_M0 tb z0))) (z0 + 919) s H locs := hM
  generalize lw_M0 tb z0 = M9 at hM
  refine lv_astore_n (lv' := [(1, .ref z0), (0, .ref b)]) hx hb dL_law_7 rfl hl (by decide) rfl (fun ls hl => ?_)
  refine lv_iconst (v := 1) hx hb dL_law_8 (by decide) ?_
  refine me_newa (atype := .int) (N' := 1) (a0 := (1, .inl (fun _ => 0))) (k := 0) hC hM w_738 rfl (fun _ => rfl) (by decide) (by decide) (by decide) (Nat.le_of_ble_eq_true rfl) (Nat.le_of_ble_eq_true rfl) (bq_new (Nat.le_refl _)) dL_law_9 (fun H hM => ?_)
  have K : ∀ v : Int32, W p l e room_1 s m args below meth c H locs 920 6332 Q (F0 m 27 ls [.int v, .int 0, .ref (z0 + 919), .ref (z0 + 919)]) := by
    intro v
    refine me_iast (k := 0) hC hM (bq_some (Nat.le_refl _) (me_up_s _ _ _)) rfl (by decide) (by decide) (bq_upo (Nat.le_refl _)) dL_law_27 (fun H locs hM => ?_)
    refine lv_astore_n (lv' := [(2, .ref (z0 + 919)), (1, .ref z0), (0, .ref b)]) hx hb dL_law_28 rfl hl (by decide) rfl (fun ls hl => ?_)
    refine lv_iconst (v := 1) hx hb dL_law_29 (by decide) ?_
    refine lv_istore_n (lv' := [(3, .int 1), (2, .ref (z0 + 919)), (1, .ref z0), (0, .ref b)]) hx hb dL_law_30 rfl hl (by decide) rfl (fun ls hl => ?_)
    refine lv_iconst (v := 0) hx hb dL_law_31 (by decide) ?_
    refine lv_istore (lv' := [(4, .int 0), (3, .int 1), (2, .ref (z0 + 919)), (1, .ref z0), (0, .ref b)]) hx hb dL_law_32 hl (by decide) rfl (fun ls hl => ?_)
    have hl9 : lv_has ls 12 [(0, .ref b), (1, .ref z0), (2, .ref (z0 + 919)), (3, .int 1), (4, .int (nI 0))] := lv_sub hl [4, 3, 2, 1, 0] rfl
    exact W.widen (Nat.le_of_ble_eq_true rfl) (Nat.le_of_ble_eq_true rfl) (kk _ M9 ls H locs _ hl9 hM)
  refine lv_dup hx hb dL_law_11 rfl ?_
  refine lv_iconst (v := 0) hx hb dL_law_12 (by decide) ?_
  refine lv_aload_n hx hb dL_law_13 rfl (lv_at hl 1 rfl) ?_
  refine va_slen hx hb hX hbl hbA hM.2.2.2.2 dL_law_14 ?_
  refine lv_if_ne (tgt := 24) hx hb dL_law_15 (by decide) (fun c1 => ?_) (fun c1 => ?_)
  · have h0 : 0 < LS := by
      rcases Nat.eq_zero_or_pos LS with z | z
      · subst z; exact absurd rfl c1
      · exact z
    refine lv_aload_n hx hb dL_law_24 rfl (lv_at hl 1 rfl) ?_
    refine lv_iconst (v := 0) hx hb dL_law_25 (by decide) ?_
    obtain ⟨e1, e2⟩ := me_ix (i := 0) (k := 0) (N := LS) rfl h0 (by omega)
    refine va_sld hx hb hX hbl hbA hM.2.2.2.2 e1 dL_law_26 ?_
    exact K _
  · refine lv_sipush (v := 1816) hx hb dL_law_18 (by decide) ?_
    refine lv_goto (tgt := 27) hx hb dL_law_21 (by decide) ?_
    exact K _
end LAWF
