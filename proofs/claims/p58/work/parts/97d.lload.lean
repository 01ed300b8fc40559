set_option maxHeartbeats 4000000 in
theorem c_L_load (l : Launch) (D : va_G) (tb : Nat → ClassId) (X : State → Prop) (z0 n : Nat) (bo : Nat) (g : Nat → Int32) (G : Nat → Nat → Int32) (F sf inp out : Nat → Int32) (M0 : me_M) (S B L P : Nat) (hN : ∀ U, X U → me_nest U) (kK kV : Nat → Nat) (q len : Nat) (lt : List Nat) (tf : Nat → Int32)  (hW : wf g S B L P) (hKS : ∀ U, X U → me_ks kK kV z0 U) (hF0 : F 0 = 0) (hqb : bo + 919 ≤ q) (hq : M0 q = some (.inr (8, [.ref (q + 1), .int 0, .int 0, .int 0]))) (hv : M0 (q + 1) = some (.inl (tb 1, len, .inl tf))) (hlen : len ≤ 170) (hqn : q + 1 < n) (hfn : M0 n = none) (htf : ∀ p, p < len → tf p = sb_b (lt.getD p 0)) (hlt : ∀ p, p < len → lt.getD p 0 < 128) (hek : ∀ inp2 : Nat → Int32, (∀ p, p < len → inp2 p = sb_b (lt.getD p 0)) → pEk (rp (ldF inp2 len (G 0))) = 0) : Met l yL_load (.codeWith yL_load cL_load 4 (some .int) [(6, 11, 12, 34), (6, 11, 16, 36)] :: ws_all) ({ frames := 7, cells := 2, slots := 13, locals := 160 } : Room) (me_Pc [.ref bo, .ref q] D tb X z0 (sp tb (bo + 722) g (bq tb bo G F sf inp out M0)) n) (me_Qp D z0 (fun r1 M1 => ∃ (inp2 : Nat → Int32) (m2 : Nat), (∀ p, p < len → inp2 p = sb_b (lt.getD p 0)) ∧ r1 = (cpF (rG (ldF inp2 len (G 0))) (rS (ldF inp2 len (G 0))) (rB (ldF inp2 len (G 0))) (rL (ldF inp2 len (G 0))) (rP (ldF inp2 len (G 0))) g) 6 ∧ M1 = sp tb (bo + 722) (cpF (rG (ldF inp2 len (G 0))) (rS (ldF inp2 len (G 0))) (rB (ldF inp2 len (G 0))) (rL (ldF inp2 len (G 0))) (rP (ldF inp2 len (G 0))) g) (bq tb bo (updG G 0 (rG (ldF inp2 len (G 0)))) (upd (upd (upd (upd (upd F 0 (nI m2)) 0 0) 2 (nI (pEk (rp (ldF inp2 len (G 0)))))) 3 (pEo (rp (ldF inp2 len (G 0))))) 5 0) (upd (upd sf 0 (vp_nar .boolean 0)) 1 (vp_nar .boolean 0)) inp2 out M0))) 2 13 (me_A z0) := by
  refine me_openH (by decide) (Nat.le_of_ble_eq_true rfl) ?_
  intro p e s m args below meth c ls hC ht hr hlk hM hl
  have hl : lv_has ls 4 [(0, .ref bo), (1, .ref q)] := hl
  have hx := hC.1
  have hb := hC.2.1
  have hw := hC.2.2.2.2.1
  refine lv_aload_n hx hb dL_load_0 rfl (lv_at hl 0 rfl) ?_
  refine lv_aload_n hx hb dL_load_1 rfl (lv_at hl 1 rfl) ?_
  refine me_callSp (As := [.ref bo, .ref q]) (rest := []) hC hl.1 hM (c_L_type l D tb X z0 n bo g G F sf inp out M0 S B L P kK kV q len lt tf hW hKS hF0 hqb hq hv hlen hqn hfn htf hlt) (ks_L_24 hw rfl rfl ⟨Nat.le_of_ble_eq_true rfl, Nat.le_of_ble_eq_true rfl⟩) rfl rfl (Nat.le_of_ble_eq_true rfl) dL_load_2 ⟨Nat.le_of_ble_eq_true rfl, Nat.le_of_ble_eq_true rfl⟩ (fun r_1 M_1 hP_1 H locs n_1 hM => ?_)
  obtain ⟨inp2, m2, rfl, hi2, hm2, hm7, rfl⟩ := hP_1
  refine lv_istore_n (lv' := [(2, .int (nI len)), (0, .ref bo), (1, .ref q)]) hx hb dL_load_5 rfl hl (by decide) rfl (fun ls hl => ?_)
  refine lv_aload_n hx hb dL_load_6 rfl (lv_at hl 1 rfl) ?_
  refine lv_iload_n hx hb dL_load_7 rfl (lv_at hl 0 rfl) ?_
  have hfr_ := bq_fresh hM
  have hM0_ := hM
  have hek2 := hek inp2 hi2
  refine me_callVi (As := [.int (nI len)]) (rest := []) hC hl.1 hM (c_X7_load l D tb X z0 n_1 bo g G (upd F 0 (nI m2)) sf inp2 out M0 hN kK kV len m2 hKS (upd_s _ _ _) hm7 (bq_lt hM) hm2 hek2) (kv_L_30 hw rfl rfl ⟨Nat.le_of_ble_eq_true rfl, Nat.le_of_ble_eq_true rfl⟩) rfl rfl (bq_at h_b) rfl (Nat.le_of_ble_eq_true rfl) dL_load_8 ⟨Nat.le_of_ble_eq_true rfl, Nat.le_of_ble_eq_true rfl⟩ (fun H locs hM => ?_)
  have hM := bq_drop hfr_ (bq_lt hM0_) hM
  exact me_pret hC hr hlk hM (⟨inp2, m2, hi2, rfl, rfl⟩) (rfl) dL_load_11
