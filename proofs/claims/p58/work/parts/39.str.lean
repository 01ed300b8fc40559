/-! ===== the words that the class reads: strings of the tables ===== -/
def ks_len : List Nat := [6, 6, 8, 6, 4, 7, 5, 169, 7, 8, 10, 7]
def ks_byt : List (List Int32) := [[98, 117, 114, 101, 97, 117], [115, 116, 114, 101, 101, 116], [98, 111, 114, 114, 111, 119, 101, 114], [112, 101, 114, 109, 105, 116], [108, 101, 110, 100], [119, 104, 105, 115, 116, 108, 101], [104, 111, 117, 114, 115], [98, 117, 114, 101, 97, 117, 32, 50, 32, 53, 59, 32, 115, 116, 114, 101, 101, 116, 32, 101, 108, 109, 32, 54, 48, 32, 50, 48, 59, 32, 115, 116, 114, 101, 101, 116, 32, 111, 97, 107, 32, 56, 53, 32, 53, 48, 59, 32, 98, 111, 114, 114, 111, 119, 101, 114, 32, 97, 110, 110, 32, 101, 108, 109, 32, 51, 32, 52, 48, 59, 32, 98, 111, 114, 114, 111, 119, 101, 114, 32, 98, 111, 98, 32, 111, 97, 107, 32, 55, 32, 57, 48, 59, 32, 98, 111, 114, 114, 111, 119, 101, 114, 32, 99, 105, 100, 32, 111, 97, 107, 32, 50, 32, 53, 48, 59, 32, 112, 101, 114, 109, 105, 116, 32, 111, 97, 107, 32, 49, 48, 32, 50, 59, 32, 108, 101, 110, 100, 32, 97, 110, 110, 32, 52, 32, 50, 59, 32, 108, 101, 110, 100, 32, 98, 111, 98, 32, 54, 32, 51, 59, 32, 104, 111, 117, 114, 115, 32, 53], [98, 117, 114, 101, 97, 117, 32], [59, 115, 116, 114, 101, 101, 116, 32], [59, 98, 111, 114, 114, 111, 119, 101, 114, 32], [59, 104, 111, 117, 114, 115, 32]]
def ks_c (i k : Nat) : Int32 := (ks_byt.getD i []).getD k 0
def me_ks (kK kV : Nat → Nat) (z0 : Nat) (U : State) : Prop := vk_S 12 ks_len ks_byt kK kV (me_A z0) U U.heap ∧ va_Z "java/lang/String" "COMPACT_STRINGS" "Z" (.int 1) (me_A z0) U U.heap ∧ (∃ v : Value, (v = .null ∨ ∃ q, v = .ref q) ∧ va_Z "jdk/internal/util/Preconditions" "SIOOBE_FORMATTER" "Ljava/util/function/BiFunction;" v (me_A z0) U U.heap) ∧ vk_R RX3 41 "bureau" (kK 0) U ∧ vk_R RX3 63 "street" (kK 1) U ∧ vk_R RX3 68 "borrower" (kK 2) U ∧ vk_R RX3 73 "permit" (kK 3) U ∧ vk_R RX3 78 "lend" (kK 4) U ∧ vk_R RX3 83 "whistle" (kK 5) U ∧ vk_R RX3 88 "hours" (kK 6) U ∧ vk_R RX7 53 "bureau 2 5; street elm 60 20; street oak 85 50; borrower ann elm 3 40; borrower bob oak 7 90; borrower cid oak 2 50; permit oak 10 2; lend ann 4 2; lend bob 6 3; hours 5" (kK 7) U ∧ vk_R RL 74 "bureau " (kK 8) U ∧ vk_R RL 89 ";street " (kK 9) U ∧ vk_R RL 94 ";borrower " (kK 10) U ∧ vk_R RL 96 ";hours " (kK 11) U
theorem ks_asc : ∀ i, i < 12 → ∀ k, k < ks_len.getD i 0 → ((ks_c i k &&& 255).toUInt32 % 65536).toInt32 = ks_c i k ∧ narrow .char (.int (ks_c i k)) = .int (ks_c i k) ∧ (ks_c i k).toInt8.toInt32 = ks_c i k := by decide +kernel
theorem ks_small : ∀ i, i < 12 → ks_len.getD i 0 ≤ 170 := by decide +kernel
def me_Qr (D : va_G) (z0 a : Nat) (M : me_M) (n : Nat) : Array Value → State → Outcome → State → Prop := va_Qr (fun (u : me_M × Nat) => u = (M, n)) (fun u b t => b = a ∧ me_B D z0 u t) (me_A z0)
def me_Qd (D : va_G) (z0 : Nat) (r : UInt64) (M : me_M) (n : Nat) : Array Value → State → Outcome → State → Prop := va_Qd (fun (r1 : UInt64) (u : me_M × Nat) => r1 = r ∧ u = (M, n)) (me_B D z0) (me_A z0)
def me_Qf (D : va_G) (z0 : Nat) (r : UInt32) (M : me_M) (n : Nat) : Array Value → State → Outcome → State → Prop := va_Qf (fun (r1 : UInt32) (u : me_M × Nat) => r1 = r ∧ u = (M, n)) (me_B D z0) (me_A z0)
section ME3
variable {p : Program} {l : Launch} {e : Env} {R : Room} {s : State} {m : MethodId} {args : Array Value} {below : List Frame} {meth : Method} {c : Code} {H : Heap} {locs : List Loc} {cells slots : Nat} {Q : State → Prop}
variable {cc : ByteArray} {nL pc : Nat} {ls : Array Slot} {rest st : List Value} {D : va_G} {tb : Nat → ClassId} {X : State → Prop} {z0 n a : Nat} {M : me_M} {own : String}
variable {C : String} {index maxL mc ms nA ci N' : Nat} {y : MethodName} {bytes : ByteArray} {ret : Option FieldType} {rm : Room} {As : List Value} {b n' : Nat} {M' : me_M} {r : Int32} {T' : u_T} {fs : List Value}
theorem me_tret {r v : Int32} {ty : FieldType} {M' : me_M} {n' : Nat} (hC : me_cx ws_all p c cc nL s args m own D tb X z0) (hr : meth.sig.returnType = some ty) (hlk : meth.locks = false) (hM : me_at D z0 M n s H locs) (hv : v = r) (h01 : narrow ty (.int v) = .int v) (hMM : M = M') (hn : n = n') (hdg : decode cc pc = .ok (.ireturn, 1)) : W p l e R s m args below meth c H locs cells slots (MQ below (me_Qi D z0 r M' n') args s cells slots (me_A z0)) (F0 m pc ls [.int v]) := by
  subst hv; subst hMM; subst hn
  exact W.zret hC.1 hC.2.1 hr h01 (fun t ht hW => ⟨⟨v, (M, n), rfl, ⟨rfl, rfl⟩, by rw [ht]; exact hM.2.1, by rw [ht]; exact hM.1⟩, hM.2.2.2.2.F ht⟩) hM.2.2.2.2.2.2 hdg
theorem me_aret {a : Nat} {ty : FieldType} {M' : me_M} {n' : Nat} (hC : me_cx ws_all p c cc nL s args m own D tb X z0) (hr : meth.sig.returnType = some ty) (hty : (∃ n, ty = .object n) ∨ ∃ t, ty = .array t) (hlk : meth.locks = false) (hM : me_at D z0 M n s H locs) (hMM : M = M') (hn : n = n') (hdg : decode cc pc = .ok (.areturn, 1)) : W p l e R s m args below meth c H locs cells slots (MQ below (me_Qr D z0 a M' n') args s cells slots (me_A z0)) (F0 m pc ls [.ref a]) := by
  subst hMM; subst hn
  exact W.aret hC.1 hC.2.1 hr hty (Or.inr ⟨a, rfl⟩) (fun t ht hW => ⟨⟨(M, n), a, rfl, rfl, rfl, by rw [ht]; exact hM.2.1, by rw [ht]; exact hM.1⟩, hM.2.2.2.2.F ht⟩) hM.2.2.2.2.2.2 hdg
theorem me_callVri (hC : me_cx ws_all p c cc nL s args m own D tb X z0) (hl : ls.size = nL) (hM : me_at D z0 M n s H locs) (ct : Met l y (.code y bytes maxL ret :: ws_all) rm (me_Pc (.ref b :: As) D tb X z0 M n) (me_Qi D z0 r M' n') mc ms (me_A z0)) (cw : CallW R s args own C index y bytes maxL ret (.code y bytes maxL ret :: ws_all) rm mc ms nA) (hnA : As.length = nA) (hrc : ∃ cellB : Cell, H[b]? = some cellB ∧ cellB.vm.isStatics = false ∧ s.vm.findClass C = some cellB.cls) (hst : st = As.reverse ++ .ref b :: rest) (hr : (rest.map fun v => v.category).sum ≤ 8) (hdg : decode cc pc = .ok (.invokevirtual index, 3)) (hf : cells + mc ≤ R.cells ∧ slots + ms ≤ R.slots)
    (kk : ∀ (H1 : Heap) (locs1 : List Loc), me_at D z0 M' n' s H1 locs1 → W p l e R s m args below meth c H1 locs1 (cells + mc) (slots + ms) Q (F0 m (pc + 3) ls (.int r :: rest))) : W p l e R s m args below meth c H locs cells slots Q (F0 m pc ls st) := by
  subst hst
  refine va_calli (va_runV (g := F0 m pc ls (As.reverse ++ .ref b :: rest)) (As := As) (rest := rest) ⟨hC.1, hC.2.1, hC.2.2.1, hC.2.2.2.1, hC.2.2.2.2.1⟩ ct cw ⟨me_blind, hrc, fun U hU hW => me_pre hC hM U hU hW⟩ rfl hnA hl rfl (lv_room hr) hdg hf) hM.2.2.2.2 (fun q _ h => h) (fun q h => h) (fun r1 u t H1 locs1 ht hvm hw hB hz1 hk1 hS => ?_)
  obtain ⟨rfl, rfl⟩ := hw
  exact kk H1 locs1 (me_post hM ht hB hz1 hS)
theorem me_callSr (hC : me_cx ws_all p c cc nL s args m own D tb X z0) (hl : ls.size = nL) (hM : me_at D z0 M n s H locs) (ct : Met l y (.code y bytes maxL ret :: ws_all) rm (me_Pc As D tb X z0 M n) (me_Qr D z0 b M' n') mc ms (me_A z0)) (cw : CallB R s args own index y bytes maxL ret (.code y bytes maxL ret :: ws_all) rm mc ms nA ∧ (Cond.static y).before args s = true) (hnA : As.length = nA) (hst : st = As.reverse ++ rest) (hr : (rest.map fun v => v.category).sum ≤ 8) (hdg : decode cc pc = .ok (.invokestatic index, 3)) (hf : cells + mc ≤ R.cells ∧ slots + ms ≤ R.slots)
    (kk : ∀ (H1 : Heap) (locs1 : List Loc), me_at D z0 M' n' s H1 locs1 → W p l e R s m args below meth c H1 locs1 (cells + mc) (slots + ms) Q (F0 m (pc + 3) ls (.ref b :: rest))) : W p l e R s m args below meth c H locs cells slots Q (F0 m pc ls st) := by
  subst hst
  refine va_callr (va_runS (g := F0 m pc ls (As.reverse ++ rest)) (As := As) (rest := rest) ⟨hC.1, hC.2.1, hC.2.2.1, hC.2.2.2.1, hC.2.2.2.2.1⟩ ct cw ⟨me_blind, fun U hU hW => me_pre hC hM U hU hW⟩ rfl hnA hl rfl (lv_room hr) hdg hf) hM.2.2.2.2 (fun q _ h => h) (fun q h => h) (fun u ra t H1 locs1 ht hvm hw hB hz1 hk1 hS => ?_)
  subst hw
  obtain ⟨rfl, hB⟩ := hB
  exact kk H1 locs1 (me_post hM ht hB hz1 hS)
theorem me_callVr (hC : me_cx ws_all p c cc nL s args m own D tb X z0) (hl : ls.size = nL) (hM : me_at D z0 M n s H locs) (ct : Met l y (.code y bytes maxL ret :: ws_all) rm (me_Pc (.ref b :: As) D tb X z0 M n) (me_Qr D z0 a M' n') mc ms (me_A z0)) (cw : CallW R s args own C index y bytes maxL ret (.code y bytes maxL ret :: ws_all) rm mc ms nA) (hnA : As.length = nA) (hc : me_cl[ci]? = some (C, T', N')) (he : M b = some (.inr (ci, fs))) (hst : st = As.reverse ++ .ref b :: rest) (hr : (rest.map fun v => v.category).sum ≤ 8) (hdg : decode cc pc = .ok (.invokevirtual index, 3)) (hf : cells + mc ≤ R.cells ∧ slots + ms ≤ R.slots)
    (kk : ∀ (H1 : Heap) (locs1 : List Loc), me_at D z0 M' n' s H1 locs1 → W p l e R s m args below meth c H1 locs1 (cells + mc) (slots + ms) Q (F0 m (pc + 3) ls (.ref a :: rest))) : W p l e R s m args below meth c H locs cells slots Q (F0 m pc ls st) := by
  subst hst
  refine va_callr (va_runV (g := F0 m pc ls (As.reverse ++ .ref b :: rest)) (As := As) (rest := rest) ⟨hC.1, hC.2.1, hC.2.2.1, hC.2.2.2.1, hC.2.2.2.2.1⟩ ct cw ⟨me_blind, me_recv hC hM hc he, fun U hU hW => me_pre hC hM U hU hW⟩ rfl hnA hl rfl (lv_room hr) hdg hf) hM.2.2.2.2 (fun q _ h => h) (fun q h => h) (fun u ra t H1 locs1 ht hvm hw hB hz1 hk1 hS => ?_)
  subst hw
  obtain ⟨rfl, hB⟩ := hB
  exact kk H1 locs1 (me_post hM ht hB hz1 hS)
theorem me_cwSx (hts : ∀ w ∈ ws_all, w.before args s = true) (h1 : Cond.methodLink own index y ∈ ws_all) (h2 : Cond.static y ∈ ws_all) (h4 : Cond.initialized y.cls ∈ ws_all) (h5 : Cond.code y bytes maxL ret ∈ ws_all) (hd : y.cls ≠ "java/lang/invoke/MethodHandle" ∧ y.cls ≠ "java/lang/invoke/VarHandle" ∧ (parseMethodDescriptor y.desc).map (fun d => d.parameters.length) = some nA) (hrc : rm.cells = mc) (hrs : rm.slots = ms) (hR : rm.frames + 1 ≤ R.frames ∧ 8 + (maxL + 11) + rm.locals ≤ R.locals) : CallB R s args own index y bytes maxL ret (.code y bytes maxL ret :: ws_all) rm mc ms nA ∧ (Cond.static y).before args s = true := by
  refine va_cwS nA hts ?_ rfl hrc hrs hd hR
  intro w hw
  unfold va_wsS at hw
  rcases List.mem_append.mp hw with hw | hw
  · simp only [List.mem_cons, List.not_mem_nil, or_false] at hw
    rcases hw with rfl | rfl | rfl
    · exact ws_Good _ h1
    · exact ws_Good _ h2
    · exact ws_Good _ h4
  · exact ws_Goodc h5 w hw
/-- forgotten places -/
theorem me_at.sub {M2 : me_M} (h : me_at D z0 M n s H locs) (e : ∀ q x, M2 q = some x → M q = some x) : me_at D z0 M2 n s H locs := ⟨fun q x hq => h.1 q x (e q x hq), h.2⟩
end ME3
