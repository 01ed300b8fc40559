/-! ===== memory as a function of addresses: rows over it ===== -/
abbrev me_M : Type := Nat → Option va_E
def me_up (M : me_M) (a : Nat) (e : va_E) : me_M := fun q => if q = a then some e else M q
def me_A (z0 : Nat) : Nat → Prop := fun q => z0 ≤ q
def me_ok (D : va_G) (cl : List vw_C) (z0 : Nat) (M : me_M) (H : Heap) : Prop := ∀ (q : Nat) (e : va_E), M q = some e → z0 ≤ q ∧ va_at D cl (q, e) H
theorem me_up_s (M : me_M) (a : Nat) (e : va_E) : me_up M a e a = some e := by simp [me_up]
theorem me_up_n {M : me_M} {a q : Nat} {e : va_E} (h : q ≠ a) : me_up M a e q = M q := by simp [me_up, h]
theorem me_up_up (M : me_M) (a : Nat) (e e' : va_E) : me_up (me_up M a e) a e' = me_up M a e' := by
  funext q; by_cases h : q = a <;> simp [me_up, h]
theorem me_ok.lt {D : va_G} {cl : List vw_C} {z0 : Nat} {M : me_M} {H : Heap} (h : me_ok D cl z0 M H) {q : Nat} {e : va_E} (hq : M q = some e) : q < H.size := (h q e hq).2.lt
theorem me_ok.P {D : va_G} {cl : List vw_C} {z0 : Nat} {M : me_M} {H : Heap} (h : me_ok D cl z0 M H) {q : Nat} {e : va_E} (hq : M q = some e) : va_P D cl [(q, e)] H := by
  intro k x hk
  have hz : k < 1 := (List.getElem?_eq_some_iff.mp hk).1
  rw [show k = 0 by omega] at hk
  cases hk
  exact (h q e hq).2
theorem me_ok.up {D : va_G} {cl : List vw_C} {z0 : Nat} {M : me_M} {H H1 : Heap} (h : me_ok D cl z0 M H) {a : Nat} {e : va_E} (hz : z0 ≤ a) (ha : va_at D cl (a, e) H1) (ho : ∀ q : Nat, q ≠ a → H1[q]? = H[q]?) : me_ok D cl z0 (me_up M a e) H1 := by
  intro q x hq
  by_cases hqa : q = a
  · subst hqa
    rw [me_up_s] at hq
    cases hq
    exact ⟨hz, ha⟩
  · rw [me_up_n hqa] at hq
    exact ⟨(h q x hq).1, (h q x hq).2.kept (ho q hqa)⟩
theorem me_ok.new {D : va_G} {cl : List vw_C} {z0 : Nat} {M : me_M} {H H1 : Heap} (h : me_ok D cl z0 M H) {a : Nat} {e : va_E} (hz : z0 ≤ a) (hs : H.size = a) (ha : va_at D cl (a, e) H1) (ho : ∀ q : Nat, q < a → H1[q]? = H[q]?) : me_ok D cl z0 (me_up M a e) H1 := by
  intro q x hq
  by_cases hqa : q = a
  · subst hqa
    rw [me_up_s] at hq
    cases hq
    exact ⟨hz, ha⟩
  · rw [me_up_n hqa] at hq
    have hl := h.lt hq
    exact ⟨(h q x hq).1, (h q x hq).2.kept (ho q (by omega))⟩
theorem me_ok.eq {D : va_G} {cl : List vw_C} {z0 : Nat} {M M2 : me_M} {H : Heap} (h : me_ok D cl z0 M H) (e : M = M2) : me_ok D cl z0 M2 H := e ▸ h
theorem me_S.up {z0 a i : Nat} {H0 H H1 : Heap} {locs : List Loc} (h : va_S (me_A z0) H0 H locs) (z : H1.size = H.size) (o : ∀ q : Nat, q ≠ a → H1[q]? = H[q]?) (ha : z0 ≤ a) : va_S (me_A z0) H0 H1 (locs ++ [⟨a, i⟩]) := h.put z o ha
theorem me_S.new {z0 a : Nat} {H0 H H1 : Heap} {locs : List Loc} (h : va_S (me_A z0) H0 H locs) (hs : H.size = a) (z : H1.size = a + 1) (o : ∀ q : Nat, q < a → H1[q]? = H[q]?) : va_S (me_A z0) H0 H1 locs :=
  ⟨by have := h.1; omega, fun q h1 h2 => (o q (by have := h.1; omega)).trans (h.2.1 q h1 h2), h.2.2⟩
/-- the classes, by their numbers -/
abbrev me_cl : List vw_C := [(RX0, TX0, 6), (RX1, TX1, 3), (RX2, TX2, 5), (RX3, TX3, 8), (RX4, TX4, 4), (RX5, TX5, 13), (RX6, TX6, 6), (RX7, TX7, 11), (RJ0, TJ0, 4), (RJ4, TJ4, 4)]
/-- the classes of arrays -/
def me_tys (tb : Nat → ClassId) : List (ClassId × FieldType) := [(tb 0, .int), (tb 1, .byte), (tb 2, .boolean), (tb 3, .int), (tb 4, .int), (tb 5, .object RX5), (tb 6, .object RX6), (tb 7, .object RX0), (tb 8, .object RX2), (tb 9, .object RX4)]
/-- what holds of the machine around, and goes on to hold -/
def me_st (z0 : Nat) (X : State → Prop) : Prop := ∀ s U : State, s.WarmedH U.vm → s.heap.size ≤ U.heap.size → (∀ q : Nat, q < s.heap.size → ¬ me_A z0 q → U.heap[q]? = s.heap[q]?) → X s → X U
def me_E (D : va_G) (tb : Nat → ClassId) (X : State → Prop) (U : State) : Prop := va_K D me_cl (me_tys tb) U ∧ X U
def me_Pc (as : List Value) (D : va_G) (tb : Nat → ClassId) (X : State → Prop) (z0 : Nat) (M : me_M) (n : Nat) : Array Value → State → Prop :=
  va_Pc as (fun U => me_st z0 X ∧ z0 ≤ n ∧ U.heap.size = n ∧ me_ok D me_cl z0 M U.heap ∧ me_E D tb X U)
def me_B (D : va_G) (z0 : Nat) (u : me_M × Nat) (t : State) : Prop := t.heap.size = u.2 ∧ me_ok D me_cl z0 u.1 t.heap
/-- ends that are told in full -/
def me_Qi (D : va_G) (z0 : Nat) (r : Int32) (M : me_M) (n : Nat) : Array Value → State → Outcome → State → Prop := va_Qi (fun (r1 : Int32) (u : me_M × Nat) => r1 = r ∧ u = (M, n)) (me_B D z0) (me_A z0)
def me_Qv (D : va_G) (z0 : Nat) (M : me_M) (n : Nat) : Array Value → State → Outcome → State → Prop := va_Qv (fun (u : me_M × Nat) => u = (M, n)) (me_B D z0) (me_A z0)
theorem me_blind {as : List Value} {D : va_G} {tb : Nat → ClassId} {X : State → Prop} {z0 : Nat} {M : me_M} {n : Nat} : FrameBlind (me_Pc as D tb X z0 M n) := by
  intro a U g mk q
  obtain ⟨q1, q2, q3, q4, q5, q6, q7⟩ := q
  exact ⟨q1, q2, q3, q4, q5, va_K.moved (u := U) (U := U.calling g mk a) (Vm.Alike.refl U.vm) q6, q2 U (U.calling g mk a) (State.WarmedH.refl U) (Nat.le_refl _) (fun _ _ _ => rfl) q7⟩
/-- what a body has at hand -/
def me_cx (ws : List Cond) (p : Program) (c : Code) (cc : ByteArray) (nL : Nat) (s : State) (args : Array Value) (m : MethodId) (own : String) (D : va_G) (tb : Nat → ClassId) (X : State → Prop) (z0 : Nat) : Prop :=
  p.tables.exec = Jvm.exec ∧ c.code = cc ∧ c.maxLocals = nL ∧ s.vm.findClass own = some m.cls ∧ (∀ w ∈ ws, w.before args s = true) ∧ me_E D tb X s ∧ me_st z0 X
/-- the memory at a point of a walk -/
def me_at (D : va_G) (z0 : Nat) (M : me_M) (n : Nat) (s : State) (H : Heap) (locs : List Loc) : Prop := me_ok D me_cl z0 M H ∧ H.size = n ∧ z0 ≤ n ∧ z0 ≤ s.heap.size ∧ va_S (me_A z0) s.heap H locs
theorem me_at.eq {D : va_G} {z0 : Nat} {M M2 : me_M} {n : Nat} {s : State} {H : Heap} {locs : List Loc} (h : me_at D z0 M n s H locs) (e : M = M2) : me_at D z0 M2 n s H locs := e ▸ h
section ME
variable {p : Program} {l : Launch} {e : Env} {R : Room} {s : State} {m : MethodId} {args : Array Value} {below : List Frame} {meth : Method} {c : Code} {H : Heap} {locs : List Loc} {cells slots : Nat} {Q : State → Prop}
variable {ws : List Cond} {cc : ByteArray} {nL pc : Nat} {ls : Array Slot} {rest st : List Value} {D : va_G} {tb : Nat → ClassId} {X : State → Prop} {z0 n a : Nat} {M : me_M} {own : String}
theorem me_get (hC : me_cx ws p c cc nL s args m own D tb X z0) (hM : me_at D z0 M n s H locs) {ref C : String} {T : u_T} {N ci index : Nat} (hin : ∀ w ∈ u_ws C T N, w ∈ ws) {fs : List Value} (he : M a = some (.inr (ci, fs))) (hc : me_cl[ci]? = some (C, T, N)) (k : Nat) (hk : k < N) (hw : Cond.fieldLink own index ref (T k).2.1 (T k).2.2.1 ∈ ws) (hsame : ∀ x, s.fieldFound? (T k).1 (T k).2.1 (T k).2.2.1 = some x → s.fieldFound? ref (T k).2.1 (T k).2.2.1 = some x) {v : Value} (hv : fs[k]? = some v) (hdg : decode cc pc = .ok (.getfield index, 3))
    (kk : W p l e R s m args below meth c H locs cells slots Q (F0 m (pc + 3) ls (v :: rest))) : W p l e R s m args below meth c H locs cells slots Q (F0 m pc ls (.ref a :: rest)) := by
  obtain ⟨hx, hb, -, hown, hts, hE, -⟩ := hC
  exact va_get (D := D) (tys := me_tys tb) hx hb hts hin hown hE.1 (hM.1.P he) 0 rfl hc k hk (hts _ hw) hsame hv hdg kk
theorem me_put (hC : me_cx ws p c cc nL s args m own D tb X z0) (hM : me_at D z0 M n s H locs) {ref C : String} {T : u_T} {N ci index : Nat} (hin : ∀ w ∈ u_ws C T N, w ∈ ws) (ty0 : Nat → FieldType) (hty : ∀ k, k < N → parseFieldDescriptor (T k).2.2.1 = some (ty0 k)) (hnm : ∀ a, a < N → ∀ b, b < N → a ≠ b → (T a).2.1 ≠ (T b).2.1) {fs : List Value} (he : M a = some (.inr (ci, fs))) (hc : me_cl[ci]? = some (C, T, N)) (k : Nat) (hk : k < N) (hw : Cond.fieldLink own index ref (T k).2.1 (T k).2.2.1 ∈ ws) (hsame : ∀ x, s.fieldFound? (T k).1 (T k).2.1 (T k).2.2.1 = some x → s.fieldFound? ref (T k).2.1 (T k).2.2.1 = some x) (hfin : (T k).2.2.2 = false) {ty : FieldType} {v : Value} (hd : parseFieldDescriptor (T k).2.2.1 = some ty) (hn : narrow ty v = v) (hfit : fits ty v = true) (hl : k < fs.length) {M2 : me_M} (hM2 : me_up M a (.inr (ci, fs.set k v)) = M2)
    (hdg : decode cc pc = .ok (.putfield index, 3)) (kk : ∀ (H1 : Heap) (locs1 : List Loc), me_at D z0 M2 n s H1 locs1 → W p l e R s m args below meth c H1 locs1 cells slots Q (F0 m (pc + 3) ls rest)) : W p l e R s m args below meth c H locs cells slots Q (F0 m pc ls (v :: .ref a :: rest)) := by
  obtain ⟨hx, hb, -, hown, hts, hE, -⟩ := hC
  obtain ⟨hok, hsz, hz, hz2, hS⟩ := hM
  have hap := va_apart (own := own) hts hin ty0 hty hnm hE.1 hc
  obtain ⟨hza, r, h1, cell, q1, q2, q3, q4⟩ := hok a _ he
  have hr : r = (C, T, N) := Option.some.inj (h1.symm.trans hc)
  subst hr
  obtain ⟨hSl, hfc, kC, hkC, hkind⟩ := hE.1.1 ci _ hc
  obtain ⟨cf, kf, fi, f, hi, hsl⟩ := hSl k hk
  have hlay := hts _ (hin _ (u_in_lay hk))
  unfold u_lay at hlay
  rw [if_neg (by rw [hfin]; decide)] at hlay
  have hst := (u_facts hfc hkC (u_lays hts hin hk) hi).1
  have h6 := u_store hfc hkC hkind hlay hi hd hn hfit
  refine W.putK hx hb (f := f) ⟨hown, hts _ hw, ⟨_, _, _, hsame _ hi⟩, hst⟩ (by rw [q2]; exact h6) q1 q3 (by rw [hsl]; exact k2_hasslot (q4 k hk)) rfl rfl hdg fun H' e1 e2 e3 => ?_
  rw [hsl] at e1 ⊢
  refine kk H' _ ⟨hM2 ▸ hok.up hza ⟨_, hc, t_OB.to (V := updV (vp_V fs) k v) ⟨_, e1, q2, q3, t_set q4 hap hk v⟩ (fun j _ => vp_updV_set hl v j)⟩ e3, e2.trans hsz, hz, hz2, me_S.up hS e2 e3 hza⟩
theorem me_putF (hC : me_cx ws p c cc nL s args m own D tb X z0) (hM : me_at D z0 M n s H locs) {ref C : String} {T : u_T} {N ci index : Nat} (hin : ∀ w ∈ u_ws C T N, w ∈ ws) (ty0 : Nat → FieldType) (hty : ∀ k, k < N → parseFieldDescriptor (T k).2.2.1 = some (ty0 k)) (hnm : ∀ a, a < N → ∀ b, b < N → a ≠ b → (T a).2.1 ≠ (T b).2.1) {fs : List Value} (he : M a = some (.inr (ci, fs))) (hc : me_cl[ci]? = some (C, T, N)) (k : Nat) (hk : k < N) (hw : Cond.fieldLink own index ref (T k).2.1 (T k).2.2.1 ∈ ws) (hsame : ∀ x, s.fieldFound? (T k).1 (T k).2.1 (T k).2.2.1 = some x → s.fieldFound? ref (T k).2.1 (T k).2.2.1 = some x) (hfin : (T k).2.2.2 = true) (hin2 : meth.name = "<init>") (hdecl : (T k).1 = own) {ty : FieldType} {v : Value} (hd : parseFieldDescriptor (T k).2.2.1 = some ty) (hn : narrow ty v = v) (hfit : fits ty v = true) (hl : k < fs.length) {M2 : me_M} (hM2 : me_up M a (.inr (ci, fs.set k v)) = M2)
    (hdg : decode cc pc = .ok (.putfield index, 3)) (kk : ∀ (H1 : Heap) (locs1 : List Loc), me_at D z0 M2 n s H1 locs1 → W p l e R s m args below meth c H1 locs1 cells slots Q (F0 m (pc + 3) ls rest)) : W p l e R s m args below meth c H locs cells slots Q (F0 m pc ls (v :: .ref a :: rest)) := by
  obtain ⟨hx, hb, -, hown, hts, hE, -⟩ := hC
  obtain ⟨hok, hsz, hz, hz2, hS⟩ := hM
  have hap := va_apart (own := own) hts hin ty0 hty hnm hE.1 hc
  obtain ⟨hza, r, h1, cell, q1, q2, q3, q4⟩ := hok a _ he
  have hr : r = (C, T, N) := Option.some.inj (h1.symm.trans hc)
  subst hr
  obtain ⟨hSl, hfc, kC, hkC, hkind⟩ := hE.1.1 ci _ hc
  obtain ⟨cf, kf, fi, f, hi, hsl⟩ := hSl k hk
  have hlay := hts _ (hin _ (u_in_lay hk))
  unfold u_lay at hlay
  rw [if_pos hfin] at hlay
  have hst := (u_facts hfc hkC (u_lays hts hin hk) hi).1
  have hcf : m.cls = cf := by
    obtain ⟨_, _, c', _, _, _, -, -, hf', -, -, -, hown2, -⟩ := Cond.laysFinal_spec hlay
    have e1 : c' = cf := by have := hi.symm.trans hf'; simp at this; exact this.1.symm
    rw [hdecl] at hown2
    rw [← e1]; exact Option.some.inj (hown.symm.trans hown2)
  have h6 := u_fits hfc hkC hkind (Or.inr hlay) hi hd hn hfit
  refine W.putFinK hx hb hown (hts _ hw) (hsame _ hi) hst hcf hin2 (by rw [q2]; exact h6) q1 q3 (by rw [hsl]; exact k2_hasslot (q4 k hk)) rfl rfl hdg fun H' e1 e2 e3 => ?_
  rw [hsl] at e1 ⊢
  refine kk H' _ ⟨hM2 ▸ hok.up hza ⟨_, hc, t_OB.to (V := updV (vp_V fs) k v) ⟨_, e1, q2, q3, t_set q4 hap hk v⟩ (fun j _ => vp_updV_set hl v j)⟩ e3, e2.trans hsz, hz, hz2, me_S.up hS e2 e3 hza⟩
/-- an index as a number -/
theorem me_ix {i : Int32} {k N : Nat} (hi : i = nI k) (hk : k < N) (hN : N < 2 ^ 31) : vp_in i N ∧ i.toNatClampNeg = k := ⟨hi ▸ vp_in_nI hk hN, hi ▸ nI_clamp (by omega)⟩
theorem me_iald (hC : me_cx ws p c cc nL s args m own D tb X z0) (hM : me_at D z0 M n s H locs) {N k : Nat} {f : Nat → Int32} (he : M a = some (.inl (tb 0, N, .inl f))) {i : Int32} (hi : i = nI k) (hk : k < N) (hN : N < 2 ^ 31) (hdg : decode cc pc = .ok (.iaload, 1))
    (kk : W p l e R s m args below meth c H locs cells slots Q (F0 m (pc + 1) ls (.int (f k) :: rest))) : W p l e R s m args below meth c H locs cells slots Q (F0 m pc ls (.int i :: .ref a :: rest)) := by
  obtain ⟨h1, h2⟩ := me_ix hi hk hN
  subst h2
  exact va_iald (D := D) (tys := me_tys tb) hC.1 hC.2.1 hC.2.2.2.2.2.1.1 (hM.1.P he) 0 0 rfl rfl h1 hdg kk
theorem me_bald (hC : me_cx ws p c cc nL s args m own D tb X z0) (hM : me_at D z0 M n s H locs) {N k : Nat} {f : Nat → Int32} (he : M a = some (.inl (tb 1, N, .inl f))) {i : Int32} (hi : i = nI k) (hk : k < N) (hN : N < 2 ^ 31) (hdg : decode cc pc = .ok (.baload, 1))
    (kk : W p l e R s m args below meth c H locs cells slots Q (F0 m (pc + 1) ls (.int (f k) :: rest))) : W p l e R s m args below meth c H locs cells slots Q (F0 m pc ls (.int i :: .ref a :: rest)) := by
  obtain ⟨h1, h2⟩ := me_ix hi hk hN
  subst h2
  exact va_bald (D := D) (tys := me_tys tb) hC.1 hC.2.1 hC.2.2.2.2.2.1.1 (hM.1.P he) 0 1 rfl rfl h1 hdg kk
theorem me_zald (hC : me_cx ws p c cc nL s args m own D tb X z0) (hM : me_at D z0 M n s H locs) {N k : Nat} {f : Nat → Int32} (he : M a = some (.inl (tb 2, N, .inl f))) {i : Int32} (hi : i = nI k) (hk : k < N) (hN : N < 2 ^ 31) (hdg : decode cc pc = .ok (.baload, 1))
    (kk : W p l e R s m args below meth c H locs cells slots Q (F0 m (pc + 1) ls (.int (f k) :: rest))) : W p l e R s m args below meth c H locs cells slots Q (F0 m pc ls (.int i :: .ref a :: rest)) := by
  obtain ⟨h1, h2⟩ := me_ix hi hk hN
  subst h2
  exact va_zald (D := D) (tys := me_tys tb) hC.1 hC.2.1 hC.2.2.2.2.2.1.1 (hM.1.P he) 0 2 rfl rfl h1 hdg kk
theorem me_aald (hC : me_cx ws p c cc nL s args m own D tb X z0) (hM : me_at D z0 M n s H locs) {N k t0 v : Nat} {cA : ClassId} {C : String} {f : Nat → Option Nat} (he : M a = some (.inl (cA, N, .inr (.inr (.inr (.inr f)))))) (ht : (me_tys tb)[t0]? = some (cA, .object C)) {i : Int32} (hi : i = nI k) (hk : k < N) (hN : N < 2 ^ 31) (hf : f k = some v) (hdg : decode cc pc = .ok (.aaload, 1))
    (kk : W p l e R s m args below meth c H locs cells slots Q (F0 m (pc + 1) ls (.ref v :: rest))) : W p l e R s m args below meth c H locs cells slots Q (F0 m pc ls (.int i :: .ref a :: rest)) := by
  obtain ⟨h1, h2⟩ := me_ix hi hk hN
  subst h2
  refine va_aldq (D := D) (tys := me_tys tb) hC.1 hC.2.1 hC.2.2.2.2.2.1.1 (hM.1.P he) 0 t0 rfl ht h1 hdg ?_
  rw [hf]
  exact kk
theorem me_alen (hC : me_cx ws p c cc nL s args m own D tb X z0) (hM : me_at D z0 M n s H locs) {t0 : Nat} {cA : ClassId} {x : vp_A} {ty : FieldType} (he : M a = some (.inl (cA, x))) (ht : (me_tys tb)[t0]? = some (cA, ty)) (hdg : decode cc pc = .ok (.arraylength, 1))
    (kk : W p l e R s m args below meth c H locs cells slots Q (F0 m (pc + 1) ls (.int (nI x.1) :: rest))) : W p l e R s m args below meth c H locs cells slots Q (F0 m pc ls (.ref a :: rest)) :=
  va_alen (D := D) (tys := me_tys tb) hC.1 hC.2.1 hC.2.2.2.2.2.1.1 (hM.1.P he) 0 t0 rfl ht rfl hdg kk
end ME
