/-! ===== the machine around, of the tables: classes, arrays ===== -/
section LENV
variable {s : State} {args : Array Value}
theorem lw_arr {ty : FieldType} (h : (Cond.arrayClass ty).before args s = true) (hty : ∀ C, ty ≠ .object C) : ∃ cA, ArrOfT s cA ty ∧ va_RA s cA ty := by
  obtain ⟨c, k, comp, h1, h2, h3⟩ := Cond.arrayClass_spec h
  refine ⟨c, fun n z => ⟨(fun k h => by cases h), k, h2, comp, h3⟩, ?_⟩
  cases ty with
  | object C => exact absurd rfl (hty C)
  | _ => exact h1
theorem lw_arq {C : String} (h : (Cond.arrayOver (.object C)).before args s = true) : ∃ cA, ArrOfT s cA (.object C) ∧ va_RA s cA (.object C) := by
  obtain ⟨comp, c, k, h1, h2, h3, h4, h5⟩ := Cond.arrayOver_spec h
  exact ⟨c, fun n z => ⟨(fun k h => by cases h), k, h3, comp, h4⟩, k, comp, h3, h4, h1, h5⟩
theorem lw_tw (hT : ∀ w ∈ tables_1, w.before args s = true) (i : Nat) {w : Cond} (h : tables_1[i]? = some w) : w.before args s = true := hT w (List.mem_of_getElem? h)
set_option maxHeartbeats 1000000 in
theorem lw_K (hts : ∀ w ∈ ws_all, w.before args s = true) (hT : ∀ w ∈ tables_1, w.before args s = true) : ∃ (D : va_G) (tb : Nat → ClassId), va_K D me_cl (me_tys tb) s := by
  obtain ⟨c0, i0, h0⟩ := u_known (C := RX0) (T := TX0) (N := 6) hts in_X0 (lw_tw hT 79 (w := .instantiable RX0 6) (by decide +kernel))
  obtain ⟨c1, i1, h1⟩ := u_known (C := RX1) (T := TX1) (N := 3) hts in_X1 (lw_tw hT 226 (w := .instantiable RX1 3) (by decide +kernel))
  obtain ⟨c2, i2, h2⟩ := u_known (C := RX2) (T := TX2) (N := 5) hts in_X2 (lw_tw hT 112 (w := .instantiable RX2 5) (by decide +kernel))
  obtain ⟨c3, i3, h3⟩ := u_known (C := RX3) (T := TX3) (N := 8) hts in_X3 (lw_tw hT 246 (w := .instantiable RX3 8) (by decide +kernel))
  obtain ⟨c4, i4, h4⟩ := u_known (C := RX4) (T := TX4) (N := 4) hts in_X4 (lw_tw hT 144 (w := .instantiable RX4 4) (by decide +kernel))
  obtain ⟨c5, i5, h5⟩ := u_known (C := RX5) (T := TX5) (N := 13) hts in_X5 (lw_tw hT 35 (w := .instantiable RX5 13) (by decide +kernel))
  obtain ⟨c6, i6, h6⟩ := u_known (C := RX6) (T := TX6) (N := 6) hts in_X6 (lw_tw hT 48 (w := .instantiable RX6 6) (by decide +kernel))
  obtain ⟨c7, i7, h7⟩ := u_known (C := RX7) (T := TX7) (N := 11) hts in_X7 (lw_tw hT 27 (w := .instantiable RX7 11) (by decide +kernel))
  obtain ⟨c8, i8, h8⟩ := u_known (C := RJ0) (T := TJ0) (N := 4) hts in_J0 (lw_tw hT 1036 (w := .instantiable RJ0 4) (by decide +kernel))
  obtain ⟨c9, i9, h9⟩ := u_known (C := RJ4) (T := TJ4) (N := 4) hts in_J4 (lw_tw hT 856 (w := .instantiable RJ4 4) (by decide +kernel))
  obtain ⟨a0, b0⟩ := lw_arr (ty := .int) (lw_tw hT 738 (by decide +kernel)) (fun C h => by cases h)
  obtain ⟨a1, b1⟩ := lw_arr (ty := .byte) (lw_tw hT 331 (by decide +kernel)) (fun C h => by cases h)
  obtain ⟨a2, b2⟩ := lw_arr (ty := .boolean) (lw_tw hT 330 (by decide +kernel)) (fun C h => by cases h)
  obtain ⟨a3, b3⟩ := lw_arr (ty := .int) (lw_tw hT 738 (by decide +kernel)) (fun C h => by cases h)
  obtain ⟨a4, b4⟩ := lw_arr (ty := .int) (lw_tw hT 738 (by decide +kernel)) (fun C h => by cases h)
  obtain ⟨a5, b5⟩ := lw_arq (C := RX5) (lw_tw hT 232 (by decide +kernel))
  obtain ⟨a6, b6⟩ := lw_arq (C := RX6) (lw_tw hT 41 (by decide +kernel))
  obtain ⟨a7, b7⟩ := lw_arq (C := RX0) (lw_tw hT 43 (by decide +kernel))
  obtain ⟨a8, b8⟩ := lw_arq (C := RX2) (lw_tw hT 45 (by decide +kernel))
  obtain ⟨a9, b9⟩ := lw_arq (C := RX4) (lw_tw hT 47 (by decide +kernel))
  refine ⟨(fun c => match c with | 0 => c0 | 1 => c1 | 2 => c2 | 3 => c3 | 4 => c4 | 5 => c5 | 6 => c6 | 7 => c7 | 8 => c8 | _ => c9, fun c => match c with | 0 => i0 | 1 => i1 | 2 => i2 | 3 => i3 | 4 => i4 | 5 => i5 | 6 => i6 | 7 => i7 | 8 => i8 | _ => i9), (fun k => match k with | 0 => a0 | 1 => a1 | 2 => a2 | 3 => a3 | 4 => a4 | 5 => a5 | 6 => a6 | 7 => a7 | 8 => a8 | _ => a9), ?_, ?_⟩
  · intro c q hq
    match c, hq with
    | 0, hq => cases hq; exact h0
    | 1, hq => cases hq; exact h1
    | 2, hq => cases hq; exact h2
    | 3, hq => cases hq; exact h3
    | 4, hq => cases hq; exact h4
    | 5, hq => cases hq; exact h5
    | 6, hq => cases hq; exact h6
    | 7, hq => cases hq; exact h7
    | 8, hq => cases hq; exact h8
    | 9, hq => cases hq; exact h9
  · intro k q hq
    match k, hq with
    | 0, hq => cases hq; exact b0
    | 1, hq => cases hq; exact b1
    | 2, hq => cases hq; exact b2
    | 3, hq => cases hq; exact b3
    | 4, hq => cases hq; exact b4
    | 5, hq => cases hq; exact b5
    | 6, hq => cases hq; exact b6
    | 7, hq => cases hq; exact b7
    | 8, hq => cases hq; exact b8
    | 9, hq => cases hq; exact b9
end LENV
