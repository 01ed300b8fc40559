set_option maxHeartbeats 4000000 in
theorem c_J6_stringSize_0 (l : Launch) (D : va_G) (tb : Nat → ClassId) (X : State → Prop) (z0 n : Nat) (M : me_M) (w : Nat)  (hw9 : w < 1000000000) : Met l yJ6_stringSize_0f7a4 (.code yJ6_stringSize_0f7a4 cJ6_stringSize_0f7a4 4 (some .int) :: ws_all) ({ frames := 0, cells := 0, slots := 0, locals := 0 } : Room) (me_Pc [.int (nI w)] D tb X z0 (M) n) (me_Qi D z0 (nI (sb_dg w + 0)) (M) n) 0 0 (me_A z0) := by
  refine me_open (by decide) (Nat.le_of_ble_eq_true rfl) ?_
  intro p e s m args below meth c ls hC hr hlk hnm hM hl
  have hl : lv_has ls 4 [(0, .int (nI w))] := hl
  have hx := hC.1
  have hb := hC.2.1
  have hw := hC.2.2.2.2.1
  refine lv_iconst (v := 1) hx hb dJ6_stringSize_0f7a4_0 (by decide) ?_
  refine lv_istore_n (lv' := [(1, .int 1), (0, .int (nI w))]) hx hb dJ6_stringSize_0f7a4_1 rfl hl (by decide) rfl (fun ls hl => ?_)
  refine lv_iload_n hx hb dJ6_stringSize_0f7a4_2 rfl (lv_at hl 1 rfl) ?_
  refine lv_if_lt (tgt := 11) hx hb dJ6_stringSize_0f7a4_3 (by decide) (fun c_1 => ?_) (fun c_1 => ?_)
  · have c_1 := (br_lt rfl (show (0 : Int32) = nI 0 from rfl) (by omega) (by omega)).mp c_1
    exfalso; omega
  · have c_1 := (not_congr (br_lt rfl (show (0 : Int32) = nI 0 from rfl) (by omega) (by omega))).mp c_1
    refine lv_iconst (v := 0) hx hb dJ6_stringSize_0f7a4_6 (by decide) ?_
    refine lv_istore_n (lv' := [(1, .int 0), (0, .int (nI w))]) hx hb dJ6_stringSize_0f7a4_7 rfl hl (by decide) rfl (fun ls hl => ?_)
    refine lv_iload_n hx hb dJ6_stringSize_0f7a4_8 rfl (lv_at hl 1 rfl) ?_
    refine lv_ineg hx hb dJ6_stringSize_0f7a4_9 ?_
    refine lv_istore_n (lv' := [(0, .int (-(nI w))), (1, .int 0)]) hx hb dJ6_stringSize_0f7a4_10 rfl hl (by decide) rfl (fun ls hl => ?_)
    refine lv_bipush (v := (-10)) hx hb dJ6_stringSize_0f7a4_11 (by decide) ?_
    refine lv_istore_n (lv' := [(2, .int (-10)), (0, .int (-(nI w))), (1, .int 0)]) hx hb dJ6_stringSize_0f7a4_13 rfl hl (by decide) rfl (fun ls hl => ?_)
    refine lv_iconst (v := 1) hx hb dJ6_stringSize_0f7a4_14 (by decide) ?_
    refine lv_istore_n (lv' := [(3, .int 1), (2, .int (-10)), (0, .int (-(nI w))), (1, .int 0)]) hx hb dJ6_stringSize_0f7a4_15 rfl hl (by decide) rfl (fun ls hl => ?_)
    refine lv_iload_n hx hb dJ6_stringSize_0f7a4_16 rfl (lv_at hl 0 rfl) ?_
    refine lv_bipush (v := 10) hx hb dJ6_stringSize_0f7a4_17 (by decide) ?_
    refine lv_icmp_ge (tgt := 42) hx hb dJ6_stringSize_0f7a4_19 (by decide) (fun c_2 => ?_) (fun c_2 => ?_)
    · exact absurd c_2 (by decide)
    · have c_2q := c_2
      have c_2 := Int32.not_le.mp c_2
      refine lv_iload_n hx hb dJ6_stringSize_0f7a4_22 rfl (lv_at hl 2 rfl) ?_
      refine lv_iload_n hx hb dJ6_stringSize_0f7a4_23 rfl (lv_at hl 1 rfl) ?_
      refine lv_icmp_le (tgt := 31) hx hb dJ6_stringSize_0f7a4_24 (by decide) (fun c_3 => ?_) (fun c_3 => ?_)
      · have c_3q := c_3
        have c_3 := Int32.not_lt.mpr c_3
        refine lv_bipush (v := 10) hx hb dJ6_stringSize_0f7a4_31 (by decide) ?_
        refine lv_iload_n hx hb dJ6_stringSize_0f7a4_33 rfl (lv_at hl 1 rfl) ?_
        refine lv_imul hx hb dJ6_stringSize_0f7a4_34 ?_
        refine me_evi (y := (-100)) (by decide) ?_
        refine lv_istore_n (lv' := [(2, .int (-100)), (3, .int 1), (0, .int (-(nI w))), (1, .int 0)]) hx hb dJ6_stringSize_0f7a4_35 rfl hl (by decide) rfl (fun ls hl => ?_)
        refine lv_iinc (v := 2) (lv' := [(3, .int 2), (2, .int (-100)), (0, .int (-(nI w))), (1, .int 0)]) hx hb dJ6_stringSize_0f7a4_36 hl (k := 1) rfl (by decide) (by decide) rfl (fun ls hl => ?_)
        refine lv_goto (tgt := 16) hx hb dJ6_stringSize_0f7a4_39 (by decide) ?_
        refine lv_iload_n hx hb dJ6_stringSize_0f7a4_16 rfl (lv_at hl 0 rfl) ?_
        refine lv_bipush (v := 10) hx hb dJ6_stringSize_0f7a4_17 (by decide) ?_
        refine lv_icmp_ge (tgt := 42) hx hb dJ6_stringSize_0f7a4_19 (by decide) (fun c_4 => ?_) (fun c_4 => ?_)
        · exact absurd c_4 (by decide)
        · have c_4q := c_4
          have c_4 := Int32.not_le.mp c_4
          refine lv_iload_n hx hb dJ6_stringSize_0f7a4_22 rfl (lv_at hl 2 rfl) ?_
          refine lv_iload_n hx hb dJ6_stringSize_0f7a4_23 rfl (lv_at hl 1 rfl) ?_
          refine lv_icmp_le (tgt := 31) hx hb dJ6_stringSize_0f7a4_24 (by decide) (fun c_5 => ?_) (fun c_5 => ?_)
          · have c_5q := c_5
            have c_5 := Int32.not_lt.mpr c_5
            refine lv_bipush (v := 10) hx hb dJ6_stringSize_0f7a4_31 (by decide) ?_
            refine lv_iload_n hx hb dJ6_stringSize_0f7a4_33 rfl (lv_at hl 1 rfl) ?_
            refine lv_imul hx hb dJ6_stringSize_0f7a4_34 ?_
            refine me_evi (y := (-1000)) (by decide) ?_
            refine lv_istore_n (lv' := [(2, .int (-1000)), (3, .int 2), (0, .int (-(nI w))), (1, .int 0)]) hx hb dJ6_stringSize_0f7a4_35 rfl hl (by decide) rfl (fun ls hl => ?_)
            refine lv_iinc (v := 3) (lv' := [(3, .int 3), (2, .int (-1000)), (0, .int (-(nI w))), (1, .int 0)]) hx hb dJ6_stringSize_0f7a4_36 hl (k := 1) rfl (by decide) (by decide) rfl (fun ls hl => ?_)
            refine lv_goto (tgt := 16) hx hb dJ6_stringSize_0f7a4_39 (by decide) ?_
            refine lv_iload_n hx hb dJ6_stringSize_0f7a4_16 rfl (lv_at hl 0 rfl) ?_
            refine lv_bipush (v := 10) hx hb dJ6_stringSize_0f7a4_17 (by decide) ?_
            refine lv_icmp_ge (tgt := 42) hx hb dJ6_stringSize_0f7a4_19 (by decide) (fun c_6 => ?_) (fun c_6 => ?_)
            · exact absurd c_6 (by decide)
            · have c_6q := c_6
              have c_6 := Int32.not_le.mp c_6
              refine lv_iload_n hx hb dJ6_stringSize_0f7a4_22 rfl (lv_at hl 2 rfl) ?_
              refine lv_iload_n hx hb dJ6_stringSize_0f7a4_23 rfl (lv_at hl 1 rfl) ?_
              refine lv_icmp_le (tgt := 31) hx hb dJ6_stringSize_0f7a4_24 (by decide) (fun c_7 => ?_) (fun c_7 => ?_)
              · have c_7q := c_7
                have c_7 := Int32.not_lt.mpr c_7
                refine lv_bipush (v := 10) hx hb dJ6_stringSize_0f7a4_31 (by decide) ?_
                refine lv_iload_n hx hb dJ6_stringSize_0f7a4_33 rfl (lv_at hl 1 rfl) ?_
                refine lv_imul hx hb dJ6_stringSize_0f7a4_34 ?_
                refine me_evi (y := (-10000)) (by decide) ?_
                refine lv_istore_n (lv' := [(2, .int (-10000)), (3, .int 3), (0, .int (-(nI w))), (1, .int 0)]) hx hb dJ6_stringSize_0f7a4_35 rfl hl (by decide) rfl (fun ls hl => ?_)
                refine lv_iinc (v := 4) (lv' := [(3, .int 4), (2, .int (-10000)), (0, .int (-(nI w))), (1, .int 0)]) hx hb dJ6_stringSize_0f7a4_36 hl (k := 1) rfl (by decide) (by decide) rfl (fun ls hl => ?_)
                refine lv_goto (tgt := 16) hx hb dJ6_stringSize_0f7a4_39 (by decide) ?_
                refine lv_iload_n hx hb dJ6_stringSize_0f7a4_16 rfl (lv_at hl 0 rfl) ?_
                refine lv_bipush (v := 10) hx hb dJ6_stringSize_0f7a4_17 (by decide) ?_
                refine lv_icmp_ge (tgt := 42) hx hb dJ6_stringSize_0f7a4_19 (by decide) (fun c_8 => ?_) (fun c_8 => ?_)
                · exact absurd c_8 (by decide)
                · have c_8q := c_8
                  have c_8 := Int32.not_le.mp c_8
                  refine lv_iload_n hx hb dJ6_stringSize_0f7a4_22 rfl (lv_at hl 2 rfl) ?_
                  refine lv_iload_n hx hb dJ6_stringSize_0f7a4_23 rfl (lv_at hl 1 rfl) ?_
                  refine lv_icmp_le (tgt := 31) hx hb dJ6_stringSize_0f7a4_24 (by decide) (fun c_9 => ?_) (fun c_9 => ?_)
                  · have c_9q := c_9
                    have c_9 := Int32.not_lt.mpr c_9
                    refine lv_bipush (v := 10) hx hb dJ6_stringSize_0f7a4_31 (by decide) ?_
                    refine lv_iload_n hx hb dJ6_stringSize_0f7a4_33 rfl (lv_at hl 1 rfl) ?_
                    refine lv_imul hx hb dJ6_stringSize_0f7a4_34 ?_
                    refine me_evi (y := (-100000)) (by decide) ?_
                    refine lv_istore_n (lv' := [(2, .int (-100000)), (3, .int 4), (0, .int (-(nI w))), (1, .int 0)]) hx hb dJ6_stringSize_0f7a4_35 rfl hl (by decide) rfl (fun ls hl => ?_)
                    refine lv_iinc (v := 5) (lv' := [(3, .int 5), (2, .int (-100000)), (0, .int (-(nI w))), (1, .int 0)]) hx hb dJ6_stringSize_0f7a4_36 hl (k := 1) rfl (by decide) (by decide) rfl (fun ls hl => ?_)
                    refine lv_goto (tgt := 16) hx hb dJ6_stringSize_0f7a4_39 (by decide) ?_
                    refine lv_iload_n hx hb dJ6_stringSize_0f7a4_16 rfl (lv_at hl 0 rfl) ?_
                    refine lv_bipush (v := 10) hx hb dJ6_stringSize_0f7a4_17 (by decide) ?_
                    refine lv_icmp_ge (tgt := 42) hx hb dJ6_stringSize_0f7a4_19 (by decide) (fun c_10 => ?_) (fun c_10 => ?_)
                    · exact absurd c_10 (by decide)
                    · have c_10q := c_10
                      have c_10 := Int32.not_le.mp c_10
                      refine lv_iload_n hx hb dJ6_stringSize_0f7a4_22 rfl (lv_at hl 2 rfl) ?_
                      refine lv_iload_n hx hb dJ6_stringSize_0f7a4_23 rfl (lv_at hl 1 rfl) ?_
                      refine lv_icmp_le (tgt := 31) hx hb dJ6_stringSize_0f7a4_24 (by decide) (fun c_11 => ?_) (fun c_11 => ?_)
                      · have c_11q := c_11
                        have c_11 := Int32.not_lt.mpr c_11
                        refine lv_bipush (v := 10) hx hb dJ6_stringSize_0f7a4_31 (by decide) ?_
                        refine lv_iload_n hx hb dJ6_stringSize_0f7a4_33 rfl (lv_at hl 1 rfl) ?_
                        refine lv_imul hx hb dJ6_stringSize_0f7a4_34 ?_
                        refine me_evi (y := (-1000000)) (by decide) ?_
                        refine lv_istore_n (lv' := [(2, .int (-1000000)), (3, .int 5), (0, .int (-(nI w))), (1, .int 0)]) hx hb dJ6_stringSize_0f7a4_35 rfl hl (by decide) rfl (fun ls hl => ?_)
                        refine lv_iinc (v := 6) (lv' := [(3, .int 6), (2, .int (-1000000)), (0, .int (-(nI w))), (1, .int 0)]) hx hb dJ6_stringSize_0f7a4_36 hl (k := 1) rfl (by decide) (by decide) rfl (fun ls hl => ?_)
                        refine lv_goto (tgt := 16) hx hb dJ6_stringSize_0f7a4_39 (by decide) ?_
                        refine lv_iload_n hx hb dJ6_stringSize_0f7a4_16 rfl (lv_at hl 0 rfl) ?_
                        refine lv_bipush (v := 10) hx hb dJ6_stringSize_0f7a4_17 (by decide) ?_
                        refine lv_icmp_ge (tgt := 42) hx hb dJ6_stringSize_0f7a4_19 (by decide) (fun c_12 => ?_) (fun c_12 => ?_)
                        · exact absurd c_12 (by decide)
                        · have c_12q := c_12
                          have c_12 := Int32.not_le.mp c_12
                          refine lv_iload_n hx hb dJ6_stringSize_0f7a4_22 rfl (lv_at hl 2 rfl) ?_
                          refine lv_iload_n hx hb dJ6_stringSize_0f7a4_23 rfl (lv_at hl 1 rfl) ?_
                          refine lv_icmp_le (tgt := 31) hx hb dJ6_stringSize_0f7a4_24 (by decide) (fun c_13 => ?_) (fun c_13 => ?_)
                          · have c_13q := c_13
                            have c_13 := Int32.not_lt.mpr c_13
                            refine lv_bipush (v := 10) hx hb dJ6_stringSize_0f7a4_31 (by decide) ?_
                            refine lv_iload_n hx hb dJ6_stringSize_0f7a4_33 rfl (lv_at hl 1 rfl) ?_
                            refine lv_imul hx hb dJ6_stringSize_0f7a4_34 ?_
                            refine me_evi (y := (-10000000)) (by decide) ?_
                            refine lv_istore_n (lv' := [(2, .int (-10000000)), (3, .int 6), (0, .int (-(nI w))), (1, .int 0)]) hx hb dJ6_stringSize_0f7a4_35 rfl hl (by decide) rfl (fun ls hl => ?_)
                            refine lv_iinc (v := 7) (lv' := [(3, .int 7), (2, .int (-10000000)), (0, .int (-(nI w))), (1, .int 0)]) hx hb dJ6_stringSize_0f7a4_36 hl (k := 1) rfl (by decide) (by decide) rfl (fun ls hl => ?_)
                            refine lv_goto (tgt := 16) hx hb dJ6_stringSize_0f7a4_39 (by decide) ?_
                            refine lv_iload_n hx hb dJ6_stringSize_0f7a4_16 rfl (lv_at hl 0 rfl) ?_
                            refine lv_bipush (v := 10) hx hb dJ6_stringSize_0f7a4_17 (by decide) ?_
                            refine lv_icmp_ge (tgt := 42) hx hb dJ6_stringSize_0f7a4_19 (by decide) (fun c_14 => ?_) (fun c_14 => ?_)
                            · exact absurd c_14 (by decide)
                            · have c_14q := c_14
                              have c_14 := Int32.not_le.mp c_14
                              refine lv_iload_n hx hb dJ6_stringSize_0f7a4_22 rfl (lv_at hl 2 rfl) ?_
                              refine lv_iload_n hx hb dJ6_stringSize_0f7a4_23 rfl (lv_at hl 1 rfl) ?_
                              refine lv_icmp_le (tgt := 31) hx hb dJ6_stringSize_0f7a4_24 (by decide) (fun c_15 => ?_) (fun c_15 => ?_)
                              · have c_15q := c_15
                                have c_15 := Int32.not_lt.mpr c_15
                                refine lv_bipush (v := 10) hx hb dJ6_stringSize_0f7a4_31 (by decide) ?_
                                refine lv_iload_n hx hb dJ6_stringSize_0f7a4_33 rfl (lv_at hl 1 rfl) ?_
                                refine lv_imul hx hb dJ6_stringSize_0f7a4_34 ?_
                                refine me_evi (y := (-100000000)) (by decide) ?_
                                refine lv_istore_n (lv' := [(2, .int (-100000000)), (3, .int 7), (0, .int (-(nI w))), (1, .int 0)]) hx hb dJ6_stringSize_0f7a4_35 rfl hl (by decide) rfl (fun ls hl => ?_)
                                refine lv_iinc (v := 8) (lv' := [(3, .int 8), (2, .int (-100000000)), (0, .int (-(nI w))), (1, .int 0)]) hx hb dJ6_stringSize_0f7a4_36 hl (k := 1) rfl (by decide) (by decide) rfl (fun ls hl => ?_)
                                refine lv_goto (tgt := 16) hx hb dJ6_stringSize_0f7a4_39 (by decide) ?_
                                refine lv_iload_n hx hb dJ6_stringSize_0f7a4_16 rfl (lv_at hl 0 rfl) ?_
                                refine lv_bipush (v := 10) hx hb dJ6_stringSize_0f7a4_17 (by decide) ?_
                                refine lv_icmp_ge (tgt := 42) hx hb dJ6_stringSize_0f7a4_19 (by decide) (fun c_16 => ?_) (fun c_16 => ?_)
                                · exact absurd c_16 (by decide)
                                · have c_16q := c_16
                                  have c_16 := Int32.not_le.mp c_16
                                  refine lv_iload_n hx hb dJ6_stringSize_0f7a4_22 rfl (lv_at hl 2 rfl) ?_
                                  refine lv_iload_n hx hb dJ6_stringSize_0f7a4_23 rfl (lv_at hl 1 rfl) ?_
                                  refine lv_icmp_le (tgt := 31) hx hb dJ6_stringSize_0f7a4_24 (by decide) (fun c_17 => ?_) (fun c_17 => ?_)
                                  · have c_17q := c_17
                                    have c_17 := Int32.not_lt.mpr c_17
                                    refine lv_bipush (v := 10) hx hb dJ6_stringSize_0f7a4_31 (by decide) ?_
                                    refine lv_iload_n hx hb dJ6_stringSize_0f7a4_33 rfl (lv_at hl 1 rfl) ?_
                                    refine lv_imul hx hb dJ6_stringSize_0f7a4_34 ?_
                                    refine me_evi (y := (-1000000000)) (by decide) ?_
                                    refine lv_istore_n (lv' := [(2, .int (-1000000000)), (3, .int 8), (0, .int (-(nI w))), (1, .int 0)]) hx hb dJ6_stringSize_0f7a4_35 rfl hl (by decide) rfl (fun ls hl => ?_)
                                    refine lv_iinc (v := 9) (lv' := [(3, .int 9), (2, .int (-1000000000)), (0, .int (-(nI w))), (1, .int 0)]) hx hb dJ6_stringSize_0f7a4_36 hl (k := 1) rfl (by decide) (by decide) rfl (fun ls hl => ?_)
                                    refine lv_goto (tgt := 16) hx hb dJ6_stringSize_0f7a4_39 (by decide) ?_
                                    refine lv_iload_n hx hb dJ6_stringSize_0f7a4_16 rfl (lv_at hl 0 rfl) ?_
                                    refine lv_bipush (v := 10) hx hb dJ6_stringSize_0f7a4_17 (by decide) ?_
                                    refine lv_icmp_ge (tgt := 42) hx hb dJ6_stringSize_0f7a4_19 (by decide) (fun c_18 => ?_) (fun c_18 => ?_)
                                    · exact absurd c_18 (by decide)
                                    · have c_18q := c_18
                                      have c_18 := Int32.not_le.mp c_18
                                      refine lv_iload_n hx hb dJ6_stringSize_0f7a4_22 rfl (lv_at hl 2 rfl) ?_
                                      refine lv_iload_n hx hb dJ6_stringSize_0f7a4_23 rfl (lv_at hl 1 rfl) ?_
                                      refine lv_icmp_le (tgt := 31) hx hb dJ6_stringSize_0f7a4_24 (by decide) (fun c_19 => ?_) (fun c_19 => ?_)
                                      · have c_19q := c_19
                                        have c_19 := Int32.not_lt.mpr c_19
                                        exfalso; have g : 1000000000 ≤ w := (sb_nle (by omega) (by omega)).mp (show -nI w ≤ -nI 1000000000 from c_19q); omega
                                      · have c_19q := c_19
                                        have c_19 := Int32.not_le.mp c_19
                                        refine lv_iload_n hx hb dJ6_stringSize_0f7a4_27 rfl (lv_at hl 0 rfl) ?_
                                        refine lv_iload_n hx hb dJ6_stringSize_0f7a4_28 rfl (lv_at hl 3 rfl) ?_
                                        refine lv_iadd hx hb dJ6_stringSize_0f7a4_29 ?_
                                        exact me_iret hC hr hlk hM (by have g0 : 10 ≤ w := (sb_nle (by omega) (by omega)).mp (show -nI w ≤ -nI 10 from c_3q); have g1 : 100 ≤ w := (sb_nle (by omega) (by omega)).mp (show -nI w ≤ -nI 100 from c_5q); have g2 : 1000 ≤ w := (sb_nle (by omega) (by omega)).mp (show -nI w ≤ -nI 1000 from c_7q); have g3 : 10000 ≤ w := (sb_nle (by omega) (by omega)).mp (show -nI w ≤ -nI 10000 from c_9q); have g4 : 100000 ≤ w := (sb_nle (by omega) (by omega)).mp (show -nI w ≤ -nI 100000 from c_11q); have g5 : 1000000 ≤ w := (sb_nle (by omega) (by omega)).mp (show -nI w ≤ -nI 1000000 from c_13q); have g6 : 10000000 ≤ w := (sb_nle (by omega) (by omega)).mp (show -nI w ≤ -nI 10000000 from c_15q); have g7 : 100000000 ≤ w := (sb_nle (by omega) (by omega)).mp (show -nI w ≤ -nI 100000000 from c_17q); have g8 : ¬ 1000000000 ≤ w := fun z => c_19q ((sb_nle (by omega) (by omega)).mpr z : -nI w ≤ -nI 1000000000); rw [show sb_dg w = 9 by unfold sb_dg; (repeat' split) <;> omega]; rfl) (rfl) (rfl) dJ6_stringSize_0f7a4_30
                                  · have c_17q := c_17
                                    have c_17 := Int32.not_le.mp c_17
                                    refine lv_iload_n hx hb dJ6_stringSize_0f7a4_27 rfl (lv_at hl 0 rfl) ?_
                                    refine lv_iload_n hx hb dJ6_stringSize_0f7a4_28 rfl (lv_at hl 3 rfl) ?_
                                    refine lv_iadd hx hb dJ6_stringSize_0f7a4_29 ?_
                                    exact me_iret hC hr hlk hM (by have g0 : 10 ≤ w := (sb_nle (by omega) (by omega)).mp (show -nI w ≤ -nI 10 from c_3q); have g1 : 100 ≤ w := (sb_nle (by omega) (by omega)).mp (show -nI w ≤ -nI 100 from c_5q); have g2 : 1000 ≤ w := (sb_nle (by omega) (by omega)).mp (show -nI w ≤ -nI 1000 from c_7q); have g3 : 10000 ≤ w := (sb_nle (by omega) (by omega)).mp (show -nI w ≤ -nI 10000 from c_9q); have g4 : 100000 ≤ w := (sb_nle (by omega) (by omega)).mp (show -nI w ≤ -nI 100000 from c_11q); have g5 : 1000000 ≤ w := (sb_nle (by omega) (by omega)).mp (show -nI w ≤ -nI 1000000 from c_13q); have g6 : 10000000 ≤ w := (sb_nle (by omega) (by omega)).mp (show -nI w ≤ -nI 10000000 from c_15q); have g7 : ¬ 100000000 ≤ w := fun z => c_17q ((sb_nle (by omega) (by omega)).mpr z : -nI w ≤ -nI 100000000); rw [show sb_dg w = 8 by unfold sb_dg; (repeat' split) <;> omega]; rfl) (rfl) (rfl) dJ6_stringSize_0f7a4_30
                              · have c_15q := c_15
                                have c_15 := Int32.not_le.mp c_15
                                refine lv_iload_n hx hb dJ6_stringSize_0f7a4_27 rfl (lv_at hl 0 rfl) ?_
                                refine lv_iload_n hx hb dJ6_stringSize_0f7a4_28 rfl (lv_at hl 3 rfl) ?_
                                refine lv_iadd hx hb dJ6_stringSize_0f7a4_29 ?_
                                exact me_iret hC hr hlk hM (by have g0 : 10 ≤ w := (sb_nle (by omega) (by omega)).mp (show -nI w ≤ -nI 10 from c_3q); have g1 : 100 ≤ w := (sb_nle (by omega) (by omega)).mp (show -nI w ≤ -nI 100 from c_5q); have g2 : 1000 ≤ w := (sb_nle (by omega) (by omega)).mp (show -nI w ≤ -nI 1000 from c_7q); have g3 : 10000 ≤ w := (sb_nle (by omega) (by omega)).mp (show -nI w ≤ -nI 10000 from c_9q); have g4 : 100000 ≤ w := (sb_nle (by omega) (by omega)).mp (show -nI w ≤ -nI 100000 from c_11q); have g5 : 1000000 ≤ w := (sb_nle (by omega) (by omega)).mp (show -nI w ≤ -nI 1000000 from c_13q); have g6 : ¬ 10000000 ≤ w := fun z => c_15q ((sb_nle (by omega) (by omega)).mpr z : -nI w ≤ -nI 10000000); rw [show sb_dg w = 7 by unfold sb_dg; (repeat' split) <;> omega]; rfl) (rfl) (rfl) dJ6_stringSize_0f7a4_30
                          · have c_13q := c_13
                            have c_13 := Int32.not_le.mp c_13
                            refine lv_iload_n hx hb dJ6_stringSize_0f7a4_27 rfl (lv_at hl 0 rfl) ?_
                            refine lv_iload_n hx hb dJ6_stringSize_0f7a4_28 rfl (lv_at hl 3 rfl) ?_
                            refine lv_iadd hx hb dJ6_stringSize_0f7a4_29 ?_
                            exact me_iret hC hr hlk hM (by have g0 : 10 ≤ w := (sb_nle (by omega) (by omega)).mp (show -nI w ≤ -nI 10 from c_3q); have g1 : 100 ≤ w := (sb_nle (by omega) (by omega)).mp (show -nI w ≤ -nI 100 from c_5q); have g2 : 1000 ≤ w := (sb_nle (by omega) (by omega)).mp (show -nI w ≤ -nI 1000 from c_7q); have g3 : 10000 ≤ w := (sb_nle (by omega) (by omega)).mp (show -nI w ≤ -nI 10000 from c_9q); have g4 : 100000 ≤ w := (sb_nle (by omega) (by omega)).mp (show -nI w ≤ -nI 100000 from c_11q); have g5 : ¬ 1000000 ≤ w := fun z => c_13q ((sb_nle (by omega) (by omega)).mpr z : -nI w ≤ -nI 1000000); rw [show sb_dg w = 6 by unfold sb_dg; (repeat' split) <;> omega]; rfl) (rfl) (rfl) dJ6_stringSize_0f7a4_30
                      · have c_11q := c_11
                        have c_11 := Int32.not_le.mp c_11
                        refine lv_iload_n hx hb dJ6_stringSize_0f7a4_27 rfl (lv_at hl 0 rfl) ?_
                        refine lv_iload_n hx hb dJ6_stringSize_0f7a4_28 rfl (lv_at hl 3 rfl) ?_
                        refine lv_iadd hx hb dJ6_stringSize_0f7a4_29 ?_
                        exact me_iret hC hr hlk hM (by have g0 : 10 ≤ w := (sb_nle (by omega) (by omega)).mp (show -nI w ≤ -nI 10 from c_3q); have g1 : 100 ≤ w := (sb_nle (by omega) (by omega)).mp (show -nI w ≤ -nI 100 from c_5q); have g2 : 1000 ≤ w := (sb_nle (by omega) (by omega)).mp (show -nI w ≤ -nI 1000 from c_7q); have g3 : 10000 ≤ w := (sb_nle (by omega) (by omega)).mp (show -nI w ≤ -nI 10000 from c_9q); have g4 : ¬ 100000 ≤ w := fun z => c_11q ((sb_nle (by omega) (by omega)).mpr z : -nI w ≤ -nI 100000); rw [show sb_dg w = 5 by unfold sb_dg; (repeat' split) <;> omega]; rfl) (rfl) (rfl) dJ6_stringSize_0f7a4_30
                  · have c_9q := c_9
                    have c_9 := Int32.not_le.mp c_9
                    refine lv_iload_n hx hb dJ6_stringSize_0f7a4_27 rfl (lv_at hl 0 rfl) ?_
                    refine lv_iload_n hx hb dJ6_stringSize_0f7a4_28 rfl (lv_at hl 3 rfl) ?_
                    refine lv_iadd hx hb dJ6_stringSize_0f7a4_29 ?_
                    exact me_iret hC hr hlk hM (by have g0 : 10 ≤ w := (sb_nle (by omega) (by omega)).mp (show -nI w ≤ -nI 10 from c_3q); have g1 : 100 ≤ w := (sb_nle (by omega) (by omega)).mp (show -nI w ≤ -nI 100 from c_5q); have g2 : 1000 ≤ w := (sb_nle (by omega) (by omega)).mp (show -nI w ≤ -nI 1000 from c_7q); have g3 : ¬ 10000 ≤ w := fun z => c_9q ((sb_nle (by omega) (by omega)).mpr z : -nI w ≤ -nI 10000); rw [show sb_dg w = 4 by unfold sb_dg; (repeat' split) <;> omega]; rfl) (rfl) (rfl) dJ6_stringSize_0f7a4_30
              · have c_7q := c_7
                have c_7 := Int32.not_le.mp c_7
                refine lv_iload_n hx hb dJ6_stringSize_0f7a4_27 rfl (lv_at hl 0 rfl) ?_
                refine lv_iload_n hx hb dJ6_stringSize_0f7a4_28 rfl (lv_at hl 3 rfl) ?_
                refine lv_iadd hx hb dJ6_stringSize_0f7a4_29 ?_
                exact me_iret hC hr hlk hM (by have g0 : 10 ≤ w := (sb_nle (by omega) (by omega)).mp (show -nI w ≤ -nI 10 from c_3q); have g1 : 100 ≤ w := (sb_nle (by omega) (by omega)).mp (show -nI w ≤ -nI 100 from c_5q); have g2 : ¬ 1000 ≤ w := fun z => c_7q ((sb_nle (by omega) (by omega)).mpr z : -nI w ≤ -nI 1000); rw [show sb_dg w = 3 by unfold sb_dg; (repeat' split) <;> omega]; rfl) (rfl) (rfl) dJ6_stringSize_0f7a4_30
          · have c_5q := c_5
            have c_5 := Int32.not_le.mp c_5
            refine lv_iload_n hx hb dJ6_stringSize_0f7a4_27 rfl (lv_at hl 0 rfl) ?_
            refine lv_iload_n hx hb dJ6_stringSize_0f7a4_28 rfl (lv_at hl 3 rfl) ?_
            refine lv_iadd hx hb dJ6_stringSize_0f7a4_29 ?_
            exact me_iret hC hr hlk hM (by have g0 : 10 ≤ w := (sb_nle (by omega) (by omega)).mp (show -nI w ≤ -nI 10 from c_3q); have g1 : ¬ 100 ≤ w := fun z => c_5q ((sb_nle (by omega) (by omega)).mpr z : -nI w ≤ -nI 100); rw [show sb_dg w = 2 by unfold sb_dg; (repeat' split) <;> omega]; rfl) (rfl) (rfl) dJ6_stringSize_0f7a4_30
      · have c_3q := c_3
        have c_3 := Int32.not_le.mp c_3
        refine lv_iload_n hx hb dJ6_stringSize_0f7a4_27 rfl (lv_at hl 0 rfl) ?_
        refine lv_iload_n hx hb dJ6_stringSize_0f7a4_28 rfl (lv_at hl 3 rfl) ?_
        refine lv_iadd hx hb dJ6_stringSize_0f7a4_29 ?_
        exact me_iret hC hr hlk hM (by have g0 : ¬ 10 ≤ w := fun z => c_3q ((sb_nle (by omega) (by omega)).mpr z : -nI w ≤ -nI 10); rw [show sb_dg w = 1 by unfold sb_dg; (repeat' split) <;> omega]; rfl) (rfl) (rfl) dJ6_stringSize_0f7a4_30
set_option maxHeartbeats 4000000 in
theorem c_J6_getChars_0 (l : Launch) (D : va_G) (tb : Nat → ClassId) (X : State → Prop) (z0 n : Nat) (kO kT : Nat) (w p v cap : Nat) (f : Nat → Int32) (M : me_M)  (hKD : ∀ U, X U → me_kd kO kT z0 U) (hv : M v = some (.inl (tb 1, cap, .inl f))) (hw9 : w < 1000000000) (hp : sb_dg w + 0 ≤ p) (hpc : p ≤ cap) (hcap : cap ≤ 198) : Met l yJ6_getChars_ba4f3 (.code yJ6_getChars_ba4f3 cJ6_getChars_ba4f3 7 (some .int) :: ws_all) ({ frames := 0, cells := 0, slots := 0, locals := 0 } : Room) (me_Pc [.int (nI w), .int (nI p), .ref v] D tb X z0 (M) n) (me_Qi D z0 (nI (p - sb_dg w - 0)) (me_up M v (.inl (tb 1, cap, .inl (gsF w 0 p f)))) n) 0 0 (me_A z0) := by
  refine me_open (by decide) (Nat.le_of_ble_eq_true rfl) ?_
  intro p9 e s m args below meth c ls hC hr hlk hnm hM hl
  have hl : lv_has ls 7 [(0, .int (nI w)), (1, .int (nI p)), (2, .ref v)] := hl
  have hx := hC.1
  have hb := hC.2.1
  have hw := hC.2.2.2.2.1
  have hM := hM.eq (me_up_id hv).symm
  refine lv_iload_n hx hb dJ6_getChars_ba4f3_0 rfl (lv_at hl 1 rfl) ?_
  refine lv_istore (lv' := [(5, .int (nI p)), (0, .int (nI w)), (1, .int (nI p)), (2, .ref v)]) hx hb dJ6_getChars_ba4f3_1 hl (by decide) rfl (fun ls hl => ?_)
  refine lv_iload_n hx hb dJ6_getChars_ba4f3_3 rfl (lv_at hl 1 rfl) ?_
  refine lv_if_ge (tgt := 11) hx hb dJ6_getChars_ba4f3_4 (by decide) (fun c_1 => ?_) (fun c_1 => ?_)
  · have c_1 := (br_le (show (0 : Int32) = nI 0 from rfl) rfl (by omega) (by omega)).mp c_1
    refine lv_iconst (v := 0) hx hb dJ6_getChars_ba4f3_11 (by decide) ?_
    refine lv_istore (lv' := [(6, .int 0), (5, .int (nI p)), (0, .int (nI w)), (1, .int (nI p)), (2, .ref v)]) hx hb dJ6_getChars_ba4f3_12 hl (by decide) rfl (fun ls hl => ?_)
    refine lv_iload hx hb dJ6_getChars_ba4f3_14 (lv_at hl 0 rfl) ?_
    refine lv_if_ne (tgt := 22) hx hb dJ6_getChars_ba4f3_16 (by decide) (fun c_2 => ?_) (fun c_2 => ?_)
    · exact absurd c_2 (by decide)
    · refine lv_iload_n hx hb dJ6_getChars_ba4f3_19 rfl (lv_at hl 2 rfl) ?_
      refine lv_ineg hx hb dJ6_getChars_ba4f3_20 ?_
      refine lv_istore_n (lv' := [(0, .int (-(nI w))), (6, .int 0), (5, .int (nI p)), (1, .int (nI p)), (2, .ref v)]) hx hb dJ6_getChars_ba4f3_21 rfl hl (by decide) rfl (fun ls hl => ?_)
      have lp_22 : ∀ (u : Nat) (e9 : Nat) (H : Heap) (locs : List Loc) (ls : Array Slot), (u = w / 10 ^ e9) → (e9 + sb_dg u = sb_dg w) → (u ≤ w) → me_at D z0 (me_up M v (.inl (tb 1, cap, .inl (gcF w p e9 f)))) n s H locs → lv_has ls 7 [(0, .int (-(nI u))), (2, .ref v), (5, .int (nI (p - e9))), (6, .int 0)] → W p9 l e (({ frames := 0, cells := 0, slots := 0, locals := 0 } : Room)) s m args below meth c H locs 0 0 (MQ below (me_Qi D z0 (nI (p - sb_dg w - 0)) (me_up M v (.inl (tb 1, cap, .inl (gsF w 0 p f)))) n) args s 0 0 (me_A z0)) (F0 m 22 ls []) := by
        intro u
        refine Nat.strongRecOn u ?_
        intro u ih_22 e9 H locs ls hu he9 hub hM hl
        have hdw := sb_dg_in w
        refine lv_iload_n hx hb dJ6_getChars_ba4f3_22 rfl (lv_at hl 0 rfl) ?_
        refine lv_bipush (v := (-100)) hx hb dJ6_getChars_ba4f3_23 (by decide) ?_
        refine lv_icmp_gt (tgt := 72) hx hb dJ6_getChars_ba4f3_25 (by decide) (fun c_3 => ?_) (fun c_3 => ?_)
        · have c_3q := Int32.not_le.mpr c_3
          have hu9 : u < 100 := (sb_nlt (by omega) (by omega)).mp (show -nI 100 < -nI u from c_3)
          have hdu := sb_dg_in u
          refine lv_aload_n hx hb dJ6_getChars_ba4f3_72 rfl (lv_at hl 1 rfl) ?_
          refine lv_iinc (v := nI ((p - e9) - 1)) (lv' := [(5, .int (nI ((p - e9) - 1))), (0, .int (-(nI u))), (2, .ref v), (6, .int 0)]) hx hb dJ6_getChars_ba4f3_73 hl (k := 2) rfl (sb_m1 (by omega)) (by decide) rfl (fun ls hl => ?_)
          refine lv_iload hx hb dJ6_getChars_ba4f3_76 (lv_at hl 0 rfl) ?_
          refine va_gets hx hb (hKD s hC.2.2.2.2.2.1.2).1 hM.2.2.2.2 hC.2.2.2.1 (hw _ w_1002) (fun _ h => h) dJ6_getChars_ba4f3_78 ?_
          refine lv_iload_n hx hb dJ6_getChars_ba4f3_81 rfl (lv_at hl 1 rfl) ?_
          refine lv_ineg hx hb dJ6_getChars_ba4f3_82 ?_
          refine va_tb hx hb (hKD s hC.2.2.2.2.2.1.2).2.2.1 hM.2.2.2.2 (i := -(-(nI u))) (by rw [Int32.neg_neg]; exact vp_in_nI (by omega) (by omega)) (v := .int (sb_b (48 + u % 10))) (by rw [Int32.neg_neg]; rw [nI_clamp (by omega)]) dJ6_getChars_ba4f3_83 ?_
          refine me_bast (k := (p - e9) - 1) (M2 := me_up M v (.inl (tb 1, cap, .inl (upd (gcF w p e9 f) ((p - e9) - 1) (vp_nar .byte (sb_b (48 + u % 10))))))) hC hM (me_up_s _ _ _) rfl (by omega) (by first | decide | omega) (me_up_up _ _ _ _) dJ6_getChars_ba4f3_84 (fun H locs hM => ?_)
          refine lv_iload_n hx hb dJ6_getChars_ba4f3_85 rfl (lv_at hl 1 rfl) ?_
          refine lv_bipush (v := (-9)) hx hb dJ6_getChars_ba4f3_86 (by decide) ?_
          refine lv_icmp_ge (tgt := 104) hx hb dJ6_getChars_ba4f3_88 (by decide) (fun c_4 => ?_) (fun c_4 => ?_)
          · have c_4q := c_4
            have c_4 := Int32.not_lt.mpr c_4
            have h9 : u ≤ 9 := (sb_nle (by omega) (by omega)).mp (show -nI 9 ≤ -nI u from c_4q)
            have hd1 := dg_1 h9
            have hM := hM.eq (M2 := me_up M v (.inl (tb 1, cap, .inl (gcF w p (sb_dg w) f)))) (by rw [gc_put (by omega) (show u % 10 = w / 10 ^ e9 % 10 by rw [hu]), show e9 + 1 = sb_dg w by omega])
            refine lv_iload hx hb dJ6_getChars_ba4f3_104 (lv_at hl 3 rfl) ?_
            refine lv_if_eq (tgt := 118) hx hb dJ6_getChars_ba4f3_106 (by decide) (fun c_5 => ?_) (fun c_5 => ?_)
            · refine lv_iload hx hb dJ6_getChars_ba4f3_118 (lv_at hl 0 rfl) ?_
              exact me_iret hC hr hlk hM (congrArg nI (by omega)) (by unfold gsF; rw [if_pos rfl]) (rfl) dJ6_getChars_ba4f3_120
            · exact absurd c_5 (by decide)
          · have c_4q := c_4
            have c_4 := Int32.not_le.mp c_4
            have h9 : ¬ u ≤ 9 := fun z => c_4q ((sb_nle (by omega) (by omega)).mpr z : -nI 9 ≤ -nI u)
            have hd2 := dg_2 h9 hu9
            refine lv_aload_n hx hb dJ6_getChars_ba4f3_91 rfl (lv_at hl 2 rfl) ?_
            refine lv_iinc (v := nI (((p - e9) - 1) - 1)) (lv' := [(5, .int (nI (((p - e9) - 1) - 1))), (0, .int (-(nI u))), (2, .ref v), (6, .int 0)]) hx hb dJ6_getChars_ba4f3_92 hl (k := 0) rfl (sb_m1 (by omega)) (by decide) rfl (fun ls hl => ?_)
            refine lv_iload hx hb dJ6_getChars_ba4f3_95 (lv_at hl 0 rfl) ?_
            refine va_gets hx hb (hKD s hC.2.2.2.2.2.1.2).2.1 hM.2.2.2.2 hC.2.2.2.1 (hw _ w_1004) (fun _ h => h) dJ6_getChars_ba4f3_97 ?_
            refine lv_iload_n hx hb dJ6_getChars_ba4f3_100 rfl (lv_at hl 1 rfl) ?_
            refine lv_ineg hx hb dJ6_getChars_ba4f3_101 ?_
            refine va_tb hx hb (hKD s hC.2.2.2.2.2.1.2).2.2.2.1 hM.2.2.2.2 (i := -(-(nI u))) (by rw [Int32.neg_neg]; exact vp_in_nI (by omega) (by omega)) (v := .int (sb_b (48 + u / 10))) (by rw [Int32.neg_neg]; rw [nI_clamp (by omega)]) dJ6_getChars_ba4f3_102 ?_
            refine me_bast (k := ((p - e9) - 1) - 1) (M2 := me_up M v (.inl (tb 1, cap, .inl (upd (upd (gcF w p e9 f) ((p - e9) - 1) (vp_nar .byte (sb_b (48 + u % 10)))) (((p - e9) - 1) - 1) (vp_nar .byte (sb_b (48 + u / 10))))))) hC hM (me_up_s _ _ _) rfl (by omega) (by first | decide | omega) (me_up_up _ _ _ _) dJ6_getChars_ba4f3_103 (fun H locs hM => ?_)
            have hd2 := dg_2 h9 hu9
            have hM := hM.eq (M2 := me_up M v (.inl (tb 1, cap, .inl (gcF w p (sb_dg w) f)))) (by rw [show u % 10 = u % 100 % 10 by omega, show u / 10 = u % 100 / 10 by omega, gc_2 (by omega) hu, show e9 + 2 = sb_dg w by omega])
            refine lv_iload hx hb dJ6_getChars_ba4f3_104 (lv_at hl 3 rfl) ?_
            refine lv_if_eq (tgt := 118) hx hb dJ6_getChars_ba4f3_106 (by decide) (fun c_6 => ?_) (fun c_6 => ?_)
            · refine lv_iload hx hb dJ6_getChars_ba4f3_118 (lv_at hl 0 rfl) ?_
              exact me_iret hC hr hlk hM (congrArg nI (by omega)) (by unfold gsF; rw [if_pos rfl]) (rfl) dJ6_getChars_ba4f3_120
            · exact absurd c_6 (by decide)
        · have c_3q := Int32.not_lt.mp c_3
          have hu9 : ¬ u < 100 := fun z => c_3 ((sb_nlt (by omega) (by omega)).mpr z : -nI 100 < -nI u)
          have hdu := sb_dg_in (u / 100)
          have hd100 := sb_dg100 (w := u) (by omega) (by omega)
          refine lv_iload_n hx hb dJ6_getChars_ba4f3_28 rfl (lv_at hl 0 rfl) ?_
          refine lv_bipush (v := 100) hx hb dJ6_getChars_ba4f3_29 (by decide) ?_
          refine lv_idiv hx hb dJ6_getChars_ba4f3_31 (by decide) ?_
          refine me_evi (y := -(nI (u / 100))) (sb_ndiv (by omega)) ?_
          refine lv_istore_n (lv' := [(3, .int (-(nI (u / 100)))), (0, .int (-(nI u))), (2, .ref v), (5, .int (nI (p - e9))), (6, .int 0)]) hx hb dJ6_getChars_ba4f3_32 rfl hl (by decide) rfl (fun ls hl => ?_)
          refine lv_iload_n hx hb dJ6_getChars_ba4f3_33 rfl (lv_at hl 0 rfl) ?_
          refine lv_bipush (v := 100) hx hb dJ6_getChars_ba4f3_34 (by decide) ?_
          refine lv_imul hx hb dJ6_getChars_ba4f3_36 ?_
          refine lv_iload_n hx hb dJ6_getChars_ba4f3_37 rfl (lv_at hl 1 rfl) ?_
          refine lv_isub hx hb dJ6_getChars_ba4f3_38 ?_
          refine me_evi (y := nI (u % 100)) (sb_nrem (by omega)) ?_
          refine lv_istore (lv' := [(4, .int (nI (u % 100))), (3, .int (-(nI (u / 100)))), (0, .int (-(nI u))), (2, .ref v), (5, .int (nI (p - e9))), (6, .int 0)]) hx hb dJ6_getChars_ba4f3_39 hl (by decide) rfl (fun ls hl => ?_)
          refine lv_iload_n hx hb dJ6_getChars_ba4f3_41 rfl (lv_at hl 1 rfl) ?_
          refine lv_istore_n (lv' := [(0, .int (-(nI (u / 100)))), (4, .int (nI (u % 100))), (3, .int (-(nI (u / 100)))), (2, .ref v), (5, .int (nI (p - e9))), (6, .int 0)]) hx hb dJ6_getChars_ba4f3_42 rfl hl (by decide) rfl (fun ls hl => ?_)
          refine lv_aload_n hx hb dJ6_getChars_ba4f3_43 rfl (lv_at hl 3 rfl) ?_
          refine lv_iinc (v := nI ((p - e9) - 1)) (lv' := [(5, .int (nI ((p - e9) - 1))), (0, .int (-(nI (u / 100)))), (4, .int (nI (u % 100))), (3, .int (-(nI (u / 100)))), (2, .ref v), (6, .int 0)]) hx hb dJ6_getChars_ba4f3_44 hl (k := 4) rfl (sb_m1 (by omega)) (by decide) rfl (fun ls hl => ?_)
          refine lv_iload hx hb dJ6_getChars_ba4f3_47 (lv_at hl 0 rfl) ?_
          refine va_gets hx hb (hKD s hC.2.2.2.2.2.1.2).1 hM.2.2.2.2 hC.2.2.2.1 (hw _ w_1002) (fun _ h => h) dJ6_getChars_ba4f3_49 ?_
          refine lv_iload hx hb dJ6_getChars_ba4f3_52 (lv_at hl 2 rfl) ?_
          refine va_tb hx hb (hKD s hC.2.2.2.2.2.1.2).2.2.1 hM.2.2.2.2 (i := nI (u % 100)) (by exact vp_in_nI (by omega) (by omega)) (v := .int (sb_b (48 + (u % 100) % 10))) (by rw [nI_clamp (by omega)]) dJ6_getChars_ba4f3_54 ?_
          refine me_bast (k := (p - e9) - 1) (M2 := me_up M v (.inl (tb 1, cap, .inl (upd (gcF w p e9 f) ((p - e9) - 1) (vp_nar .byte (sb_b (48 + (u % 100) % 10))))))) hC hM (me_up_s _ _ _) rfl (by omega) (by first | decide | omega) (me_up_up _ _ _ _) dJ6_getChars_ba4f3_55 (fun H locs hM => ?_)
          refine lv_aload_n hx hb dJ6_getChars_ba4f3_56 rfl (lv_at hl 4 rfl) ?_
          refine lv_iinc (v := nI (((p - e9) - 1) - 1)) (lv' := [(5, .int (nI (((p - e9) - 1) - 1))), (0, .int (-(nI (u / 100)))), (4, .int (nI (u % 100))), (3, .int (-(nI (u / 100)))), (2, .ref v), (6, .int 0)]) hx hb dJ6_getChars_ba4f3_57 hl (k := 0) rfl (sb_m1 (by omega)) (by decide) rfl (fun ls hl => ?_)
          refine lv_iload hx hb dJ6_getChars_ba4f3_60 (lv_at hl 0 rfl) ?_
          refine va_gets hx hb (hKD s hC.2.2.2.2.2.1.2).2.1 hM.2.2.2.2 hC.2.2.2.1 (hw _ w_1004) (fun _ h => h) dJ6_getChars_ba4f3_62 ?_
          refine lv_iload hx hb dJ6_getChars_ba4f3_65 (lv_at hl 2 rfl) ?_
          refine va_tb hx hb (hKD s hC.2.2.2.2.2.1.2).2.2.2.1 hM.2.2.2.2 (i := nI (u % 100)) (by exact vp_in_nI (by omega) (by omega)) (v := .int (sb_b (48 + (u % 100) / 10))) (by rw [nI_clamp (by omega)]) dJ6_getChars_ba4f3_67 ?_
          refine me_bast (k := ((p - e9) - 1) - 1) (M2 := me_up M v (.inl (tb 1, cap, .inl (upd (upd (gcF w p e9 f) ((p - e9) - 1) (vp_nar .byte (sb_b (48 + (u % 100) % 10)))) (((p - e9) - 1) - 1) (vp_nar .byte (sb_b (48 + (u % 100) / 10))))))) hC hM (me_up_s _ _ _) rfl (by omega) (by first | decide | omega) (me_up_up _ _ _ _) dJ6_getChars_ba4f3_68 (fun H locs hM => ?_)
          refine lv_goto (tgt := 22) hx hb dJ6_getChars_ba4f3_69 (by decide) ?_
          exact ih_22 (u / 100) (by omega) (e9 + 2) _ _ _ (gc_u hu) (by omega) (by omega) (hM.eq (by rw [gc_2 (by omega) hu])) (lv_sub hl [1, 4, 0, 5] rfl)
      exact lp_22 w 0 _ _ _ ((Nat.div_one w).symm) (Nat.zero_add _) (Nat.le_refl _) (hM.eq (by rw [gc_0])) (lv_sub hl [0, 4, 2, 1] rfl)
  · have c_1 := (not_congr (br_le (show (0 : Int32) = nI 0 from rfl) rfl (by omega) (by omega))).mp c_1
    exfalso; omega
