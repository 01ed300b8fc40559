theorem sh_bv (x : BitVec 32) (n : Nat) (hn : n ≤ 24) : (x >>> n).signExtend 8 = (x.sshiftRight n).signExtend 8 := by
  apply BitVec.eq_of_getLsbD_eq
  intro i hi
  rw [BitVec.getLsbD_signExtend, BitVec.getLsbD_signExtend, BitVec.getLsbD_ushiftRight, BitVec.getLsbD_sshiftRight]
  have h1 : ¬ 32 ≤ i := by omega
  have h2 : n + i < 32 := by omega
  have h3 : i < 32 := by omega
  simp [h1, h2, h3]
theorem by_24 (w : Int32) : by8 w 24 = m8 w 24 := by
  unfold by8 m8
  have : (w.toUInt32 >>> ((24 : Int32).toUInt32 &&& Int32.toUInt32 31)).toInt32.toInt8 = (w >>> ((24 : Int32) &&& 31)).toInt8 := by
    rw [show ((24 : Int32).toUInt32 &&& Int32.toUInt32 31) = 24 from by decide, show ((24 : Int32) &&& 31) = 24 from by decide]
    apply Int8.toBitVec_inj.mp
    simp
    exact sh_bv w.toBitVec 24 (by omega)
  rw [this]
theorem by_16 (w : Int32) : by8 w 16 = m8 w 16 := by
  unfold by8 m8
  have : (w.toUInt32 >>> ((16 : Int32).toUInt32 &&& Int32.toUInt32 31)).toInt32.toInt8 = (w >>> ((16 : Int32) &&& 31)).toInt8 := by
    rw [show ((16 : Int32).toUInt32 &&& Int32.toUInt32 31) = 16 from by decide, show ((16 : Int32) &&& 31) = 16 from by decide]
    apply Int8.toBitVec_inj.mp
    simp
    exact sh_bv w.toBitVec 16 (by omega)
  rw [this]
theorem by_8 (w : Int32) : by8 w 8 = m8 w 8 := by
  unfold by8 m8
  have : (w.toUInt32 >>> ((8 : Int32).toUInt32 &&& Int32.toUInt32 31)).toInt32.toInt8 = (w >>> ((8 : Int32) &&& 31)).toInt8 := by
    rw [show ((8 : Int32).toUInt32 &&& Int32.toUInt32 31) = 8 from by decide, show ((8 : Int32) &&& 31) = 8 from by decide]
    apply Int8.toBitVec_inj.mp
    simp
    exact sh_bv w.toBitVec 8 (by omega)
  rw [this]
theorem by_0 (w : Int32) : by8 w 0 = vp_nar .byte (w.toInt8.toInt32) := by
  unfold by8
  have : (w.toUInt32 >>> ((0 : Int32).toUInt32 &&& Int32.toUInt32 31)).toInt32.toInt8 = w.toInt8 := by
    rw [show ((0 : Int32).toUInt32 &&& Int32.toUInt32 31) = 0 from by decide]
    apply Int8.toBitVec_inj.mp
    simp
  rw [this]
theorem ap_fe (inp : Nat → Int32) (k : Nat) (w : Int32) : apW inp k w = feW inp k w := by
  unfold apW feW
  rw [by_24, by_16, by_8, by_0]
theorem fe_in {a c : Nat → Int32} {k : Nat} {x : Int32} (h : ∀ i, i < k → a i = c i) : ∀ i, i < k + 4 → feW a k x i = feW c k x i := by
  intro i hi
  unfold feW
  rcases (show i < k ∨ i = k ∨ i = k + 1 ∨ i = k + 2 ∨ i = k + 3 by omega) with z | rfl | rfl | rfl | rfl
  · exact upd_c rfl (upd_c rfl (upd_c rfl (upd_c rfl (h i z))))
  all_goals simp [upd]
/-- twenty bytes more in both inputs -/
theorem ap_same {a c : Nat → Int32} {k : Nat} (h : ∀ i, i < k → a i = c i) (xa xb xc xd xe : Int32) : ∀ i, i < k + 4 + 4 + 4 + 4 + 4 → apW (apW (apW (apW (apW a k xa) (k + 4) xb) (k + 4 + 4) xc) (k + 4 + 4 + 4) xd) (k + 4 + 4 + 4 + 4) xe i = feW (feW (feW (feW (feW c k xa) (k + 4) xb) (k + 4 + 4) xc) (k + 4 + 4 + 4) xd) (k + 4 + 4 + 4 + 4) xe i := by
  simp only [ap_fe]
  exact fe_in (fe_in (fe_in (fe_in (fe_in h))))
