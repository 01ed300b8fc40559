/-! ===== the relation of the bureau and the model between two calls ===== -/
section RLX
variable {N N' S B L P T : Nat} {g g2 w w' x : Nat → Int32}
theorem ok1_cg (h : ok1 S B L P T w) (e : ∀ q, q < 411 → w' q = w q) : ok1 S B L P T w' := by
  obtain ⟨⟨a1, a2, a3, a4, a5, a6, a7, a8, a9, a10⟩, ⟨z1, z2⟩, h3⟩ := h
  refine ⟨⟨(e _ (by omega)).trans a1, a2, (e _ (by omega)).trans a3, a4, (e _ (by omega)).trans a5, a6, (e _ (by omega)).trans a7, a8, fun b hb => ?_, fun k hk => ?_⟩, ⟨fun k hk => ?_, fun k hk => ?_⟩, (e _ (by omega)).trans h3⟩
  · unfold hm; rw [e _ (by omega)]; exact a9 b hb
  · unfold ow; rw [e _ (by omega)]; exact a10 k hk
  · rw [e _ (by omega)]; exact z1 k hk
  · rw [e _ (by omega)]; exact z2 k hk
theorem rv_cg (h : RV N S B L P g w) (hW : wf w S B L P) (e : ∀ q, q < 411 → w' q = w q) : RV N S B L P g w' := by
  obtain ⟨h1, h2, h3, h4⟩ := h
  have hS := hW.2.1
  have hB := hW.2.2.2.1
  have hL := hW.2.2.2.2.2.1
  have hP := hW.2.2.2.2.2.2.2.1
  exact ⟨ag_w h1 hS hB hL hP e, bn_keep h2 hB (fun q _ _ _ => e q (by omega)), nm_keep h3 hS hB (fun q _ => rfl) (fun q hq => e q (by unfold nc at hq; omega)), cr_keep h4 hS hB hL (fun q hq => e q (by unfold kc at hq; omega))⟩
theorem rv_cp (h : RV N S B L P g w) (hO : ok1 S B L P T w) : RV N S B L P (cpF g S B L P x) w := by
  obtain ⟨h1, h2, h3, h4⟩ := h
  have hS := hO.1.2.1
  have hB := hO.1.2.2.2.1
  exact ⟨ag_cp h1 hO.1 hO.2.1, h2, ⟨fun k hk => by rw [cpF_S hS hk (by decide)]; exact h3.1 k hk, fun k hk => by rw [cpF_B hB hk (by decide)]; exact h3.2 k hk⟩, h4⟩
/-- a row of each, with what holds of them -/
def RX (N : Nat) (g w : Nat → Int32) : Prop := ∃ S B L P T, RV N S B L P g w ∧ ok1 S B L P T w ∧ T ≤ 9999
theorem rx_mono (h : RX N g w) (hN : N ≤ N') : RX N' g w := by
  obtain ⟨S, B, L, P, T, h1, h2, h3⟩ := h
  exact ⟨S, B, L, P, T, rv_mono h1 hN, h2, h3⟩
theorem rx_cg (h : RX N g w) (e : ∀ q, q < 411 → w' q = w q) : RX N g w' := by
  obtain ⟨S, B, L, P, T, h1, h2, h3⟩ := h
  exact ⟨S, B, L, P, T, rv_cg h1 h2.1 e, ok1_cg h2 e, h3⟩
theorem rx_cp (h : RV N S B L P g w) (hO : ok1 S B L P T w) (hT : T ≤ 9999) : RX N (cpF g S B L P x) w := ⟨S, B, L, P, T, rv_cp h hO, hO, hT⟩
end RLX
/-- how large credits may be behind t calls -/
def lim (t : Nat) : Nat := 215000000 + 300000 * t
theorem lim_s (t : Nat) : lim (t + 1) = lim t + 300000 := by
  unfold lim
  rw [Nat.mul_succ, Nat.add_assoc]
theorem lim_le (t : Nat) : lim t ≤ lim (t + 1) := by rw [lim_s]; omega
theorem lim_b {t : Nat} (h : t ≤ 512) : lim t ≤ 400000000 := by
  have h1 : 300000 * t ≤ 300000 * 512 := Nat.mul_le_mul_left 300000 h
  exact Nat.le_trans (Nat.add_le_add_left h1 215000000) (by decide)
theorem lim_0 (t : Nat) : 215000000 ≤ lim t := Nat.le_add_right _ _
/-- the changes that can be undone -/
def RH (N nx ct : Nat) (G : Nat → Nat → Int32) (od : Nat → Int32) : Prop := ∀ i, i < ct → RX N (G (1 + (nx + 10 - ct + i) % 10)) (fun j => od (i * 411 + j))
/-- the saved states -/
def RS (N : Nat) (s0 s1 : Bool) (G : Nat → Nat → Int32) (sv : Nat → Int32) : Prop := (s0 = true → RX N (G 12) (fun j => sv (0 * 411 + j))) ∧ (s1 = true → RX N (G 13) (fun j => sv (1 * 411 + j)))
def sb (s : Bool) : Int32 := if s then 1 else 0
def sn2 (s0 s1 : Bool) : Nat := (if s0 then 1 else 0) + (if s1 then 2 else 0)
/-- the numbers beside the rows: errors, lengths, history, saved -/
def RN (nx ct il ol : Nat) (s0 s1 : Bool) (F sf Fm : Nat → Int32) : Prop := F 2 = Fm 5 ∧ F 3 = Fm 6 ∧ (il ≤ 700 ∧ F 0 = nI il ∧ Fm 3 = nI il) ∧ (ol ≤ 40 ∧ F 1 = nI ol ∧ Fm 4 = nI ol) ∧ (nx < 10 ∧ ct ≤ 10 ∧ F 4 = nI nx ∧ F 5 = nI ct ∧ Fm 1 = nI ct) ∧ sf 0 = sb s0 ∧ sf 1 = sb s1 ∧ Fm 2 = nI (sn2 s0 s1)
def REL0 : lw_RT := fun t g G F sf inp out Fm w av od sv sl nz ip ot => ∃ nx ct il ol s0 s1, RX (lim t) g w ∧ RH (lim t) nx ct G od ∧ RS (lim t) s0 s1 G sv ∧ RN nx ct il ol s0 s1 F sf Fm ∧ inp = ip ∧ out = ot
section RLY
variable {N N' S B L P T nx ct il ol t : Nat} {s0 s1 : Bool} {g w av od sv sl nz ip ot F sf Fm inp out : Nat → Int32} {G : Nat → Nat → Int32}
theorem rh_mono (h : RH N nx ct G od) (hN : N ≤ N') : RH N' nx ct G od := fun i hi => rx_mono (h i hi) hN
theorem rs_mono (h : RS N s0 s1 G sv) (hN : N ≤ N') : RS N' s0 s1 G sv := ⟨fun z => rx_mono (h.1 z) hN, fun z => rx_mono (h.2 z) hN⟩
theorem lw_good0 : lw_good REL0 := by
  intro t g G F sf inp out Fm w av od sv sl nz ip ot h
  obtain ⟨nx, ct, il, ol, s0, s1, ⟨S, B, L, P, T, h1, h2, h3⟩, -⟩ := h
  exact ⟨S, B, L, P, T, h1.1, h2, h3⟩
theorem lw_keep0 : lw_keep REL0 := by
  intro t g G F sf inp out Fm w av od sv sl nz ip ot x h
  obtain ⟨nx, ct, il, ol, s0, s1, h1, h2, h3, ⟨n1, n2, n3, n4, n5, n6, n7, n8⟩, h5, h6⟩ := h
  have hl := lim_le t
  have u : ∀ i, 0 < i → upd Fm 0 x i = Fm i := fun i hi => upd_n (by omega)
  refine ⟨nx, ct, il, ol, s0, s1, rx_mono h1 hl, rh_mono h2 hl, rs_mono h3 hl, ⟨?_, ?_, ⟨n3.1, n3.2.1, ?_⟩, ⟨n4.1, n4.2.1, ?_⟩, ⟨n5.1, n5.2.1, n5.2.2.1, n5.2.2.2.1, ?_⟩, n6, n7, ?_⟩, h5, h6⟩
  · rw [u 5 (by omega)]; exact n1
  · rw [u 6 (by omega)]; exact n2
  · rw [u 3 (by omega)]; exact n3.2.2
  · rw [u 4 (by omega)]; exact n4.2.2
  · rw [u 1 (by omega)]; exact n5.2.2.2.2
  · rw [u 2 (by omega)]; exact n8
/-- a change is remembered by both -/
theorem rh_rec (h : RH N nx ct G od) (hnx : nx < 10) (hct : ct ≤ 10) (hV : RV N S B L P g w) (hO : ok1 S B L P T w) (hT : T ≤ 9999) : RH N ((nx + 1) % 10) (min (ct + 1) 10) (recG G g S B L P nx) (rmO od w ct) := by
  intro i hi
  have new : RX N (recG G g S B L P nx (1 + nx)) w := by
    unfold recG
    rw [updG_s]
    exact rx_cp hV hO hT
  have oth : ∀ k, k < 10 → k ≠ nx → recG G g S B L P nx (1 + k) = G (1 + k) := fun k hk hn => by
    unfold recG
    exact updG_n (by omega)
  rcases Nat.lt_or_ge ct 10 with c | c
  · have em : min (ct + 1) 10 = ct + 1 := by omega
    rw [em] at hi ⊢
    have hO : rmO od w ct = cq od w (ct * 411) 411 := if_neg (by omega)
    rw [hO]
    by_cases ci : i = ct
    · subst ci
      rw [show ((nx + 1) % 10 + 10 - (i + 1) + i) % 10 = nx by omega]
      refine rx_cg new (fun q hq => ?_)
      exact cq_i hq
    · have z := h i (by omega)
      have e1 : ((nx + 1) % 10 + 10 - (ct + 1) + i) % 10 = (nx + 10 - ct + i) % 10 := by omega
      rw [e1, oth _ (by omega) (by omega)]
      refine rx_cg z (fun q hq => ?_)
      exact cq_n (Or.inl (by omega))
  · have ec : ct = 10 := by omega
    subst ec
    have em : min (10 + 1) 10 = 10 := by decide
    rw [em] at hi ⊢
    have hO : rmO od w 10 = cq (shO od 4110) w (9 * 411) 411 := if_pos rfl
    rw [hO]
    by_cases ci : i = 9
    · subst ci
      rw [show ((nx + 1) % 10 + 10 - 10 + 9) % 10 = nx by omega]
      refine rx_cg new (fun q hq => ?_)
      exact cq_i hq
    · have z := h (i + 1) (by omega)
      have e1 : ((nx + 1) % 10 + 10 - 10 + i) % 10 = (nx + 10 - 10 + (i + 1)) % 10 := by omega
      rw [e1, oth _ (by omega) (by omega)]
      refine rx_cg z (fun q hq => ?_)
      show cq (shO od 4110) w (9 * 411) 411 (i * 411 + q) = od ((i + 1) * 411 + q)
      rw [cq_n (Or.inl (by omega))]
      have e2 : i * 411 + q + 411 = (i + 1) * 411 + q := by rw [Nat.succ_mul]; omega
      have e3 : i * 411 + q + 411 < 4110 := by omega
      unfold shO
      rw [if_pos e3, e2]
theorem rs_rec (h : RS N s0 s1 G sv) (hnx : nx < 10) : RS N s0 s1 (recG G g S B L P nx) sv := by
  unfold recG
  refine ⟨fun z => ?_, fun z => ?_⟩
  · rw [updG_n (by omega)]; exact h.1 z
  · rw [updG_n (by omega)]; exact h.2 z
theorem rn_rec (h : RN nx ct il ol s0 s1 F sf Fm) : RN ((nx + 1) % 10) (min (ct + 1) 10) il ol s0 s1 (recF F nx ct) sf (upd (rmF Fm ct) 0 0) := by
  obtain ⟨n1, n2, n3, n4, n5, n6, n7, n8⟩ := h
  have u : ∀ i, i < 4 → recF F nx ct i = F i := fun i hi => by
    unfold recF
    rw [upd_n (by omega), upd_n (by omega)]
  have v : ∀ i, 1 < i → upd (rmF Fm ct) 0 0 i = Fm i := fun i hi => by
    unfold rmF
    rw [upd_n (by omega), upd_n (by omega)]
  refine ⟨?_, ?_, ⟨n3.1, ?_, ?_⟩, ⟨n4.1, ?_, ?_⟩, ⟨by omega, by omega, ?_, ?_, ?_⟩, n6, n7, ?_⟩
  · rw [u 2 (by omega), v 5 (by omega)]; exact n1
  · rw [u 3 (by omega), v 6 (by omega)]; exact n2
  · rw [u 0 (by omega)]; exact n3.2.1
  · rw [v 3 (by omega)]; exact n3.2.2
  · rw [u 1 (by omega)]; exact n4.2.1
  · rw [v 4 (by omega)]; exact n4.2.2
  · unfold recF; rw [upd_n (by omega), upd_s]
  · unfold recF; rw [upd_s]
  · unfold rmF
    rw [upd_n (by omega), upd_s]
    congr 1
    split <;> omega
  · rw [v 2 (by omega)]; exact n8
/-- a recorded change, and the rows that it makes -/
theorem rel_rec {g' w' av' sl' nz' : Nat → Int32} (ht : t ≤ 511) (hX : RX (lim (t + 1)) g' w') (hV : RV (lim t) S B L P g w) (hO : ok1 S B L P T w) (hT : T ≤ 9999) (h2 : RH (lim t) nx ct G od) (h3 : RS (lim t) s0 s1 G sv) (hN : RN nx ct il ol s0 s1 F sf Fm) (h5 : inp = ip) (h6 : out = ot) : REL0 (t + 1) g' (recG G g S B L P nx) (recF F nx ct) sf inp out (upd (rmF Fm ct) 0 0) w' av' (rmO od w ct) sv sl' nz' ip ot := by
  have hl := lim_le t
  have hn := hN.2.2.2.2.1
  exact ⟨_, _, il, ol, s0, s1, hX, rh_mono (rh_rec h2 hn.1 hn.2.1 hV hO hT) hl, rs_mono (rs_rec h3 hn.1) hl, rn_rec hN, h5, h6⟩
end RLY
