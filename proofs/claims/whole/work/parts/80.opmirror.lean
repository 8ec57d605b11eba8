/-! ===== mirror, put together ===== -/
section
variable {f : Nat → Int32} {i k : Nat}
theorem mr_same (h1 : i ≠ 128) (h2 : ¬ (130 ≤ i ∧ i < 166 ∧ (i - 130) % 3 ≠ 1)) (h3 : ¬ (167 ≤ i ∧ i < 239)) (h4 : ¬ (43 ≤ i ∧ i < 55 ∧ (i - 43) % 2 = 0)) (h5 : ¬ (19 ≤ i ∧ i < 25)) (h6 : ¬ (28 ≤ i ∧ i < 40)) (h7 : i ≠ 25) (h8 : i ≠ 40) (h9 : i ≠ 42) : mrF f i = f i := by
  unfold mrF
  rw [uR_n h1, mrB_n (by omega) (by omega), mrA_n (by omega) (by omega) (by omega), uR_n h9, uR_n h8, uR_n h7]
theorem mr_bend (h : 19 ≤ i ∧ i < 25) : mrF f i = -f i := by
  unfold mrF
  rw [uR_n (by omega), mrB_n (by omega) (by omega)]
  unfold mrA
  rw [if_neg (by omega), if_pos (by omega), uR_n (by omega), uR_n (by omega), uR_n (by omega)]
theorem mr_bar (h : 43 ≤ i ∧ i < 55 ∧ (i - 43) % 2 = 0) : mrF f i = -f i := by
  unfold mrF
  rw [uR_n (by omega), mrB_n (by omega) (by omega)]
  unfold mrA
  rw [if_pos (by omega), uR_n (by omega), uR_n (by omega), uR_n (by omega)]
theorem mr_lo (h : k < 6) : mrF f (28 + 2 * k) = -f (29 + 2 * k) := by
  unfold mrF
  rw [uR_n (by omega), mrB_n (by omega) (by omega)]
  unfold mrA
  rw [if_neg (by omega), if_neg (by omega), if_pos (by omega), if_pos (by omega), uR_n (by omega), uR_n (by omega), uR_n (by omega), show 28 + 2 * k + 1 = 29 + 2 * k by omega]
theorem mr_hi (h : k < 6) : mrF f (29 + 2 * k) = -f (28 + 2 * k) := by
  unfold mrF
  rw [uR_n (by omega), mrB_n (by omega) (by omega)]
  unfold mrA
  rw [if_neg (by omega), if_neg (by omega), if_pos (by omega), if_neg (by omega), uR_n (by omega), uR_n (by omega), uR_n (by omega), show 29 + 2 * k - 1 = 28 + 2 * k by omega]
theorem mr_25 : mrF f 25 = -f 25 := by
  unfold mrF
  rw [uR_n (by omega), mrB_n (by omega) (by omega), mrA_n (by omega) (by omega) (by omega), uR_n (by omega), uR_n (by omega), uR_y]
theorem mr_40 : mrF f 40 = -f 40 := by
  unfold mrF
  rw [uR_n (by omega), mrB_n (by omega) (by omega), mrA_n (by omega) (by omega) (by omega), uR_n (by omega), uR_y]
theorem mr_42 : mrF f 42 = -f 42 := by
  unfold mrF
  rw [uR_n (by omega), mrB_n (by omega) (by omega), mrA_n (by omega) (by omega) (by omega), uR_y]
theorem mr_128 : mrF f 128 = nI 1 - f 128 := by unfold mrF; rw [uR_y]
theorem mr_tick (h : 130 ≤ i ∧ i < 166 ∧ (i - 130) % 3 ≠ 1) : mrF f i = -f i := by
  unfold mrF
  rw [uR_n (by omega)]
  unfold mrB
  rw [if_pos (by omega), mrA_n (by omega) (by omega) (by omega), uR_n (by omega), uR_n (by omega), uR_n (by omega)]
theorem mr_pose (h : 167 ≤ i ∧ i < 239) : mrF f i = -f i := by
  unfold mrF
  rw [uR_n (by omega)]
  unfold mrB
  rw [if_neg (by omega), if_pos (by omega), mrA_n (by omega) (by omega) (by omega), uR_n (by omega), uR_n (by omega), uR_n (by omega)]
end
theorem neg_in {x : Int32} {lo hi : Int} (h : inR x lo hi) (h1 : -2147483648 < lo) : inR (-x) (-hi) (-lo) ∧ (-x).toInt = -x.toInt := by
  obtain ⟨a, b⟩ := h
  have b2 : x.toInt < 2147483648 := Int32.toInt_lt x
  have e : (-x).toInt = -x.toInt := by
    have : -x = i3 (-x.toInt) := by rw [← i3_neg, i3_t]
    rw [this, i3_toInt (by omega) (by omega)]
  exact ⟨⟨by rw [e]; omega, by rw [e]; omega⟩, e⟩
theorem ne_32 {x : Int32} {hi : Int} (h : inR x (-32) hi) (hn : ¬ x ≤ -nI 32) : inR x (-31) hi := by
  have e : (-nI 32 : Int32).toInt = -32 := by decide
  refine ⟨?_, h.2⟩
  have := h.1
  have : ¬ x.toInt ≤ -32 := fun z => hn (Int32.le_iff_toInt_le.mpr (by rw [e]; exact z))
  omega
theorem rP6_mir {c c' : Nat → Nat → Int32} {f : Nat → Int32} {n q m tk ps : Nat} (h : rP6 c f n q m tk ps) (hm : PmM f n q tk ps) (k14 : c' 1 4 = c 1 4) (k15 : c' 1 5 = -c 1 5) (k16 : c' 1 6 = c 1 6) (kl : ∀ k, k < 6 → c' 2 k = c 2 k ∧ c' 3 k = c 3 k ∧ c' 4 k = c 4 k) (k5 : ∀ k, k < n → c' 5 k = -c 5 k) (k62 : c' 6 2 = c 6 2) (k7 : ∀ k, k < q → c' 7 k = -c 8 k ∧ c' 8 k = -c 7 k) (k92 : c' 9 2 = -c 9 2) (k93 : c' 9 3 = c 9 3) (k94 : c' 9 4 = -c 9 4) (kb : ∀ k, k < 6 → c' 10 k = -c 10 k ∧ c' 11 k = c 11 k) (kh : c' 12 6 = c 12 6) (kh2 : ∀ k, k < 12 → c' 13 k = c 13 k ∧ c' 14 k = c 14 k ∧ c' 15 k = c 15 k ∧ c' 16 k = c 16 k ∧ c' 17 k = c 17 k ∧ c' 18 k = c 18 k) (k05 : c' 0 5 = nI 1 - c 0 5) (k19 : c' 19 4 = c 19 4 ∧ c' 19 5 = c 19 5) (kg : ∀ t, t < tk → c' 20 t = -c 20 t ∧ c' 21 t = c 21 t ∧ c' 22 t = -c 22 t) (kp : ∀ j, j < 6 * ps → c' 23 j = -c 23 j) : rP6 c' (mrF f) n q m tk ps := by
  obtain ⟨hLim, hPin, hSpa, hCro, hBar, hHol, hHan, hGes, hPos⟩ := h
  obtain ⟨⟨⟨⟨m1, m2⟩, m3⟩, m4⟩, m5⟩ := hm
  have hn := hLim.1
  have htk := hGes.1
  have hps := hPos.2.1
  have hq : q ≤ 6 := by rcases hSpa.2.1 with ⟨-, z⟩ | ⟨-, z⟩ <;> omega
  refine ⟨⟨hn, by rw [k14]; exact hLim.2.1, by rw [mr_same (by omega) (by omega) (by omega) (by omega) (by omega) (by omega) (by omega) (by omega) (by omega)]; exact hLim.2.2.1, fun k hk => ?_⟩, ⟨?_, ?_, ?_, ?_, fun k hk => ?_⟩, ⟨?_, ?_, fun k hk => ?_⟩, ⟨?_, ?_, ?_, ?_, ?_, ?_⟩, fun k hk => ?_, ?_, ⟨?_, ?_⟩, ⟨htk, by rw [k19.1]; exact hGes.2.1, by rw [mr_same (by omega) (by omega) (by omega) (by omega) (by omega) (by omega) (by omega) (by omega) (by omega)]; exact hGes.2.2.1, fun k hk => ?_⟩, ⟨hPos.1, hps, by rw [k19.2]; exact hPos.2.2.1, by rw [mr_same (by omega) (by omega) (by omega) (by omega) (by omega) (by omega) (by omega) (by omega) (by omega)]; exact hPos.2.2.2.1, fun k hk i hi => ?_⟩⟩
  · obtain ⟨l1, l2, l3, l4, l5, l6, l7, l8⟩ := hLim.2.2.2 k hk
    obtain ⟨g1, g2, g3⟩ := kl k (by omega)
    rw [g1, g2, g3, k5 k hk, mr_same (i := 1 + k) (by omega) (by omega) (by omega) (by omega) (by omega) (by omega) (by omega) (by omega) (by omega), mr_same (i := 7 + k) (by omega) (by omega) (by omega) (by omega) (by omega) (by omega) (by omega) (by omega) (by omega), mr_same (i := 13 + k) (by omega) (by omega) (by omega) (by omega) (by omega) (by omega) (by omega) (by omega) (by omega), mr_bend (by omega), l4]
    have := (neg_in (ne_32 l8 (m2 k (by omega) hk)) (by omega)).1
    exact ⟨l1, l2, l3, rfl, l5, l6, l7, by have := this.1; omega, this.2⟩
  · rw [k15, mr_25, hPin.1]
  · rw [k16, mr_same (by omega) (by omega) (by omega) (by omega) (by omega) (by omega) (by omega) (by omega) (by omega)]; exact hPin.2.1
  · rw [mr_25]; exact (neg_in hPin.2.2.1 (by omega)).1
  · rw [mr_same (by omega) (by omega) (by omega) (by omega) (by omega) (by omega) (by omega) (by omega) (by omega)]; exact hPin.2.2.2.1
  · rw [mr_bend (by omega)]
    exact (neg_in (lo := -32) (hi := 32) (hPin.2.2.2.2 k hk) (by omega)).1
  · rw [k62, mr_same (by omega) (by omega) (by omega) (by omega) (by omega) (by omega) (by omega) (by omega) (by omega)]; exact hSpa.1
  · rw [mr_same (by omega) (by omega) (by omega) (by omega) (by omega) (by omega) (by omega) (by omega) (by omega)]; exact hSpa.2.1
  · obtain ⟨g1, g2, g3, g4⟩ := hSpa.2.2 k hk
    obtain ⟨j1, j2⟩ := k7 k hk
    have b1 := neg_in (ne_32 g3 (m3 k (by omega) hk)) (by omega)
    have b2 := neg_in g4 (by omega)
    rw [j1, j2, mr_lo (by omega), mr_hi (by omega), g1, g2]
    have c1 := g3.2
    have c2 := (ne_32 g3 (m3 k (by omega) hk)).1
    refine ⟨rfl, rfl, ⟨?_, ?_⟩, ?_, ?_⟩
    · have := b2.1.1; omega
    · rw [b1.2, b2.2]; omega
    · rw [b1.2]; have := g4.2; omega
    · rw [b1.2]; omega
  · rw [k92, mr_40, hCro.1]
  · rw [k93, mr_same (by omega) (by omega) (by omega) (by omega) (by omega) (by omega) (by omega) (by omega) (by omega)]; exact hCro.2.1
  · rw [k94, mr_42, hCro.2.2.1]
  · rw [mr_40]; exact (neg_in hCro.2.2.2.1 (by omega)).1
  · rw [mr_same (by omega) (by omega) (by omega) (by omega) (by omega) (by omega) (by omega) (by omega) (by omega)]; exact hCro.2.2.2.2.1
  · rw [mr_42]
    have := (neg_in (ne_32 hCro.2.2.2.2.2 m1) (by omega)).1
    exact ⟨by have := this.1; omega, this.2⟩
  · obtain ⟨g1, g2, g3, g4⟩ := hBar k hk
    obtain ⟨j1, j2⟩ := kb k hk
    rw [j1, j2, mr_bar (by omega), mr_same (i := 44 + 2 * k) (by omega) (by omega) (by omega) (by omega) (by omega) (by omega) (by omega) (by omega) (by omega), g1, g2]
    exact ⟨rfl, rfl, (neg_in g3 (by omega)).1, g4⟩
  · exact rHol_congr kh kh2 (fun i h1 h2 => mr_same (by omega) (by omega) (by omega) (by omega) (by omega) (by omega) (by omega) (by omega) (by omega)) hHol
  · rw [k05, mr_128, hHan.1]
  · rw [mr_128]
    rcases hHan.2 with z | z
    · rw [z]; exact Or.inr rfl
    · rw [z]; exact Or.inl rfl
  · obtain ⟨g1, g2, g3, g4, g5, g6⟩ := hGes.2.2.2 k hk
    obtain ⟨j1, j2, j3⟩ := kg k hk
    rw [j1, j2, j3, mr_tick (i := 130 + 3 * k) (by omega), mr_same (i := 131 + 3 * k) (by omega) (by omega) (by omega) (by omega) (by omega) (by omega) (by omega) (by omega) (by omega), mr_tick (i := 132 + 3 * k) (by omega), g1, g2, g3]
    have b := (neg_in (ne_32 g6 (m4 k (by omega) hk)) (by omega)).1
    exact ⟨rfl, rfl, rfl, (neg_in g4 (by omega)).1, g5, by have := b.1; omega, b.2⟩
  · obtain ⟨g1, g2, g3⟩ := hPos.2.2.2.2 k hk i hi
    rw [kp _ (by omega), mr_pose (by omega)]
    refine ⟨fun hl => by rw [g1 hl], fun hl => by rw [g2 hl]; rfl, fun hl => ?_⟩
    have b := (neg_in (ne_32 (g3 hl) (m5 k (by omega) hk i (by omega) hl)) (by omega)).1
    exact ⟨by have := b.1; omega, b.2⟩
section
variable {Q : mQo} {n : Nat} {I : Nat → Nat → Int32} {L : Nat → Nat → Int64} {a n1 q tk ps : Nat} {f : Nat → Int32}
theorem k_t5 (ha : sPup (tt n) a) (hn : n1 ≤ 6) (v1 : I (a + 1) 4 = nI n1) : C_X5_turnOver [.ref (a + 1)] (tt n, I, L) Q = Q none (tt n, tsC (mUI I (a + 1) 5 (-I (a + 1) 5)) (a + 5) n1, L) := by
  have a0 := ha.1
  obtain ⟨tL, w0, w1, w2, w3⟩ := ha.2.2.1
  obtain ⟨-, -, -, ⟨s7, s8⟩, -⟩ := ha.2.2.2.2.2.2.2
  have kA := fun (Q : mQo) (I : Nat → Nat → Int32) => k_ts (Q := Q) (I := I) (L := L) s7 s8 (by omega) (by omega) hn (nI_cn (show n1 ≤ 100 by omega))
  simp (disch := omega) only [c_X5_turnOver, e_X5_turnOver_0, e_X5_turnOver_0n, e_X5_turnOver_1, e_X5_turnOver_1n, e_X5_turnOver_2, e_X5_turnOver_5, e_X5_turnOver_6, e_X5_turnOver_9, e_X5_turnOver_9n, e_X5_turnOver_10, e_X5_turnOver_13, e_X5_turnOver_13n, e_X5_turnOver_14, e_X5_turnOver_17, e_X5_turnOver_20, mNl_i, mNl_r, mNl_n, mNl_l, mNl_0, mRV_s, mRV_n, tl_s, tl_n, cs_0, cs_i, cs_r, cs_n, cs_l, Nat.reduceAdd, Nat.reduceLeDiff, true_and, and_true, eq_self_iff_true, if_true, if_false, Nat.lt_irrefl, s_lit, s_eq, s_le, s_lt, nI_add, pk_mul, s_in, s_cl, bI_n, bI_zn, not_true, not_false_eq_true, true_implies, false_implies, Nat.reduceEqDiff, Nat.reduceMul, Classical.not_not, imp_self, implies_true, tt_z, tL, w3, mUI_no, v1, kA]
theorem k_t0 (ha : sPup (tt n) a) : C_X0_turnOver [.ref (a + 9)] (tt n, I, L) Q = Q none (tt n, tsC (mUI (mUI I (a + 9) 2 (-I (a + 9) 2)) (a + 9) 4 (-I (a + 9) 4)) (a + 10) 6, L) := by
  have a0 := ha.1
  obtain ⟨tC, r0, mrA⟩ := ha.2.2.2.2.1
  obtain ⟨-, -, -, -, -, -, ⟨s1, s2⟩, -⟩ := ha.2.2.2.2.2.2.2
  have kA := fun (Q : mQo) (I : Nat → Nat → Int32) => k_ts (Q := Q) (I := I) (L := L) s1 s2 (by omega) (by omega) (Nat.le_refl 6) (nI_cn (show 6 ≤ 100 by omega))
  simp (disch := omega) only [c_X0_turnOver, e_X0_turnOver_0, e_X0_turnOver_0n, e_X0_turnOver_1, e_X0_turnOver_1n, e_X0_turnOver_2, e_X0_turnOver_5, e_X0_turnOver_6, e_X0_turnOver_9, e_X0_turnOver_9n, e_X0_turnOver_10, e_X0_turnOver_10n, e_X0_turnOver_11, e_X0_turnOver_14, e_X0_turnOver_15, e_X0_turnOver_18, e_X0_turnOver_18n, e_X0_turnOver_19, e_X0_turnOver_22, e_X0_turnOver_24, e_X0_turnOver_27, mNl_i, mNl_r, mNl_n, mNl_l, mNl_0, mRV_s, mRV_n, tl_s, tl_n, cs_0, cs_i, cs_r, cs_n, cs_l, Nat.reduceAdd, Nat.reduceLeDiff, true_and, and_true, eq_self_iff_true, if_true, if_false, Nat.lt_irrefl, s_lit, s_eq, s_le, s_lt, nI_add, pk_mul, s_in, s_cl, bI_n, bI_zn, not_true, not_false_eq_true, true_implies, false_implies, Nat.reduceEqDiff, Nat.reduceMul, Classical.not_not, imp_self, implies_true, tt_z, tC, r0, mUI_no, kA]
theorem k_t2 (ha : sPup (tt n) a) (htk : tk ≤ 12) (hps : ps ≤ 12) (v1 : I (a + 19) 4 = nI tk) (v2 : I (a + 19) 5 = nI ps) : C_X2_turnOver [.ref (a + 19)] (tt n, I, L) Q = Q none (tt n, tsC (tsC (tsC I (a + 20) tk) (a + 22) tk) (a + 23) (6 * ps), L) := by
  have a0 := ha.1
  obtain ⟨tG, g0, g1, g2, g3⟩ := ha.2.2.2.2.2.2.1
  obtain ⟨-, -, -, -, -, -, -, -, -, -, -, -, -, -, ⟨s20, z20⟩, -, ⟨s22, z22⟩, ⟨s23, z23⟩⟩ := ha.2.2.2.2.2.2.2
  have kA := fun (Q : mQo) (I : Nat → Nat → Int32) => k_ts (Q := Q) (I := I) (L := L) s20 z20 (by omega) (by omega) htk (nI_cn (show tk ≤ 100 by omega))
  have kB := fun (Q : mQo) (I : Nat → Nat → Int32) => k_ts (Q := Q) (I := I) (L := L) s22 z22 (by omega) (by omega) htk (nI_cn (show tk ≤ 100 by omega))
  have kC := fun (Q : mQo) (I : Nat → Nat → Int32) => k_ts (Q := Q) (I := I) (L := L) s23 z23 (by omega) (by omega) (show 6 * ps ≤ 72 by omega) (nI_cn (show 6 * ps ≤ 100 by omega))
  simp (disch := omega) only [c_X2_turnOver, e_X2_turnOver_0, e_X2_turnOver_0n, e_X2_turnOver_1, e_X2_turnOver_4, e_X2_turnOver_4n, e_X2_turnOver_5, e_X2_turnOver_8, e_X2_turnOver_11, e_X2_turnOver_11n, e_X2_turnOver_12, e_X2_turnOver_15, e_X2_turnOver_15n, e_X2_turnOver_16, e_X2_turnOver_19, e_X2_turnOver_22, e_X2_turnOver_22n, e_X2_turnOver_23, e_X2_turnOver_26, e_X2_turnOver_28, e_X2_turnOver_28n, e_X2_turnOver_29, e_X2_turnOver_32, e_X2_turnOver_33, e_X2_turnOver_36, mNl_i, mNl_r, mNl_n, mNl_l, mNl_0, mRV_s, mRV_n, tl_s, tl_n, cs_0, cs_i, cs_r, cs_n, cs_l, Nat.reduceAdd, Nat.reduceLeDiff, true_and, and_true, eq_self_iff_true, if_true, if_false, Nat.lt_irrefl, s_lit, s_eq, s_le, s_lt, nI_add, pk_mul, s_in, s_cl, bI_n, bI_zn, not_true, not_false_eq_true, true_implies, false_implies, Nat.reduceEqDiff, Nat.reduceMul, Classical.not_not, imp_self, implies_true, tt_z, tG, g0, g2, g3, ts_n, v1, v2, kA, kB, kC]
/-- the ints of a puppet turned over -/
def tnO (I : Nat → Nat → Int32) (a n1 q tk ps : Nat) : Nat → Nat → Int32 := tsC (tsC (tsC (tsC (mUI (mUI (toC (tsC (mUI I (a + 1) 5 (-I (a + 1) 5)) (a + 5) n1) a q) (a + 9) 2 (-I (a + 9) 2)) (a + 9) 4 (-I (a + 9) 4)) (a + 10) 6) (a + 20) tk) (a + 22) tk) (a + 23) (6 * ps)
theorem k_t7 {m : Nat} (ha : sPup (tt n) a) (h6 : rP6 (blk I a) f n1 q m tk ps) : C_X7_turnOver [.ref a] (tt n, I, L) Q = Q none (tt n, mUI (tnO I a n1 q tk ps) a 5 (nI 1 - I a 5), L) := by
  have hn1 : n1 ≤ 6 := h6.1.1
  have htk : tk ≤ 12 := h6.2.2.2.2.2.2.2.1.1
  have hps : ps ≤ 12 := h6.2.2.2.2.2.2.2.2.2.1
  have a0 := ha.1
  obtain ⟨t1, r0, mrA, mrB, mrC, r4⟩ := ha.2.1
  have tL := ha.2.2.1.1
  have tS := ha.2.2.2.1.1
  have tC := ha.2.2.2.2.1.1
  have tG := ha.2.2.2.2.2.2.1.1
  have v1 : I (a + 1) 4 = nI n1 := h6.1.2.1
  have v3 : tsC (mUI I (a + 1) 5 (-I (a + 1) 5)) (a + 5) n1 (a + 6) 2 = f 27 := by rw [ts_n (by omega), mUI_no (by omega)]; exact h6.2.2.1.1
  have v9 : toC (tsC (mUI I (a + 1) 5 (-I (a + 1) 5)) (a + 5) n1) a q (a + 9) 2 = I (a + 9) 2 := by rw [to_n (by omega), ts_n (by omega), mUI_no (by omega)]
  have v94 : toC (tsC (mUI I (a + 1) 5 (-I (a + 1) 5)) (a + 5) n1) a q (a + 9) 4 = I (a + 9) 4 := by rw [to_n (by omega), ts_n (by omega), mUI_no (by omega)]
  have v7 : tsC (mUI (mUI (toC (tsC (mUI I (a + 1) 5 (-I (a + 1) 5)) (a + 5) n1) a q) (a + 9) 2 (-I (a + 9) 2)) (a + 9) 4 (-I (a + 9) 4)) (a + 10) 6 (a + 19) 4 = nI tk := by rw [ts_n (by omega), mUI_no (by omega), mUI_no (by omega), to_n (by omega), ts_n (by omega), mUI_no (by omega)]; exact h6.2.2.2.2.2.2.2.1.2.1
  have v8 : tsC (mUI (mUI (toC (tsC (mUI I (a + 1) 5 (-I (a + 1) 5)) (a + 5) n1) a q) (a + 9) 2 (-I (a + 9) 2)) (a + 9) 4 (-I (a + 9) 4)) (a + 10) 6 (a + 19) 5 = nI ps := by rw [ts_n (by omega), mUI_no (by omega), mUI_no (by omega), to_n (by omega), ts_n (by omega), mUI_no (by omega)]; exact h6.2.2.2.2.2.2.2.2.2.2.1
  have v05 : tnO I a n1 q tk ps a 5 = I a 5 := by unfold tnO; rw [ts_n (by omega), ts_n (by omega), ts_n (by omega), ts_n (by omega), mUI_no (by omega), mUI_no (by omega), to_n (by omega), ts_n (by omega), mUI_no (by omega)]
  have k2 := fun (Q : mQo) => k_t2 (Q := Q) (L := L) ha htk hps v7 v8
  have e2 : tsC (tsC (tsC (tsC (mUI (mUI (toC (tsC (mUI I (a + 1) 5 (-I (a + 1) 5)) (a + 5) n1) a q) (a + 9) 2 (-I (a + 9) 2)) (a + 9) 4 (-I (a + 9) 4)) (a + 10) 6) (a + 20) tk) (a + 22) tk) (a + 23) (6 * ps) = tnO I a n1 q tk ps := rfl
  rw [e2] at k2
  simp (disch := omega) only [c_X7_turnOver, e_X7_turnOver_0, e_X7_turnOver_0n, e_X7_turnOver_1, e_X7_turnOver_4, e_X7_turnOver_7, e_X7_turnOver_7n, e_X7_turnOver_8, e_X7_turnOver_11, e_X7_turnOver_14, e_X7_turnOver_14n, e_X7_turnOver_15, e_X7_turnOver_18, e_X7_turnOver_21, e_X7_turnOver_21n, e_X7_turnOver_22, e_X7_turnOver_25, e_X7_turnOver_28, e_X7_turnOver_28n, e_X7_turnOver_29, e_X7_turnOver_30, e_X7_turnOver_30n, e_X7_turnOver_31, e_X7_turnOver_34, e_X7_turnOver_35, e_X7_turnOver_38, mNl_i, mNl_r, mNl_n, mNl_l, mNl_0, mRV_s, mRV_n, tl_s, tl_n, cs_0, cs_i, cs_r, cs_n, cs_l, Nat.reduceAdd, Nat.reduceLeDiff, true_and, and_true, eq_self_iff_true, if_true, if_false, Nat.lt_irrefl, s_lit, s_eq, s_le, s_lt, nI_add, pk_mul, s_in, s_cl, bI_n, bI_zn, not_true, not_false_eq_true, true_implies, false_implies, Nat.reduceEqDiff, Nat.reduceMul, Classical.not_not, imp_self, implies_true, tt_z, t1, r0, mrA, mrB, r4, tL, tS, tC, tG, k_t5 ha hn1 v1, k_to ha h6.2.2.1.2.1 v3, k_t0 ha, v9, v94, k2, v05]
end
theorem op_mirror {n : Nat} {xs : Nat → Int32} (pu : Int32) : opOK n xs C_X10_mirror C_X11_mirror [.int pu] := by
  intro k I L hk hR
  obtain ⟨hl, ⟨kp, nx, hH⟩, hC, hT⟩ := id hR
  obtain ⟨⟨hkp, hnx⟩, ⟨e1, e2, e3⟩, -⟩ := id hH
  rcases pA_cases pu with ⟨p, a, hpa, rfl⟩ | hpu
  · obtain ⟨hp, ha1, ha2⟩ := pA_lt hpa
    obtain ⟨n1, q, m, tk, ps, h6⟩ := pA_rP hpa hl
    generalize hf : row I 330 (239 * p) = f at h6
    have hI : isF I p f := fun i _ => by rw [← hf]; rfl
    have ha : sPup (tt n) a := pA_sp hpa
    have hV := fInv_of h6
    have hA := hV.1
    have hn1 : n1 ≤ 6 := h6.1.1
    have hm : m ≤ 12 := hA.2.2.2.1
    have hpp := pA_pup hpa
    obtain ⟨t1, r0, r1, r2, r3, r4⟩ := ha.2.1
    obtain ⟨tL, w0, w1, w2, w3⟩ := ha.2.2.1
    obtain ⟨tS, -, -⟩ := ha.2.2.2.1
    obtain ⟨tC, -, -⟩ := ha.2.2.2.2.1
    obtain ⟨tH, y0, y1, y2, y3, y4, y5⟩ := ha.2.2.2.2.2.1
    obtain ⟨tG, g0, g1, g2, g3⟩ := ha.2.2.2.2.2.2.1
    obtain ⟨⟨s1, s2⟩, ⟨s3, s4⟩, ⟨s5, s6⟩, ⟨s7, s8⟩, -, -, -, -, ⟨s13, z13⟩, ⟨s14, z14⟩, ⟨s15, z15⟩, ⟨s16, z16⟩, ⟨s17, z17⟩, ⟨s18, z18⟩, ⟨s20, z20⟩, ⟨s21, z21⟩, ⟨s22, z22⟩, ⟨s23, z23⟩⟩ := ha.2.2.2.2.2.2.2
    have v1 : I (a + 1) 4 = nI n1 := h6.1.2.1
    have v2 : I 330 (239 * p + 0) = nI n1 := by rw [hI _ (by omega)]; exact hV.2.2.1
    have v5 : I (a + 12) 6 = nI m := h6.2.2.2.2.2.1.2.1
    have v6 : I 330 (239 * p + 55) = nI m := by rw [hI _ (by omega)]; exact hV.2.2.2.1
    have htk : tk ≤ 12 := h6.2.2.2.2.2.2.2.1.1
    have hps : ps ≤ 12 := h6.2.2.2.2.2.2.2.2.2.1
    have h129 : f 129 = nI tk := h6.2.2.2.2.2.2.2.1.2.2.1
    have h166 : f 166 = nI ps := h6.2.2.2.2.2.2.2.2.2.2.2.1
    have hS := h6.2.2.1.2.1
    by_cases hm0 : PmC I a n1 q tk ps
    · have hmM := (Pm_eq h6).mp hm0
      have h6c : rP6 (blk (kpC I kp nx) a) f n1 q m tk ps := rP6_congr (fun off j hq => by have := pAll_lt hq; exact kpC_ne hnx (by omega)) (fun _ _ => rfl) h6
      simp (disch := omega) only [c_X10_mirror, e_X10_mirror_0, e_X10_mirror_0n, e_X10_mirror_1, e_X10_mirror_2, e_X10_mirror_5, e_X10_mirror_5n, e_X10_mirror_6, e_X10_mirror_6n, e_X10_mirror_7, e_X10_mirror_7n, e_X10_mirror_10, e_X10_mirror_13, e_X10_mirror_14, e_X10_mirror_14n, e_X10_mirror_15, e_X10_mirror_18, e_X10_mirror_21, e_X10_mirror_24, e_X10_mirror_25, e_X10_mirror_25n, e_X10_mirror_26, e_X10_mirror_29, e_X10_mirror_29n, e_X10_mirror_30, e_X10_mirror_33, e_X10_mirror_33n, e_X10_mirror_34, e_X10_mirror_37, e_X10_mirror_40, e_X10_mirror_40n, e_X10_mirror_41, e_X10_mirror_44, e_X10_mirror_45, mNl_i, mNl_r, mNl_n, mNl_l, mNl_0, mRV_s, mRV_n, tl_s, tl_n, cs_0, cs_i, cs_r, cs_n, cs_l, Nat.reduceAdd, Nat.reduceLeDiff, true_and, and_true, eq_self_iff_true, if_true, if_false, Nat.lt_irrefl, s_lit, s_eq, s_le, s_lt, nI_add, pk_mul, s_in, s_cl, bI_n, bI_zn, not_true, not_false_eq_true, true_implies, false_implies, Nat.reduceEqDiff, Nat.reduceMul, Classical.not_not, imp_self, implies_true, tt_z, tg_2, rf_2_0, rf_2_1, rf_2_2, rf_2_3, rf_2_4, rf_2_5, rf_2_6, rf_2_7, rf_2_8, rf_2_9, tg_51, k_pupA hpa, t1, k_has ha h6, hm0, k_kpC hnx hkp e1 e2, k_t7 ha h6c]
      refine ⟨_, rfl, ?_⟩
      generalize hK : kpC I kp nx = K at h6c
      have K0 : ∀ x j, x < 51 ∨ 294 ≤ x → K x j = I x j := fun x j h => by rw [← hK, kpC_ne hnx h]
      generalize hJ : mUI (tnO K a n1 q tk ps) a 5 (nI 1 - K a 5) = J
      have j0 : ∀ x j, ¬ (x = a ∨ x = a + 1 ∨ x = a + 5 ∨ x = a + 7 ∨ x = a + 8 ∨ x = a + 9 ∨ x = a + 10 ∨ x = a + 20 ∨ x = a + 22 ∨ x = a + 23) → J x j = K x j := fun x j h => by
        rw [← hJ]; unfold tnO
        rw [mUI_no (by omega), ts_n (by omega), ts_n (by omega), ts_n (by omega), ts_n (by omega), mUI_no (by omega), mUI_no (by omega), to_n (by omega), ts_n (by omega), mUI_no (by omega)]
      have j1 : ∀ j, j ≠ 5 → J (a + 1) j = K (a + 1) j := fun j h => by
        rw [← hJ]; unfold tnO
        rw [mUI_no (by omega), ts_n (by omega), ts_n (by omega), ts_n (by omega), ts_n (by omega), mUI_no (by omega), mUI_no (by omega), to_n (by omega), ts_n (by omega), mUI_no (by omega)]
      have h6J : rP6 (blk J a) (mrF f) n1 q m tk ps := by
        have hq6 : q ≤ 6 := by rcases hS with ⟨-, z⟩ | ⟨-, z⟩ <;> omega
        refine rP6_mir h6c hmM (j1 4 (by omega)) ?_ (j1 6 (by omega)) (fun k hk => ⟨j0 _ _ (by omega), j0 _ _ (by omega), j0 _ _ (by omega)⟩) (fun k hk => ?_) (j0 _ _ (by omega)) (fun k hk => ⟨?_, ?_⟩) ?_ ?_ ?_ (fun k hk => ⟨?_, j0 _ _ (by omega)⟩) (j0 _ _ (by omega)) (fun k hk => ⟨j0 _ _ (by omega), j0 _ _ (by omega), j0 _ _ (by omega), j0 _ _ (by omega), j0 _ _ (by omega), j0 _ _ (by omega)⟩) ?_ ⟨j0 _ _ (by omega), j0 _ _ (by omega)⟩ (fun t ht => ⟨?_, j0 _ _ (by omega), ?_⟩) (fun j hj => ?_)
        · show J (a + 1) 5 = -K (a + 1) 5
          rw [← hJ]; unfold tnO
          rw [mUI_no (by omega), ts_n (by omega), ts_n (by omega), ts_n (by omega), ts_n (by omega), mUI_no (by omega), mUI_no (by omega), to_n (by omega), ts_n (by omega), mUI_yes ⟨rfl, rfl⟩]
        · show J (a + 5) k = -K (a + 5) k
          rw [← hJ]; unfold tnO
          rw [mUI_no (by omega), ts_n (by omega), ts_n (by omega), ts_n (by omega), ts_n (by omega), mUI_no (by omega), mUI_no (by omega), to_n (by omega), ts_y hk, mUI_no (by omega)]
        · show J (a + 7) k = -K (a + 8) k
          rw [← hJ]; unfold tnO
          rw [mUI_no (by omega), ts_n (by omega), ts_n (by omega), ts_n (by omega), ts_n (by omega), mUI_no (by omega), mUI_no (by omega), to_7 hk, ts_n (by omega), mUI_no (by omega)]
        · show J (a + 8) k = -K (a + 7) k
          rw [← hJ]; unfold tnO
          rw [mUI_no (by omega), ts_n (by omega), ts_n (by omega), ts_n (by omega), ts_n (by omega), mUI_no (by omega), mUI_no (by omega), to_8 hk, ts_n (by omega), mUI_no (by omega)]
        · show J (a + 9) 2 = -K (a + 9) 2
          rw [← hJ]; unfold tnO
          rw [mUI_no (by omega), ts_n (by omega), ts_n (by omega), ts_n (by omega), ts_n (by omega), mUI_no (by omega), mUI_yes ⟨rfl, rfl⟩]
        · show J (a + 9) 3 = K (a + 9) 3
          rw [← hJ]; unfold tnO
          rw [mUI_no (by omega), ts_n (by omega), ts_n (by omega), ts_n (by omega), ts_n (by omega), mUI_no (by omega), mUI_no (by omega), to_n (by omega), ts_n (by omega), mUI_no (by omega)]
        · show J (a + 9) 4 = -K (a + 9) 4
          rw [← hJ]; unfold tnO
          rw [mUI_no (by omega), ts_n (by omega), ts_n (by omega), ts_n (by omega), ts_n (by omega), mUI_yes ⟨rfl, rfl⟩]
        · show J (a + 10) k = -K (a + 10) k
          rw [← hJ]; unfold tnO
          rw [mUI_no (by omega), ts_n (by omega), ts_n (by omega), ts_n (by omega), ts_y hk, mUI_no (by omega), mUI_no (by omega), to_n (by omega), ts_n (by omega), mUI_no (by omega)]
        · show J (a + 0) 5 = nI 1 - K (a + 0) 5
          rw [← hJ, mUI_yes ⟨by omega, rfl⟩]; rfl
        · show J (a + 20) t = -K (a + 20) t
          rw [← hJ]; unfold tnO
          rw [mUI_no (by omega), ts_n (by omega), ts_n (by omega), ts_y ht, ts_n (by omega), mUI_no (by omega), mUI_no (by omega), to_n (by omega), ts_n (by omega), mUI_no (by omega)]
        · show J (a + 22) t = -K (a + 22) t
          rw [← hJ]; unfold tnO
          rw [mUI_no (by omega), ts_n (by omega), ts_y ht, ts_n (by omega), ts_n (by omega), mUI_no (by omega), mUI_no (by omega), to_n (by omega), ts_n (by omega), mUI_no (by omega)]
        · show J (a + 23) j = -K (a + 23) j
          rw [← hJ]; unfold tnO
          rw [mUI_no (by omega), ts_y hj, ts_n (by omega), ts_n (by omega), ts_n (by omega), mUI_no (by omega), mUI_no (by omega), to_n (by omega), ts_n (by omega), mUI_no (by omega)]
      have j330 : ∀ i, J 330 i = I 330 i := fun i => by rw [j0 _ _ (by omega), K0 _ _ (by omega)]
      have e3' : J 329 2 = nI kp := by rw [j0 _ _ (by omega), K0 _ _ (by omega)]; exact e3
      have hIJ : isF J p f := fun i hi => by rw [j330]; exact hI i hi
      have hIM : isF (kpM J kp) p f := isF_km hIJ
      have eW := rw_i hIM
      have km := fun (Q : mQo) => k_keepM (Q := Q) (n := n) (L := L) hkp e3'
      rw [← eW] at km
      have hz1 : mrA (uR (uR (uR f 25 (-f 25)) 40 (-f 40)) 42 (-f 42)) 0 = uR (uR (uR f 25 (-f 25)) 40 (-f 40)) 42 (-f 42) := mrA_0
      have fin : rAll n xs (k + 1) (rwM (kpM J kp) p (mrF f)) L := by
        refine rAll_kept2 hR hH (J := J) (fun x j h => ?_) (fun x j h => rw_n (by omega)) (pA_rL hpa hl ⟨n1, q, m, tk, ps, rP6_congr (fun off j hq => ?_) (fun i hi => rw_y hi) h6J⟩ (fun x j q1 q2 q3 => ?_) (fun j q1 q2 => ?_)) (rC_next hC ?_ rfl)
        · rw [j0 _ _ (by omega), hK]
        · have := pAll_lt hq
          show rwM (kpM J kp) p (mrF f) (a + off) j = J (a + off) j
          rw [rw_n (by omega), kpM_ne (by omega) (by omega)]
        · rw [rw_n (by omega), kpM_ne (by omega) (by omega), j0 _ _ (by omega), K0 _ _ (by omega)]
        · rw [rw_n (by omega), kpM_ne (by omega) (by omega), j330]
        · rw [rw_n (by omega), kpM_ne (by omega) (by omega), j0 _ _ (by omega), K0 _ _ (by omega)]
      have u40 : uR f 25 (-f 25) 40 = f 40 := uR_n (by omega)
      have u42 : uR (uR f 25 (-f 25)) 40 (-f 40) 42 = f 42 := by rw [uR_n (by omega), uR_n (by omega)]
      simp (disch := omega) only [c_X11_mirror, e_X11_mirror_0, e_X11_mirror_1, e_X11_mirror_4, e_X11_mirror_7, e_X11_mirror_10, e_X11_mirror_11, e_X11_mirror_11n, e_X11_mirror_12, e_X11_mirror_13, e_X11_mirror_16, e_X11_mirror_19, e_X11_mirror_22, e_X11_mirror_23, e_X11_mirror_23n, e_X11_mirror_24, e_X11_mirror_27, e_X11_mirror_27n, e_X11_mirror_28, e_X11_mirror_29, e_X11_mirror_31, e_X11_mirror_34, e_X11_mirror_34n, e_X11_mirror_35, e_X11_mirror_36, e_X11_mirror_38, e_X11_mirror_41, e_X11_mirror_41n, e_X11_mirror_42, e_X11_mirror_43, e_X11_mirror_45, e_X11_mirror_48, e_X11_mirror_49, e_X11_mirror_51, e_X11_mirror_53, e_X11_mirror_56, e_X11_mirror_56n, e_X11_mirror_57, e_X11_mirror_58, e_X11_mirror_60, e_X11_mirror_61, e_X11_mirror_62, e_X11_mirror_63, e_X11_mirror_64, e_X11_mirror_67, e_X11_mirror_67n, e_X11_mirror_68, e_X11_mirror_69, e_X11_mirror_71, e_X11_mirror_72, e_X11_mirror_73, e_X11_mirror_76, e_X11_mirror_76n, e_X11_mirror_77, e_X11_mirror_78, e_X11_mirror_80, e_X11_mirror_81, e_X11_mirror_82, e_X11_mirror_83, e_X11_mirror_84, e_X11_mirror_87, e_X11_mirror_88, e_X11_mirror_88n, e_X11_mirror_89, e_X11_mirror_90, e_X11_mirror_92, e_X11_mirror_93, e_X11_mirror_94, e_X11_mirror_95, e_X11_mirror_96, e_X11_mirror_96n, e_X11_mirror_97, e_X11_mirror_98, e_X11_mirror_100, e_X11_mirror_101, e_X11_mirror_102, e_X11_mirror_103, e_X11_mirror_104, e_X11_mirror_105, e_X11_mirror_106, e_X11_mirror_109, e_X11_mirror_110, e_X11_mirror_113, e_X11_mirror_113n, e_X11_mirror_114, e_X11_mirror_115, e_X11_mirror_117, e_X11_mirror_118, e_X11_mirror_119, e_X11_mirror_120, e_X11_mirror_121, e_X11_mirror_122, e_X11_mirror_123, e_X11_mirror_124, e_X11_mirror_125, e_X11_mirror_128, e_X11_mirror_131, e_X11_mirror_134, e_X11_mirror_135, e_X11_mirror_136, e_X11_mirror_137, e_X11_mirror_139, e_X11_mirror_142, e_X11_mirror_142n, e_X11_mirror_143, e_X11_mirror_144, e_X11_mirror_147, e_X11_mirror_148, e_X11_mirror_149, e_X11_mirror_150, e_X11_mirror_151, e_X11_mirror_154, e_X11_mirror_154n, e_X11_mirror_155, e_X11_mirror_156, e_X11_mirror_159, e_X11_mirror_160, e_X11_mirror_161, e_X11_mirror_162, e_X11_mirror_163, e_X11_mirror_164, e_X11_mirror_165, e_X11_mirror_168, e_X11_mirror_169, e_X11_mirror_170, e_X11_mirror_171, e_X11_mirror_173, e_X11_mirror_176, e_X11_mirror_176n, e_X11_mirror_177, e_X11_mirror_178, e_X11_mirror_181, e_X11_mirror_183, e_X11_mirror_184, e_X11_mirror_185, e_X11_mirror_186, e_X11_mirror_187, e_X11_mirror_188, e_X11_mirror_191, e_X11_mirror_194, e_X11_mirror_197, e_X11_mirror_200, e_X11_mirror_203, e_X11_mirror_203n, e_X11_mirror_204, e_X11_mirror_205, e_X11_mirror_208, e_X11_mirror_209, e_X11_mirror_209n, e_X11_mirror_210, e_X11_mirror_211, e_X11_mirror_214, e_X11_mirror_217, e_X11_mirror_218, e_X11_mirror_221, e_X11_mirror_222, mNl_i, mNl_r, mNl_n, mNl_l, mNl_0, mRV_s, mRV_n, tl_s, tl_n, cs_0, cs_i, cs_r, cs_n, cs_l, Nat.reduceAdd, Nat.reduceLeDiff, true_and, and_true, eq_self_iff_true, if_true, if_false, Nat.lt_irrefl, s_lit, s_eq, s_le, s_lt, nI_add, pk_mul, s_in, s_cl, bI_n, bI_zn, not_true, not_false_eq_true, true_implies, false_implies, Nat.reduceEqDiff, Nat.reduceMul, Classical.not_not, imp_self, implies_true, tt_z, tg_329, k_isPuppet tt_z, hpp, k_may hp hIJ hn1 hV.2.2.1 hS htk h129 hps h166, hmM, km, k_turnR hp, u40, u42]
      rw [← hz1]
      obtain ⟨a3', g1⟩ := l_mi1 (Q := fun r' h2 => h2.1 = tt n ∧ r' = some (.long 0) ∧ rAll n xs (k + 1) h2.2.1 h2.2.2) (n := n) (I := kpM J kp) (L := L) (g := uR (uR (uR f 25 (-f 25)) 40 (-f 40)) 42 (-f 42)) hp 6 0 none (by omega)
      rw [g1]
      simp (disch := omega) only [e_X11_mirror_134, e_X11_mirror_135, mNl_i, mNl_r, mNl_n, mNl_l, mNl_0, mRV_s, mRV_n, tl_s, tl_n, cs_0, cs_i, cs_r, cs_n, cs_l, Nat.reduceAdd, Nat.reduceLeDiff, true_and, and_true, eq_self_iff_true, if_true, if_false, Nat.lt_irrefl, s_lit, s_eq, s_le, s_lt, nI_add, pk_mul, s_in, s_cl, bI_n, bI_zn, not_true, not_false_eq_true, true_implies, false_implies, Nat.reduceEqDiff, Nat.reduceMul, Classical.not_not, imp_self, implies_true]
      obtain ⟨a3'', g2⟩ := l_mi2 (Q := fun r' h2 => h2.1 = tt n ∧ r' = some (.long 0) ∧ rAll n xs (k + 1) h2.2.1 h2.2.2) (n := n) (I := kpM J kp) (L := L) (g := mrA (uR (uR (uR f 25 (-f 25)) 40 (-f 40)) 42 (-f 42)) 6) hp 12 0 a3' (by omega)
      rw [mrB_0] at g2
      rw [g2]
      have w128 : mrB (mrA (uR (uR (uR f 25 (-f 25)) 40 (-f 40)) 42 (-f 42)) 6) 12 128 = f 128 := by rw [mrB_n (by omega) (by omega), mrA_n (by omega) (by omega) (by omega), uR_n (by omega), uR_n (by omega), uR_n (by omega)]
      have eF : uR (mrB (mrA (uR (uR (uR f 25 (-f 25)) 40 (-f 40)) 42 (-f 42)) 6) 12) 128 (nI 1 - f 128) = mrF f := rfl
      simp (disch := omega) only [e_X11_mirror_0, e_X11_mirror_1, e_X11_mirror_4, e_X11_mirror_7, e_X11_mirror_10, e_X11_mirror_11, e_X11_mirror_11n, e_X11_mirror_12, e_X11_mirror_13, e_X11_mirror_16, e_X11_mirror_19, e_X11_mirror_22, e_X11_mirror_23, e_X11_mirror_23n, e_X11_mirror_24, e_X11_mirror_27, e_X11_mirror_27n, e_X11_mirror_28, e_X11_mirror_29, e_X11_mirror_31, e_X11_mirror_34, e_X11_mirror_34n, e_X11_mirror_35, e_X11_mirror_36, e_X11_mirror_38, e_X11_mirror_41, e_X11_mirror_41n, e_X11_mirror_42, e_X11_mirror_43, e_X11_mirror_45, e_X11_mirror_48, e_X11_mirror_49, e_X11_mirror_51, e_X11_mirror_53, e_X11_mirror_56, e_X11_mirror_56n, e_X11_mirror_57, e_X11_mirror_58, e_X11_mirror_60, e_X11_mirror_61, e_X11_mirror_62, e_X11_mirror_63, e_X11_mirror_64, e_X11_mirror_67, e_X11_mirror_67n, e_X11_mirror_68, e_X11_mirror_69, e_X11_mirror_71, e_X11_mirror_72, e_X11_mirror_73, e_X11_mirror_76, e_X11_mirror_76n, e_X11_mirror_77, e_X11_mirror_78, e_X11_mirror_80, e_X11_mirror_81, e_X11_mirror_82, e_X11_mirror_83, e_X11_mirror_84, e_X11_mirror_87, e_X11_mirror_88, e_X11_mirror_88n, e_X11_mirror_89, e_X11_mirror_90, e_X11_mirror_92, e_X11_mirror_93, e_X11_mirror_94, e_X11_mirror_95, e_X11_mirror_96, e_X11_mirror_96n, e_X11_mirror_97, e_X11_mirror_98, e_X11_mirror_100, e_X11_mirror_101, e_X11_mirror_102, e_X11_mirror_103, e_X11_mirror_104, e_X11_mirror_105, e_X11_mirror_106, e_X11_mirror_109, e_X11_mirror_110, e_X11_mirror_113, e_X11_mirror_113n, e_X11_mirror_114, e_X11_mirror_115, e_X11_mirror_117, e_X11_mirror_118, e_X11_mirror_119, e_X11_mirror_120, e_X11_mirror_121, e_X11_mirror_122, e_X11_mirror_123, e_X11_mirror_124, e_X11_mirror_125, e_X11_mirror_128, e_X11_mirror_131, e_X11_mirror_134, e_X11_mirror_135, e_X11_mirror_137, e_X11_mirror_139, e_X11_mirror_142, e_X11_mirror_142n, e_X11_mirror_143, e_X11_mirror_144, e_X11_mirror_147, e_X11_mirror_148, e_X11_mirror_149, e_X11_mirror_150, e_X11_mirror_151, e_X11_mirror_154, e_X11_mirror_154n, e_X11_mirror_155, e_X11_mirror_156, e_X11_mirror_159, e_X11_mirror_160, e_X11_mirror_161, e_X11_mirror_162, e_X11_mirror_163, e_X11_mirror_164, e_X11_mirror_165, e_X11_mirror_168, e_X11_mirror_169, e_X11_mirror_170, e_X11_mirror_171, e_X11_mirror_173, e_X11_mirror_176, e_X11_mirror_176n, e_X11_mirror_177, e_X11_mirror_178, e_X11_mirror_181, e_X11_mirror_183, e_X11_mirror_184, e_X11_mirror_185, e_X11_mirror_186, e_X11_mirror_187, e_X11_mirror_188, e_X11_mirror_191, e_X11_mirror_194, e_X11_mirror_197, e_X11_mirror_200, e_X11_mirror_203, e_X11_mirror_203n, e_X11_mirror_204, e_X11_mirror_205, e_X11_mirror_208, e_X11_mirror_209, e_X11_mirror_209n, e_X11_mirror_210, e_X11_mirror_211, e_X11_mirror_214, e_X11_mirror_217, e_X11_mirror_218, e_X11_mirror_221, e_X11_mirror_222, mNl_i, mNl_r, mNl_n, mNl_l, mNl_0, mRV_s, mRV_n, tl_s, tl_n, cs_0, cs_i, cs_r, cs_n, cs_l, Nat.reduceAdd, Nat.reduceLeDiff, true_and, and_true, eq_self_iff_true, if_true, if_false, Nat.lt_irrefl, s_lit, s_eq, s_le, s_lt, nI_add, pk_mul, s_in, s_cl, bI_n, bI_zn, not_true, not_false_eq_true, true_implies, false_implies, Nat.reduceEqDiff, Nat.reduceMul, Classical.not_not, imp_self, implies_true, tt_z, tg_329, k_getR hp, k_putR hp, w128, eF]
      exact fin
    · have hmM : ¬ PmM f n1 q tk ps := fun z => hm0 ((Pm_eq h6).mpr z)
      simp (disch := omega) only [c_X10_mirror, e_X10_mirror_0, e_X10_mirror_0n, e_X10_mirror_1, e_X10_mirror_2, e_X10_mirror_5, e_X10_mirror_5n, e_X10_mirror_6, e_X10_mirror_6n, e_X10_mirror_7, e_X10_mirror_7n, e_X10_mirror_10, e_X10_mirror_13, e_X10_mirror_14, e_X10_mirror_14n, e_X10_mirror_15, e_X10_mirror_18, e_X10_mirror_21, e_X10_mirror_24, e_X10_mirror_25, e_X10_mirror_25n, e_X10_mirror_26, e_X10_mirror_29, e_X10_mirror_29n, e_X10_mirror_30, e_X10_mirror_33, e_X10_mirror_33n, e_X10_mirror_34, e_X10_mirror_37, e_X10_mirror_40, e_X10_mirror_40n, e_X10_mirror_41, e_X10_mirror_44, e_X10_mirror_45, mNl_i, mNl_r, mNl_n, mNl_l, mNl_0, mRV_s, mRV_n, tl_s, tl_n, cs_0, cs_i, cs_r, cs_n, cs_l, Nat.reduceAdd, Nat.reduceLeDiff, true_and, and_true, eq_self_iff_true, if_true, if_false, Nat.lt_irrefl, s_lit, s_eq, s_le, s_lt, nI_add, pk_mul, s_in, s_cl, bI_n, bI_zn, not_true, not_false_eq_true, true_implies, false_implies, Nat.reduceEqDiff, Nat.reduceMul, Classical.not_not, imp_self, implies_true, tt_z, tg_2, rf_2_0, rf_2_1, rf_2_2, rf_2_3, rf_2_4, rf_2_5, rf_2_6, rf_2_7, rf_2_8, rf_2_9, k_pupA hpa, t1, k_has ha h6, hm0]
      refine ⟨_, rfl, ?_⟩
      simp (disch := omega) only [c_X11_mirror, e_X11_mirror_0, e_X11_mirror_1, e_X11_mirror_4, e_X11_mirror_7, e_X11_mirror_10, e_X11_mirror_11, e_X11_mirror_11n, e_X11_mirror_12, e_X11_mirror_13, e_X11_mirror_16, e_X11_mirror_19, e_X11_mirror_22, e_X11_mirror_23, e_X11_mirror_23n, e_X11_mirror_24, e_X11_mirror_27, e_X11_mirror_27n, e_X11_mirror_28, e_X11_mirror_29, e_X11_mirror_31, e_X11_mirror_34, e_X11_mirror_34n, e_X11_mirror_35, e_X11_mirror_36, e_X11_mirror_38, e_X11_mirror_41, e_X11_mirror_41n, e_X11_mirror_42, e_X11_mirror_43, e_X11_mirror_45, e_X11_mirror_48, e_X11_mirror_49, e_X11_mirror_51, e_X11_mirror_53, e_X11_mirror_56, e_X11_mirror_56n, e_X11_mirror_57, e_X11_mirror_58, e_X11_mirror_60, e_X11_mirror_61, e_X11_mirror_62, e_X11_mirror_63, e_X11_mirror_64, e_X11_mirror_67, e_X11_mirror_67n, e_X11_mirror_68, e_X11_mirror_69, e_X11_mirror_71, e_X11_mirror_72, e_X11_mirror_73, e_X11_mirror_76, e_X11_mirror_76n, e_X11_mirror_77, e_X11_mirror_78, e_X11_mirror_80, e_X11_mirror_81, e_X11_mirror_82, e_X11_mirror_83, e_X11_mirror_84, e_X11_mirror_87, e_X11_mirror_88, e_X11_mirror_88n, e_X11_mirror_89, e_X11_mirror_90, e_X11_mirror_92, e_X11_mirror_93, e_X11_mirror_94, e_X11_mirror_95, e_X11_mirror_96, e_X11_mirror_96n, e_X11_mirror_97, e_X11_mirror_98, e_X11_mirror_100, e_X11_mirror_101, e_X11_mirror_102, e_X11_mirror_103, e_X11_mirror_104, e_X11_mirror_105, e_X11_mirror_106, e_X11_mirror_109, e_X11_mirror_110, e_X11_mirror_113, e_X11_mirror_113n, e_X11_mirror_114, e_X11_mirror_115, e_X11_mirror_117, e_X11_mirror_118, e_X11_mirror_119, e_X11_mirror_120, e_X11_mirror_121, e_X11_mirror_122, e_X11_mirror_123, e_X11_mirror_124, e_X11_mirror_125, e_X11_mirror_128, e_X11_mirror_131, e_X11_mirror_134, e_X11_mirror_135, e_X11_mirror_136, e_X11_mirror_137, e_X11_mirror_139, e_X11_mirror_142, e_X11_mirror_142n, e_X11_mirror_143, e_X11_mirror_144, e_X11_mirror_147, e_X11_mirror_148, e_X11_mirror_149, e_X11_mirror_150, e_X11_mirror_151, e_X11_mirror_154, e_X11_mirror_154n, e_X11_mirror_155, e_X11_mirror_156, e_X11_mirror_159, e_X11_mirror_160, e_X11_mirror_161, e_X11_mirror_162, e_X11_mirror_163, e_X11_mirror_164, e_X11_mirror_165, e_X11_mirror_168, e_X11_mirror_169, e_X11_mirror_170, e_X11_mirror_171, e_X11_mirror_173, e_X11_mirror_176, e_X11_mirror_176n, e_X11_mirror_177, e_X11_mirror_178, e_X11_mirror_181, e_X11_mirror_183, e_X11_mirror_184, e_X11_mirror_185, e_X11_mirror_186, e_X11_mirror_187, e_X11_mirror_188, e_X11_mirror_191, e_X11_mirror_194, e_X11_mirror_197, e_X11_mirror_200, e_X11_mirror_203, e_X11_mirror_203n, e_X11_mirror_204, e_X11_mirror_205, e_X11_mirror_208, e_X11_mirror_209, e_X11_mirror_209n, e_X11_mirror_210, e_X11_mirror_211, e_X11_mirror_214, e_X11_mirror_217, e_X11_mirror_218, e_X11_mirror_221, e_X11_mirror_222, mNl_i, mNl_r, mNl_n, mNl_l, mNl_0, mRV_s, mRV_n, tl_s, tl_n, cs_0, cs_i, cs_r, cs_n, cs_l, Nat.reduceAdd, Nat.reduceLeDiff, true_and, and_true, eq_self_iff_true, if_true, if_false, Nat.lt_irrefl, s_lit, s_eq, s_le, s_lt, nI_add, pk_mul, s_in, s_cl, bI_n, bI_zn, not_true, not_false_eq_true, true_implies, false_implies, Nat.reduceEqDiff, Nat.reduceMul, Classical.not_not, imp_self, implies_true, tt_z, tg_329, k_isPuppet tt_z, hpp, k_may hp hI hn1 hV.2.2.1 hS htk h129 hps h166, hmM]
      exact rAll_same hR (fun _ _ _ => rfl) rfl rfl rfl
  · simp (disch := omega) only [c_X10_mirror, e_X10_mirror_0, e_X10_mirror_0n, e_X10_mirror_1, e_X10_mirror_2, e_X10_mirror_5, e_X10_mirror_5n, e_X10_mirror_6, e_X10_mirror_6n, e_X10_mirror_7, e_X10_mirror_7n, e_X10_mirror_10, e_X10_mirror_13, e_X10_mirror_14, e_X10_mirror_14n, e_X10_mirror_15, e_X10_mirror_18, e_X10_mirror_21, e_X10_mirror_24, e_X10_mirror_25, e_X10_mirror_25n, e_X10_mirror_26, e_X10_mirror_29, e_X10_mirror_29n, e_X10_mirror_30, e_X10_mirror_33, e_X10_mirror_33n, e_X10_mirror_34, e_X10_mirror_37, e_X10_mirror_40, e_X10_mirror_40n, e_X10_mirror_41, e_X10_mirror_44, e_X10_mirror_45, mNl_i, mNl_r, mNl_n, mNl_l, mNl_0, mRV_s, mRV_n, tl_s, tl_n, cs_0, cs_i, cs_r, cs_n, cs_l, Nat.reduceAdd, Nat.reduceLeDiff, true_and, and_true, eq_self_iff_true, if_true, if_false, Nat.lt_irrefl, s_lit, s_eq, s_le, s_lt, nI_add, pk_mul, s_in, s_cl, bI_n, bI_zn, not_true, not_false_eq_true, true_implies, false_implies, Nat.reduceEqDiff, Nat.reduceMul, Classical.not_not, imp_self, implies_true, tt_z, tg_2, rf_2_0, rf_2_1, rf_2_2, rf_2_3, rf_2_4, rf_2_5, rf_2_6, rf_2_7, rf_2_8, rf_2_9, k_puppetOf, pup_n0 hpu, pup_n1 hpu]
    refine ⟨_, rfl, ?_⟩
    simp (disch := omega) only [c_X11_mirror, e_X11_mirror_0, e_X11_mirror_1, e_X11_mirror_4, e_X11_mirror_7, e_X11_mirror_10, e_X11_mirror_11, e_X11_mirror_11n, e_X11_mirror_12, e_X11_mirror_13, e_X11_mirror_16, e_X11_mirror_19, e_X11_mirror_22, e_X11_mirror_23, e_X11_mirror_23n, e_X11_mirror_24, e_X11_mirror_27, e_X11_mirror_27n, e_X11_mirror_28, e_X11_mirror_29, e_X11_mirror_31, e_X11_mirror_34, e_X11_mirror_34n, e_X11_mirror_35, e_X11_mirror_36, e_X11_mirror_38, e_X11_mirror_41, e_X11_mirror_41n, e_X11_mirror_42, e_X11_mirror_43, e_X11_mirror_45, e_X11_mirror_48, e_X11_mirror_49, e_X11_mirror_51, e_X11_mirror_53, e_X11_mirror_56, e_X11_mirror_56n, e_X11_mirror_57, e_X11_mirror_58, e_X11_mirror_60, e_X11_mirror_61, e_X11_mirror_62, e_X11_mirror_63, e_X11_mirror_64, e_X11_mirror_67, e_X11_mirror_67n, e_X11_mirror_68, e_X11_mirror_69, e_X11_mirror_71, e_X11_mirror_72, e_X11_mirror_73, e_X11_mirror_76, e_X11_mirror_76n, e_X11_mirror_77, e_X11_mirror_78, e_X11_mirror_80, e_X11_mirror_81, e_X11_mirror_82, e_X11_mirror_83, e_X11_mirror_84, e_X11_mirror_87, e_X11_mirror_88, e_X11_mirror_88n, e_X11_mirror_89, e_X11_mirror_90, e_X11_mirror_92, e_X11_mirror_93, e_X11_mirror_94, e_X11_mirror_95, e_X11_mirror_96, e_X11_mirror_96n, e_X11_mirror_97, e_X11_mirror_98, e_X11_mirror_100, e_X11_mirror_101, e_X11_mirror_102, e_X11_mirror_103, e_X11_mirror_104, e_X11_mirror_105, e_X11_mirror_106, e_X11_mirror_109, e_X11_mirror_110, e_X11_mirror_113, e_X11_mirror_113n, e_X11_mirror_114, e_X11_mirror_115, e_X11_mirror_117, e_X11_mirror_118, e_X11_mirror_119, e_X11_mirror_120, e_X11_mirror_121, e_X11_mirror_122, e_X11_mirror_123, e_X11_mirror_124, e_X11_mirror_125, e_X11_mirror_128, e_X11_mirror_131, e_X11_mirror_134, e_X11_mirror_135, e_X11_mirror_136, e_X11_mirror_137, e_X11_mirror_139, e_X11_mirror_142, e_X11_mirror_142n, e_X11_mirror_143, e_X11_mirror_144, e_X11_mirror_147, e_X11_mirror_148, e_X11_mirror_149, e_X11_mirror_150, e_X11_mirror_151, e_X11_mirror_154, e_X11_mirror_154n, e_X11_mirror_155, e_X11_mirror_156, e_X11_mirror_159, e_X11_mirror_160, e_X11_mirror_161, e_X11_mirror_162, e_X11_mirror_163, e_X11_mirror_164, e_X11_mirror_165, e_X11_mirror_168, e_X11_mirror_169, e_X11_mirror_170, e_X11_mirror_171, e_X11_mirror_173, e_X11_mirror_176, e_X11_mirror_176n, e_X11_mirror_177, e_X11_mirror_178, e_X11_mirror_181, e_X11_mirror_183, e_X11_mirror_184, e_X11_mirror_185, e_X11_mirror_186, e_X11_mirror_187, e_X11_mirror_188, e_X11_mirror_191, e_X11_mirror_194, e_X11_mirror_197, e_X11_mirror_200, e_X11_mirror_203, e_X11_mirror_203n, e_X11_mirror_204, e_X11_mirror_205, e_X11_mirror_208, e_X11_mirror_209, e_X11_mirror_209n, e_X11_mirror_210, e_X11_mirror_211, e_X11_mirror_214, e_X11_mirror_217, e_X11_mirror_218, e_X11_mirror_221, e_X11_mirror_222, mNl_i, mNl_r, mNl_n, mNl_l, mNl_0, mRV_s, mRV_n, tl_s, tl_n, cs_0, cs_i, cs_r, cs_n, cs_l, Nat.reduceAdd, Nat.reduceLeDiff, true_and, and_true, eq_self_iff_true, if_true, if_false, Nat.lt_irrefl, s_lit, s_eq, s_le, s_lt, nI_add, pk_mul, s_in, s_cl, bI_n, bI_zn, not_true, not_false_eq_true, true_implies, false_implies, Nat.reduceEqDiff, Nat.reduceMul, Classical.not_not, imp_self, implies_true, tt_z, tg_329, k_isPuppet tt_z, hpu, true_or]
    exact rAll_same hR (fun _ _ _ => rfl) rfl rfl rfl
