/-! ===== limbs and holds that there are; spans ===== -/
def lmb (k : Int32) (n : Nat) : Prop := ∃ j, j < n ∧ k = nI j
theorem lmb_iff {k : Int32} {n : Nat} (hn : n < 2147483648) : lmb k n ↔ ¬ k < 0 ∧ ¬ nI n ≤ k := by
  constructor
  · rintro ⟨j, hj, rfl⟩
    refine ⟨nI_pos (by omega), ?_⟩
    rw [s_le (by omega) (by omega)]; omega
  · rintro ⟨h1, h2⟩
    obtain ⟨j, hj, rfl⟩ := nI_of h1
    rw [s_le (by omega) (by omega)] at h2
    exact ⟨j, by omega, rfl⟩
theorem lmb_split {k : Int32} {n : Nat} {X : Int32 → Prop} (hn : n < 2147483648) : ((k < 0 → X 0) ∧ (¬ k < 0 → (nI n ≤ k → X 0) ∧ (¬ nI n ≤ k → X 1))) = X (bI (lmb k n)) := by
  by_cases h1 : k < 0
  · rw [bI_f (fun z => ((lmb_iff hn).mp z).1 h1)]; simp [h1]
  · by_cases h2 : nI n ≤ k
    · rw [bI_f (fun z => ((lmb_iff hn).mp z).2 h2)]; simp [h1, h2]
    · rw [bI_t ((lmb_iff hn).mpr ⟨h1, h2⟩)]; simp [h1, h2]
section
variable {Q : mQo} {t : mTT} {n : Nat} {I : Nat → Nat → Int32} {L : Nat → Nat → Int64}
theorem k_hasL {o : Nat} {k : Int32} {c : Nat} (h0 : mTg t o = 8) (hc : I o 4 = nI c) (hn : c < 2147483648) : C_X5_has [.ref o, .int k] (t, I, L) Q = Q (some (.int (bI (lmb k c)))) (t, I, L) := by
  simp only [c_X5_has, e_X5_has_0, e_X5_has_1, e_X5_has_4, e_X5_has_5, e_X5_has_5n, e_X5_has_6, e_X5_has_9, e_X5_has_12, e_X5_has_13, e_X5_has_16, e_X5_has_17, mNl_i, mNl_r, mNl_n, mNl_l, mNl_0, mRV_s, mRV_n, tl_s, tl_n, cs_0, cs_i, cs_r, cs_n, cs_l, Nat.reduceAdd, Nat.reduceLeDiff, true_and, and_true, eq_self_iff_true, if_true, if_false, h0, hc]
  refine Eq.trans ?_ (lmb_split (X := fun r => Q (some (.int r)) (t, I, L)) hn)
  simp
theorem k_hasH {o : Nat} {k : Int32} {c : Nat} (h0 : mTg t o = 7) (hc : I o 6 = nI c) (hn : c < 2147483648) : C_X4_has [.ref o, .int k] (t, I, L) Q = Q (some (.int (bI (lmb k c)))) (t, I, L) := by
  simp only [c_X4_has, e_X4_has_0, e_X4_has_1, e_X4_has_4, e_X4_has_5, e_X4_has_5n, e_X4_has_6, e_X4_has_9, e_X4_has_12, e_X4_has_13, e_X4_has_16, e_X4_has_17, mNl_i, mNl_r, mNl_n, mNl_l, mNl_0, mRV_s, mRV_n, tl_s, tl_n, cs_0, cs_i, cs_r, cs_n, cs_l, Nat.reduceAdd, Nat.reduceLeDiff, true_and, and_true, eq_self_iff_true, if_true, if_false, h0, hc]
  refine Eq.trans ?_ (lmb_split (X := fun r => Q (some (.int r)) (t, I, L)) hn)
  simp
theorem wi_lmb {k : Int32} {c : Nat} (hc : c < 2147483648) : wi (nI 0) k (nI c - nI 1) = lmb k c := by
  rcases Nat.eq_zero_or_pos c with rfl | h
  · refine propext ⟨fun z => ?_, fun z => ?_⟩
    · exact absurd (Int32.le_trans z.1 z.2) (by decide)
    · obtain ⟨j, hj, -⟩ := z; omega
  · rw [s_sub (by omega)]
    refine propext ⟨fun z => ?_, fun z => ?_⟩
    · obtain ⟨j, hj, rfl⟩ := wi_nat (by omega) z; exact ⟨j, by omega, rfl⟩
    · obtain ⟨j, hj, rfl⟩ := z
      exact ⟨by rw [s_le (by omega) (by omega)]; omega, by rw [s_le (by omega) (by omega)]; omega⟩
theorem k_isLimb {p c : Nat} {k : Int32} (hp : p < 2) (hc : I 330 (239 * p + 0) = nI c) (hn : c < 2147483648) : C_X11_isLimb [.ref 329, .int (nI p), .int k] (tt n, I, L) Q = Q (some (.int (bI (lmb k c)))) (tt n, I, L) := by
  have hpp : pup (nI p) := by
    rcases (show p = 0 ∨ p = 1 by omega) with rfl | rfl
    · exact pup_0
    · exact pup_1
  simp (disch := omega) only [c_X11_isLimb, e_X11_isLimb_0, e_X11_isLimb_1, e_X11_isLimb_4, e_X11_isLimb_7, e_X11_isLimb_8, e_X11_isLimb_9, e_X11_isLimb_9n, e_X11_isLimb_10, e_X11_isLimb_11, e_X11_isLimb_12, e_X11_isLimb_15, e_X11_isLimb_16, e_X11_isLimb_17, e_X11_isLimb_20, e_X11_isLimb_23, e_X11_isLimb_24, e_X11_isLimb_27, e_X11_isLimb_28, mNl_i, mNl_r, mNl_n, mNl_l, mNl_0, mRV_s, mRV_n, tl_s, tl_n, cs_0, cs_i, cs_r, cs_n, cs_l, Nat.reduceAdd, Nat.reduceLeDiff, true_and, and_true, eq_self_iff_true, if_true, if_false, tt_z, tg_329, k_isPuppet tt_z, hpp, s_lit, bI_n, not_true, false_implies, not_false_eq_true, true_implies, k_get, hc, k_isIn, wi_lmb hn]
  by_cases h : lmb k c
  · rw [bI_t h]; simp [h]; exact Iff.rfl
  · rw [bI_f h]; simp [h]; exact Iff.rfl
theorem k_isHold {p c : Nat} {k : Int32} (hp : p < 2) (hc : I 330 (239 * p + 55) = nI c) (hn : c < 2147483648) : C_X11_isHold [.ref 329, .int (nI p), .int k] (tt n, I, L) Q = Q (some (.int (bI (lmb k c)))) (tt n, I, L) := by
  have hpp : pup (nI p) := by
    rcases (show p = 0 ∨ p = 1 by omega) with rfl | rfl
    · exact pup_0
    · exact pup_1
  simp (disch := omega) only [c_X11_isHold, e_X11_isHold_0, e_X11_isHold_1, e_X11_isHold_4, e_X11_isHold_7, e_X11_isHold_8, e_X11_isHold_9, e_X11_isHold_9n, e_X11_isHold_10, e_X11_isHold_11, e_X11_isHold_13, e_X11_isHold_16, e_X11_isHold_17, e_X11_isHold_18, e_X11_isHold_21, e_X11_isHold_24, e_X11_isHold_25, e_X11_isHold_28, e_X11_isHold_29, mNl_i, mNl_r, mNl_n, mNl_l, mNl_0, mRV_s, mRV_n, tl_s, tl_n, cs_0, cs_i, cs_r, cs_n, cs_l, Nat.reduceAdd, Nat.reduceLeDiff, true_and, and_true, eq_self_iff_true, if_true, if_false, tt_z, tg_329, k_isPuppet tt_z, hpp, s_lit, bI_n, not_true, false_implies, not_false_eq_true, true_implies, k_get, hc, k_isIn, wi_lmb hn]
  by_cases h : lmb k c
  · rw [bI_t h]; simp [h]; exact Iff.rfl
  · rw [bI_f h]; simp [h]; exact Iff.rfl
/-- the least and greatest bend of limb j, of q pairs -/
def spL (f : Nat → Int32) (q j : Nat) : Int32 := if j < q then f (28 + 2 * j) else -32
def spG (f : Nat → Int32) (q j : Nat) : Int32 := if j < q then f (29 + 2 * j) else 31
theorem pairs_le {f : Nat → Int32} {q j : Nat} (h : f 27 = -1 ∧ q = 0 ∨ f 27 = nI q ∧ q ≤ 6) (hj : j < 2147483648) : (f 27 ≤ nI j) = ¬ j < q := by
  rcases h with ⟨h, rfl⟩ | ⟨h, hq⟩
  · rw [h]
    refine eq_true ?_ |>.trans (eq_true (by omega)).symm
    exact Int32.le_trans (show (-1 : Int32) ≤ nI 0 by decide) (nI_le (Nat.zero_le j) hj)
  · rw [h, s_le (by omega) hj]
    exact propext (by omega)
theorem k_hasS {a q j : Nat} {f : Nat → Int32} (ha : sPup t a) (hS : rSpa (blk I a) f q) (hj : j < 6) : C_X9_has [.ref (a + 6), .int (nI j)] (t, I, L) Q = Q (some (.int (bI (j < q)))) (t, I, L) := by
  have e : I (a + 6) 2 = f 27 := hS.1
  have h0 : ¬ nI j < nI 0 := by rw [s_lt (by omega) (by omega)]; omega
  simp only [c_X9_has, e_X9_has_0, e_X9_has_1, e_X9_has_4, e_X9_has_5, e_X9_has_5n, e_X9_has_6, e_X9_has_9, e_X9_has_12, e_X9_has_13, e_X9_has_16, e_X9_has_17, mNl_i, mNl_r, mNl_n, mNl_l, mNl_0, mRV_s, mRV_n, tl_s, tl_n, cs_0, cs_i, cs_r, cs_n, cs_l, Nat.reduceAdd, Nat.reduceLeDiff, true_and, and_true, eq_self_iff_true, if_true, if_false, ha.2.2.2.1.1, e, pairs_le hS.2.1 (show j < 2147483648 by omega), s_lit, h0, not_false_eq_true, false_implies, true_implies]
  by_cases h : j < q
  · rw [bI_t h]; simp [h, nI]
  · rw [bI_f h]; simp [h, nI]
theorem k_leastOf {a q j : Nat} {f : Nat → Int32} (hz : mZr t = t) (ha : sPup t a) (hS : rSpa (blk I a) f q) (hj : j < 6) : C_X9_leastOf [.ref (a + 6), .int (nI j)] (t, I, L) Q = Q (some (.int (spL f q j))) (t, I, L) := by
  obtain ⟨-, -, -, ⟨a1, a2, a3⟩, -, -, -, -, -, -, -, ⟨r1, r2⟩, -⟩ := id ha
  simp (disch := omega) only [c_X9_leastOf, e_X9_leastOf_0, e_X9_leastOf_0n, e_X9_leastOf_1, e_X9_leastOf_2, e_X9_leastOf_5, e_X9_leastOf_8, e_X9_leastOf_8n, e_X9_leastOf_9, e_X9_leastOf_12, e_X9_leastOf_13, e_X9_leastOf_14, e_X9_leastOf_17, e_X9_leastOf_19, mNl_i, mNl_r, mNl_n, mNl_l, mNl_0, mRV_s, mRV_n, tl_s, tl_n, cs_0, cs_i, cs_r, cs_n, cs_l, Nat.reduceAdd, Nat.reduceLeDiff, true_and, and_true, eq_self_iff_true, if_true, if_false, hz, a1, a2, a3, r1, r2, k_hasS ha hS hj, bI_0, s_in, s_cl, hj]
  unfold spL
  by_cases h : j < q
  · have e : I (a + 7) j = f (28 + 2 * j) := (hS.2.2 j h).1
    simp [h, e]
  · simp [h]
theorem k_greatestOf {a q j : Nat} {f : Nat → Int32} (hz : mZr t = t) (ha : sPup t a) (hS : rSpa (blk I a) f q) (hj : j < 6) : C_X9_greatestOf [.ref (a + 6), .int (nI j)] (t, I, L) Q = Q (some (.int (spG f q j))) (t, I, L) := by
  obtain ⟨-, -, -, ⟨a1, a2, a3⟩, -, -, -, -, -, -, -, -, ⟨r1, r2⟩, -⟩ := id ha
  simp (disch := omega) only [c_X9_greatestOf, e_X9_greatestOf_0, e_X9_greatestOf_0n, e_X9_greatestOf_1, e_X9_greatestOf_2, e_X9_greatestOf_5, e_X9_greatestOf_8, e_X9_greatestOf_8n, e_X9_greatestOf_9, e_X9_greatestOf_12, e_X9_greatestOf_13, e_X9_greatestOf_14, e_X9_greatestOf_17, e_X9_greatestOf_19, mNl_i, mNl_r, mNl_n, mNl_l, mNl_0, mRV_s, mRV_n, tl_s, tl_n, cs_0, cs_i, cs_r, cs_n, cs_l, Nat.reduceAdd, Nat.reduceLeDiff, true_and, and_true, eq_self_iff_true, if_true, if_false, hz, a1, a2, a3, r1, r2, k_hasS ha hS hj, bI_0, s_in, s_cl, hj]
  unfold spG
  by_cases h : j < q
  · have e : I (a + 8) j = f (29 + 2 * j) := (hS.2.2 j h).2.1
    simp [h, e]
  · simp [h]
theorem k_allow {a q j : Nat} {f : Nat → Int32} {b : Int32} (hz : mZr t = t) (ha : sPup t a) (hS : rSpa (blk I a) f q) (hj : j < 6) : C_X9_allow [.ref (a + 6), .int (nI j), .int b] (t, I, L) Q = Q (some (.int (bI (wi (spL f q j) b (spG f q j))))) (t, I, L) := by
  simp only [c_X9_allow, e_X9_allow_0, e_X9_allow_1, e_X9_allow_1n, e_X9_allow_2, e_X9_allow_3, e_X9_allow_6, e_X9_allow_9, e_X9_allow_10, e_X9_allow_10n, e_X9_allow_11, e_X9_allow_12, e_X9_allow_15, e_X9_allow_18, e_X9_allow_19, e_X9_allow_22, e_X9_allow_23, mNl_i, mNl_r, mNl_n, mNl_l, mNl_0, mRV_s, mRV_n, tl_s, tl_n, cs_0, cs_i, cs_r, cs_n, cs_l, Nat.reduceAdd, Nat.reduceLeDiff, true_and, and_true, eq_self_iff_true, if_true, if_false, hz, ha.2.2.2.1.1, k_leastOf hz ha hS hj, k_greatestOf hz ha hS hj]
  refine Eq.trans ?_ (wi_split (A := Q (some (.int 0)) (t, I, L)) (B := Q (some (.int 1)) (t, I, L)) (X := fun r => Q (some (.int r)) (t, I, L)) rfl rfl)
  simp
theorem k_least {p q j : Nat} (hp : p < 2) (h2 : row I 330 (239 * p) 27 = -1 ∧ q = 0 ∨ row I 330 (239 * p) 27 = nI q ∧ q ≤ 6) (hj : j < 6) : C_X11_least [.ref 329, .int (nI p), .int (nI j)] (tt n, I, L) Q = Q (some (.int (spL (row I 330 (239 * p)) q j))) (tt n, I, L) := by
  have e : (I 330 (239 * p + 27) ≤ nI j) = ¬ j < q := pairs_le (f := row I 330 (239 * p)) h2 (by omega)
  have hq : q ≤ 6 := by rcases h2 with ⟨-, z⟩ | ⟨-, z⟩ <;> omega
  simp (disch := omega) only [c_X11_least, e_X11_least_0, e_X11_least_1, e_X11_least_1n, e_X11_least_2, e_X11_least_3, e_X11_least_5, e_X11_least_8, e_X11_least_11, e_X11_least_11n, e_X11_least_12, e_X11_least_13, e_X11_least_15, e_X11_least_16, e_X11_least_17, e_X11_least_18, e_X11_least_19, e_X11_least_22, e_X11_least_25, e_X11_least_27, mNl_i, mNl_r, mNl_n, mNl_l, mNl_0, mRV_s, mRV_n, tl_s, tl_n, cs_0, cs_i, cs_r, cs_n, cs_l, Nat.reduceAdd, Nat.reduceLeDiff, true_and, and_true, eq_self_iff_true, if_true, if_false, tt_z, tg_329, s_lit, k_get, e, pk_mul, nI_add]
  unfold spL
  by_cases h : j < q
  · simp [h, row]
  · simp [h, nI]
theorem k_greatest {p q j : Nat} (hp : p < 2) (h2 : row I 330 (239 * p) 27 = -1 ∧ q = 0 ∨ row I 330 (239 * p) 27 = nI q ∧ q ≤ 6) (hj : j < 6) : C_X11_greatest [.ref 329, .int (nI p), .int (nI j)] (tt n, I, L) Q = Q (some (.int (spG (row I 330 (239 * p)) q j))) (tt n, I, L) := by
  have e : (I 330 (239 * p + 27) ≤ nI j) = ¬ j < q := pairs_le (f := row I 330 (239 * p)) h2 (by omega)
  have hq : q ≤ 6 := by rcases h2 with ⟨-, z⟩ | ⟨-, z⟩ <;> omega
  simp (disch := omega) only [c_X11_greatest, e_X11_greatest_0, e_X11_greatest_1, e_X11_greatest_1n, e_X11_greatest_2, e_X11_greatest_3, e_X11_greatest_5, e_X11_greatest_8, e_X11_greatest_11, e_X11_greatest_11n, e_X11_greatest_12, e_X11_greatest_13, e_X11_greatest_15, e_X11_greatest_16, e_X11_greatest_17, e_X11_greatest_18, e_X11_greatest_19, e_X11_greatest_20, e_X11_greatest_21, e_X11_greatest_24, e_X11_greatest_27, e_X11_greatest_29, mNl_i, mNl_r, mNl_n, mNl_l, mNl_0, mRV_s, mRV_n, tl_s, tl_n, cs_0, cs_i, cs_r, cs_n, cs_l, Nat.reduceAdd, Nat.reduceLeDiff, true_and, and_true, eq_self_iff_true, if_true, if_false, tt_z, tg_329, s_lit, k_get, e, pk_mul, nI_add]
  unfold spG
  by_cases h : j < q
  · simp [h, row, show 28 + 2 * j + 1 = 29 + 2 * j by omega]
  · simp [h, nI]
theorem k_mayBend {p q j : Nat} {b : Int32} (hp : p < 2) (h2 : row I 330 (239 * p) 27 = -1 ∧ q = 0 ∨ row I 330 (239 * p) 27 = nI q ∧ q ≤ 6) (hj : j < 6) : C_X11_mayBend [.ref 329, .int (nI p), .int (nI j), .int b] (tt n, I, L) Q = Q (some (.int (bI (wi (spL (row I 330 (239 * p)) q j) b (spG (row I 330 (239 * p)) q j))))) (tt n, I, L) := by
  simp only [c_X11_mayBend, e_X11_mayBend_0, e_X11_mayBend_1, e_X11_mayBend_1n, e_X11_mayBend_2, e_X11_mayBend_3, e_X11_mayBend_4, e_X11_mayBend_7, e_X11_mayBend_7n, e_X11_mayBend_8, e_X11_mayBend_9, e_X11_mayBend_10, e_X11_mayBend_13, e_X11_mayBend_16, mNl_i, mNl_r, mNl_n, mNl_l, mNl_0, mRV_s, mRV_n, tl_s, tl_n, cs_0, cs_i, cs_r, cs_n, cs_l, Nat.reduceAdd, Nat.reduceLeDiff, true_and, and_true, eq_self_iff_true, if_true, if_false, tt_z, tg_329, k_least hp h2 hj, k_greatest hp h2 hj, k_isIn, bI_z]
end
