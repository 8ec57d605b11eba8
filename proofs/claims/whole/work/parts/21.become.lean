/-! ===== rows copied; a puppet becomes another ===== -/
def mRow (I : Nat → Nat → Int32) (x z n : Nat) : Nat → Nat → Int32 := fun y j => if y = z then (if j < n then I x j else I z j) else I y j
theorem mCpI_row (I : Nat → Nat → Int32) (x z n : Nat) : mCpI I x z 0 0 n = mRow I x z n := by
  funext y j
  unfold mCpI mRow
  by_cases h : y = z
  · rw [if_pos h, if_pos h]
    unfold va_cpy
    by_cases h2 : j < n
    · rw [if_pos ⟨Nat.zero_le j, by omega⟩, if_pos h2, Nat.zero_add, Nat.sub_zero]
    · rw [if_neg (by omega), if_neg h2]
  · rw [if_neg h, if_neg h]
theorem ofN_clamp {n : Nat} (h : n < 2 ^ 31) : (Int32.ofNat n).toNatClampNeg = n := nI_clamp h
theorem zero_clamp : (0 : Int32).toNatClampNeg = 0 := rfl
theorem ofN_nn {n : Nat} (h : n < 2 ^ 31) : ¬ Int32.ofNat n < 0 := nI_pos h
theorem i_irr (x : Int32) : ¬ x < x := fun h => Int32.lt_irrefl h
theorem zero_le_two : (0 : Nat) ≤ 2 := by decide
theorem k_copyRow {Q : mQo} {t : mTT} {I : Nat → Nat → Int32} {L : Nat → Nat → Int64} {x z n : Nat} (h1 : mTg t x = 0) (h2 : mLn t x = n) (h3 : mTg t z = 0) (h4 : mLn t z = n) (h5 : 2 ≤ x) (h6 : 2 ≤ z) (hn : n < 2 ^ 31) : C_X10_copyRow [.ref x, .ref z] (t, I, L) Q = Q none (t, mRow I x z n, L) := by
  simp only [c_X10_copyRow, e_X10_copyRow_0, e_X10_copyRow_0n, e_X10_copyRow_1, e_X10_copyRow_2, e_X10_copyRow_2n, e_X10_copyRow_3, e_X10_copyRow_4, e_X10_copyRow_4n, e_X10_copyRow_5, e_X10_copyRow_6, e_X10_copyRow_6n, e_X10_copyRow_7, e_X10_copyRow_8, e_X10_copyRow_11, e_X10_copyRow_14, mNl_i, mNl_r, mNl_n, mNl_l, mNl_0, mRV_s, mRV_n, tl_s, tl_n, cs_0, cs_i, cs_r, cs_n, cs_l, Nat.reduceAdd, Nat.reduceLeDiff, true_and, and_true, eq_self_iff_true, if_true, if_false, h1, h2, h3, h4, h5, h6, zero_le_two, i_irr, ofN_clamp hn, zero_clamp, ofN_nn hn, not_false_iff, Nat.zero_add, Nat.le_refl, mCpI_row]
def bcU (I : Nat → Nat → Int32) (a b : Nat) (P : Nat → Nat → Bool) : Nat → Nat → Int32 := fun x j => if a ≤ x ∧ x < a + 24 ∧ P (x - a) j = true then I (b + (x - a)) j else I x j
def pRow (P : Nat → Nat → Bool) (k n : Nat) : Nat → Nat → Bool := fun off j => P off j || (off == k && decide (j < n))
def pFld (P : Nat → Nat → Bool) (k i : Nat) : Nat → Nat → Bool := fun off j => P off j || (off == k && j == i)
theorem bcU_b {I : Nat → Nat → Int32} {a b k j : Nat} {P : Nat → Nat → Bool} (hd : a + 24 ≤ b ∨ b + 24 ≤ a) (hk : k < 24) : bcU I a b P (b + k) j = I (b + k) j := by
  unfold bcU; rw [if_neg (by omega)]
theorem bcU_row {I : Nat → Nat → Int32} {a b k n : Nat} {P : Nat → Nat → Bool} (hd : a + 24 ≤ b ∨ b + 24 ≤ a) (hk : k < 24) : mRow (bcU I a b P) (b + k) (a + k) n = bcU I a b (pRow P k n) := by
  funext x j
  unfold mRow
  by_cases h : x = a + k
  · subst h
    rw [if_pos rfl, bcU_b hd hk]
    unfold bcU pRow
    have e : a + k - a = k := by omega
    rw [e]
    by_cases h2 : j < n
    · rw [if_pos h2, if_pos ⟨by omega, by omega, by simp [h2]⟩]
    · rw [if_neg h2]
      have : (P k j || (k == k && decide (j < n))) = P k j := by simp [h2]
      rw [this]
  · rw [if_neg h]
    unfold bcU pRow
    by_cases h3 : a ≤ x ∧ x < a + 24
    · have : (x - a == k) = false := by simp; omega
      rw [this, Bool.false_and, Bool.or_false]
    · rw [if_neg (fun z => h3 ⟨z.1, z.2.1⟩), if_neg (fun z => h3 ⟨z.1, z.2.1⟩)]
theorem bcU_fld {I : Nat → Nat → Int32} {a b k i : Nat} {P : Nat → Nat → Bool} (hk : k < 24) : mUI (bcU I a b P) (a + k) i (I (b + k) i) = bcU I a b (pFld P k i) := by
  funext x j
  unfold mUI
  by_cases h : x = a + k
  · subst h
    rw [if_pos rfl]
    unfold bcU pFld
    have e : a + k - a = k := by omega
    rw [e]
    by_cases h2 : j = i
    · subst h2
      rw [if_pos rfl, if_pos ⟨by omega, by omega, by simp⟩]
    · rw [if_neg h2]
      have : (P k j || (k == k && j == i)) = P k j := by simp [h2]
      rw [this]
  · rw [if_neg h]
    unfold bcU pFld
    by_cases h3 : a ≤ x ∧ x < a + 24
    · have : (x - a == k) = false := by simp; omega
      rw [this, Bool.false_and, Bool.or_false]
    · rw [if_neg (fun z => h3 ⟨z.1, z.2.1⟩), if_neg (fun z => h3 ⟨z.1, z.2.1⟩)]
theorem bcU_0 (I : Nat → Nat → Int32) (a b : Nat) : bcU I a b (fun _ _ => false) = I := by
  funext x j; unfold bcU; rw [if_neg (fun z => Bool.noConfusion z.2.2)]
section
variable {Q : mQo} {t : mTT} {I : Nat → Nat → Int32} {L : Nat → Nat → Int64} {a b : Nat} {P : Nat → Nat → Bool}
theorem k_row (ha : sPup t a) (hb : sPup t b) (hd : a + 24 ≤ b ∨ b + 24 ≤ a) (k n : Nat) (hk : k < 24) (h1 : sArr t (a + k) n) (h2 : sArr t (b + k) n) (hn : n < 2 ^ 31) : C_X10_copyRow [.ref (b + k), .ref (a + k)] (t, bcU I a b P, L) Q = Q none (t, bcU I a b (pRow P k n), L) := by
  rw [k_copyRow h2.1 h2.2 h1.1 h1.2 (by have := hb.1; omega) (by have := ha.1; omega) hn, bcU_row hd hk]
theorem k_X5_become (hz : mZr t = t) (ha : sPup t a) (hb : sPup t b) (hd : a + 24 ≤ b ∨ b + 24 ≤ a) : C_X5_become [.ref (a + 1), .ref (b + 1)] (t, bcU I a b P, L) Q = Q none (t, bcU I a b (pFld (pFld (pFld (pRow (pRow (pRow (pRow P 2 6) 3 6) 4 6) 5 6) 1 4) 1 5) 1 6), L) := by
  obtain ⟨-, -, ⟨a1, a2, a3, a4, a5⟩, -, -, -, -, ar2, ar3, ar4, ar5, -⟩ := id ha
  obtain ⟨-, -, ⟨b1, b2, b3, b4, b5⟩, -, -, -, -, br2, br3, br4, br5, -⟩ := id hb
  simp only [c_X5_become, e_X5_become_0, e_X5_become_0n, e_X5_become_1, e_X5_become_4, e_X5_become_4n, e_X5_become_5, e_X5_become_8, e_X5_become_11, e_X5_become_11n, e_X5_become_12, e_X5_become_15, e_X5_become_15n, e_X5_become_16, e_X5_become_19, e_X5_become_22, e_X5_become_22n, e_X5_become_23, e_X5_become_26, e_X5_become_26n, e_X5_become_27, e_X5_become_30, e_X5_become_33, e_X5_become_33n, e_X5_become_34, e_X5_become_37, e_X5_become_37n, e_X5_become_38, e_X5_become_41, e_X5_become_44, e_X5_become_44n, e_X5_become_45, e_X5_become_45n, e_X5_become_46, e_X5_become_49, e_X5_become_52, e_X5_become_52n, e_X5_become_53, e_X5_become_53n, e_X5_become_54, e_X5_become_57, e_X5_become_60, e_X5_become_60n, e_X5_become_61, e_X5_become_61n, e_X5_become_62, e_X5_become_65, e_X5_become_68, mNl_i, mNl_r, mNl_n, mNl_l, mNl_0, mRV_s, mRV_n, tl_s, tl_n, cs_0, cs_i, cs_r, cs_n, cs_l, Nat.reduceAdd, Nat.reduceLeDiff, true_and, and_true, eq_self_iff_true, if_true, if_false, hz, a1, a2, a3, a4, a5, b1, b2, b3, b4, b5, k_row ha hb hd 2 6 (by decide) ar2 br2 (by decide), k_row ha hb hd 3 6 (by decide) ar3 br3 (by decide), k_row ha hb hd 4 6 (by decide) ar4 br4 (by decide), k_row ha hb hd 5 6 (by decide) ar5 br5 (by decide), bcU_b hd (show 1 < 24 by decide), bcU_fld (show 1 < 24 by decide)]
theorem k_X9_become (hz : mZr t = t) (ha : sPup t a) (hb : sPup t b) (hd : a + 24 ≤ b ∨ b + 24 ≤ a) : C_X9_become [.ref (a + 6), .ref (b + 6)] (t, bcU I a b P, L) Q = Q none (t, bcU I a b (pFld (pRow (pRow P 7 6) 8 6) 6 2), L) := by
  obtain ⟨-, -, -, ⟨a1, a2, a3⟩, -, -, -, -, -, -, -, ar7, ar8, -⟩ := id ha
  obtain ⟨-, -, -, ⟨b1, b2, b3⟩, -, -, -, -, -, -, -, br7, br8, -⟩ := id hb
  simp only [c_X9_become, e_X9_become_0, e_X9_become_0n, e_X9_become_1, e_X9_become_4, e_X9_become_4n, e_X9_become_5, e_X9_become_8, e_X9_become_11, e_X9_become_11n, e_X9_become_12, e_X9_become_15, e_X9_become_15n, e_X9_become_16, e_X9_become_19, e_X9_become_22, e_X9_become_22n, e_X9_become_23, e_X9_become_23n, e_X9_become_24, e_X9_become_27, e_X9_become_30, mNl_i, mNl_r, mNl_n, mNl_l, mNl_0, mRV_s, mRV_n, tl_s, tl_n, cs_0, cs_i, cs_r, cs_n, cs_l, Nat.reduceAdd, Nat.reduceLeDiff, true_and, and_true, eq_self_iff_true, if_true, if_false, hz, a1, a2, a3, b1, b2, b3, k_row ha hb hd 7 6 (by decide) ar7 br7 (by decide), k_row ha hb hd 8 6 (by decide) ar8 br8 (by decide), bcU_b hd (show 6 < 24 by decide), bcU_fld (show 6 < 24 by decide)]
theorem k_X0_become (hz : mZr t = t) (ha : sPup t a) (hb : sPup t b) (hd : a + 24 ≤ b ∨ b + 24 ≤ a) : C_X0_become [.ref (a + 9), .ref (b + 9)] (t, bcU I a b P, L) Q = Q none (t, bcU I a b (pFld (pFld (pFld (pRow (pRow P 10 6) 11 6) 9 2) 9 3) 9 4), L) := by
  obtain ⟨-, -, -, -, ⟨a1, a2, a3⟩, -, -, -, -, -, -, -, -, ar10, ar11, -⟩ := id ha
  obtain ⟨-, -, -, -, ⟨b1, b2, b3⟩, -, -, -, -, -, -, -, -, br10, br11, -⟩ := id hb
  simp only [c_X0_become, e_X0_become_0, e_X0_become_0n, e_X0_become_1, e_X0_become_4, e_X0_become_4n, e_X0_become_5, e_X0_become_8, e_X0_become_11, e_X0_become_11n, e_X0_become_12, e_X0_become_15, e_X0_become_15n, e_X0_become_16, e_X0_become_19, e_X0_become_22, e_X0_become_22n, e_X0_become_23, e_X0_become_23n, e_X0_become_24, e_X0_become_27, e_X0_become_27n, e_X0_become_28, e_X0_become_31, e_X0_become_31n, e_X0_become_32, e_X0_become_35, e_X0_become_38, c_X0_put, e_X0_put_0, e_X0_put_0n, e_X0_put_1, e_X0_put_2, e_X0_put_5, e_X0_put_5n, e_X0_put_6, e_X0_put_7, e_X0_put_10, e_X0_put_10n, e_X0_put_11, e_X0_put_12, e_X0_put_15, mNl_i, mNl_r, mNl_n, mNl_l, mNl_0, mRV_s, mRV_n, tl_s, tl_n, cs_0, cs_i, cs_r, cs_n, cs_l, Nat.reduceAdd, Nat.reduceLeDiff, true_and, and_true, eq_self_iff_true, if_true, if_false, hz, a1, a2, a3, b1, b2, b3, k_row ha hb hd 10 6 (by decide) ar10 br10 (by decide), k_row ha hb hd 11 6 (by decide) ar11 br11 (by decide), bcU_b hd (show 9 < 24 by decide), bcU_fld (show 9 < 24 by decide)]
theorem k_X4_become (hz : mZr t = t) (ha : sPup t a) (hb : sPup t b) (hd : a + 24 ≤ b ∨ b + 24 ≤ a) : C_X4_become [.ref (a + 12), .ref (b + 12)] (t, bcU I a b P, L) Q = Q none (t, bcU I a b (pFld (pRow (pRow (pRow (pRow (pRow (pRow P 13 12) 14 12) 15 12) 16 12) 17 12) 18 12) 12 6), L) := by
  obtain ⟨-, -, -, -, -, ⟨a1, a2, a3, a4, a5, a6, a7⟩, -, -, -, -, -, -, -, -, -, ar13, ar14, ar15, ar16, ar17, ar18, -⟩ := id ha
  obtain ⟨-, -, -, -, -, ⟨b1, b2, b3, b4, b5, b6, b7⟩, -, -, -, -, -, -, -, -, -, br13, br14, br15, br16, br17, br18, -⟩ := id hb
  simp only [c_X4_become, e_X4_become_0, e_X4_become_0n, e_X4_become_1, e_X4_become_4, e_X4_become_4n, e_X4_become_5, e_X4_become_8, e_X4_become_11, e_X4_become_11n, e_X4_become_12, e_X4_become_15, e_X4_become_15n, e_X4_become_16, e_X4_become_19, e_X4_become_22, e_X4_become_22n, e_X4_become_23, e_X4_become_26, e_X4_become_26n, e_X4_become_27, e_X4_become_30, e_X4_become_33, e_X4_become_33n, e_X4_become_34, e_X4_become_37, e_X4_become_37n, e_X4_become_38, e_X4_become_41, e_X4_become_44, e_X4_become_44n, e_X4_become_45, e_X4_become_48, e_X4_become_48n, e_X4_become_49, e_X4_become_52, e_X4_become_55, e_X4_become_55n, e_X4_become_56, e_X4_become_59, e_X4_become_59n, e_X4_become_60, e_X4_become_63, e_X4_become_66, e_X4_become_66n, e_X4_become_67, e_X4_become_67n, e_X4_become_68, e_X4_become_71, e_X4_become_74, mNl_i, mNl_r, mNl_n, mNl_l, mNl_0, mRV_s, mRV_n, tl_s, tl_n, cs_0, cs_i, cs_r, cs_n, cs_l, Nat.reduceAdd, Nat.reduceLeDiff, true_and, and_true, eq_self_iff_true, if_true, if_false, hz, a1, a2, a3, a4, a5, a6, a7, b1, b2, b3, b4, b5, b6, b7, k_row ha hb hd 13 12 (by decide) ar13 br13 (by decide), k_row ha hb hd 14 12 (by decide) ar14 br14 (by decide), k_row ha hb hd 15 12 (by decide) ar15 br15 (by decide), k_row ha hb hd 16 12 (by decide) ar16 br16 (by decide), k_row ha hb hd 17 12 (by decide) ar17 br17 (by decide), k_row ha hb hd 18 12 (by decide) ar18 br18 (by decide), bcU_b hd (show 12 < 24 by decide), bcU_fld (show 12 < 24 by decide)]
theorem k_X2_become (hz : mZr t = t) (ha : sPup t a) (hb : sPup t b) (hd : a + 24 ≤ b ∨ b + 24 ≤ a) : C_X2_become [.ref (a + 19), .ref (b + 19)] (t, bcU I a b P, L) Q = Q none (t, bcU I a b (pFld (pFld (pRow (pRow (pRow (pRow P 20 12) 21 12) 22 12) 23 72) 19 4) 19 5), L) := by
  obtain ⟨-, -, -, -, -, -, ⟨a1, a2, a3, a4, a5⟩, -, -, -, -, -, -, -, -, -, -, -, -, -, -, ar20, ar21, ar22, ar23⟩ := id ha
  obtain ⟨-, -, -, -, -, -, ⟨b1, b2, b3, b4, b5⟩, -, -, -, -, -, -, -, -, -, -, -, -, -, -, br20, br21, br22, br23⟩ := id hb
  simp only [c_X2_become, e_X2_become_0, e_X2_become_0n, e_X2_become_1, e_X2_become_4, e_X2_become_4n, e_X2_become_5, e_X2_become_8, e_X2_become_11, e_X2_become_11n, e_X2_become_12, e_X2_become_15, e_X2_become_15n, e_X2_become_16, e_X2_become_19, e_X2_become_22, e_X2_become_22n, e_X2_become_23, e_X2_become_26, e_X2_become_26n, e_X2_become_27, e_X2_become_30, e_X2_become_33, e_X2_become_33n, e_X2_become_34, e_X2_become_37, e_X2_become_37n, e_X2_become_38, e_X2_become_41, e_X2_become_44, e_X2_become_44n, e_X2_become_45, e_X2_become_45n, e_X2_become_46, e_X2_become_49, e_X2_become_52, e_X2_become_52n, e_X2_become_53, e_X2_become_53n, e_X2_become_54, e_X2_become_57, e_X2_become_60, mNl_i, mNl_r, mNl_n, mNl_l, mNl_0, mRV_s, mRV_n, tl_s, tl_n, cs_0, cs_i, cs_r, cs_n, cs_l, Nat.reduceAdd, Nat.reduceLeDiff, true_and, and_true, eq_self_iff_true, if_true, if_false, hz, a1, a2, a3, a4, a5, b1, b2, b3, b4, b5, k_row ha hb hd 20 12 (by decide) ar20 br20 (by decide), k_row ha hb hd 21 12 (by decide) ar21 br21 (by decide), k_row ha hb hd 22 12 (by decide) ar22 br22 (by decide), k_row ha hb hd 23 72 (by decide) ar23 br23 (by decide), bcU_b hd (show 19 < 24 by decide), bcU_fld (show 19 < 24 by decide)]
/-- what of a puppet's cells is its state -/
def pAll : Nat → Nat → Bool := pFld (pFld (pFld (pRow (pRow (pRow (pRow (pFld (pRow (pRow (pRow (pRow (pRow (pRow (pFld (pFld (pFld (pRow (pRow (pFld (pRow (pRow (pFld (pFld (pFld (pRow (pRow (pRow (pRow (fun _ _ => false) 2 6) 3 6) 4 6) 5 6) 1 4) 1 5) 1 6) 7 6) 8 6) 6 2) 10 6) 11 6) 9 2) 9 3) 9 4) 13 12) 14 12) 15 12) 16 12) 17 12) 18 12) 12 6) 20 12) 21 12) 22 12) 23 72) 19 4) 19 5) 0 5
theorem k_X7_become (hz : mZr t = t) (ha : sPup t a) (hb : sPup t b) (hd : a + 24 ≤ b ∨ b + 24 ≤ a) : C_X7_become [.ref a, .ref b] (t, I, L) Q = Q none (t, bcU I a b pAll, L) := by
  obtain ⟨-, ⟨a1, a2, a3, a4, a5, a6⟩, ⟨c1, -⟩, ⟨c2, -⟩, ⟨c3, -⟩, ⟨c4, -⟩, ⟨c5, -⟩, -⟩ := id ha
  obtain ⟨-, ⟨b1, b2, b3, b4, b5, b6⟩, -⟩ := id hb
  have f0 : ∀ P, mUI (bcU I a b P) a 5 (I b 5) = bcU I a b (pFld P 0 5) := fun P => bcU_fld (k := 0) (by decide)
  have g0 : ∀ P, bcU I a b P b 5 = I b 5 := fun P => bcU_b (k := 0) hd (by decide)
  conv => lhs; rw [← bcU_0 I a b]
  simp only [c_X7_become, e_X7_become_0, e_X7_become_0n, e_X7_become_1, e_X7_become_4, e_X7_become_4n, e_X7_become_5, e_X7_become_8, e_X7_become_11, e_X7_become_11n, e_X7_become_12, e_X7_become_15, e_X7_become_15n, e_X7_become_16, e_X7_become_19, e_X7_become_22, e_X7_become_22n, e_X7_become_23, e_X7_become_26, e_X7_become_26n, e_X7_become_27, e_X7_become_30, e_X7_become_33, e_X7_become_33n, e_X7_become_34, e_X7_become_37, e_X7_become_37n, e_X7_become_38, e_X7_become_41, e_X7_become_44, e_X7_become_44n, e_X7_become_45, e_X7_become_48, e_X7_become_48n, e_X7_become_49, e_X7_become_52, e_X7_become_55, e_X7_become_55n, e_X7_become_56, e_X7_become_56n, e_X7_become_57, e_X7_become_60, e_X7_become_63, mNl_i, mNl_r, mNl_n, mNl_l, mNl_0, mRV_s, mRV_n, tl_s, tl_n, cs_0, cs_i, cs_r, cs_n, cs_l, Nat.reduceAdd, Nat.reduceLeDiff, true_and, and_true, eq_self_iff_true, if_true, if_false, hz, a1, a2, a3, a4, a5, a6, b1, b2, b3, b4, b5, b6, c1, c2, c3, c4, c5, k_X5_become hz ha hb hd, k_X9_become hz ha hb hd, k_X0_become hz ha hb hd, k_X4_become hz ha hb hd, k_X2_become hz ha hb hd, f0, g0]
  rfl
end
