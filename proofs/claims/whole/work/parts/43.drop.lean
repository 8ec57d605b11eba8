/-- drop: promise 11 -/
def gp (I : Nat → Nat → Int32) (o i m : Nat) : Nat → Nat → Int32 := fun y k => if y = o ∧ i ≤ k ∧ k + 1 < m then I o (k + 1) else I y k
theorem gp_ne {I : Nat → Nat → Int32} {o i m y k : Nat} (h : y ≠ o) : gp I o i m y k = I y k := by unfold gp; rw [if_neg (fun z => h z.1)]
theorem gp_at {I : Nat → Nat → Int32} {o i m k : Nat} : gp I o i m o k = if i ≤ k ∧ k + 1 < m then I o (k + 1) else I o k := by
  unfold gp
  by_cases h : i ≤ k ∧ k + 1 < m
  · rw [if_pos ⟨rfl, h⟩, if_pos h]
  · rw [if_neg (fun z => h z.2), if_neg h]
def rmC (I : Nat → Nat → Int32) (a h m : Nat) : Nat → Nat → Int32 := fun y k => if y = a + 12 ∧ k = 6 then nI (m - 1) else if (a + 13 ≤ y ∧ y ≤ a + 18) ∧ h ≤ k ∧ k + 1 < m then I y (k + 1) else I y k
def dM (I : Nat → Nat → Int32) (b i : Nat) : Nat → Nat → Int32 := fun y k => if y = 330 ∧ b + i ≤ k ∧ k < b + 122 then I 330 (k + 6) else I y k
def dpM (I : Nat → Nat → Int32) (b h m : Nat) : Nat → Nat → Int32 := fun y k => if y = 330 ∧ k = b + 55 then nI (m - 1) else if y = 330 ∧ b + (56 + 6 * h) ≤ k ∧ k < b + 122 then I 330 (k + 6) else I y k
section
variable {Q : mQo} {n : Nat} {L : Nat → Nat → Int64}
theorem l_gap {t : mTT} {a o m : Nat} {x : Int32} (hz : mZr t = t) (h1 : mTg t (a + 12) = 7) (h2 : mTg t o = 0) (h3 : mLn t o = 12) (ho : 2 ≤ o) (hne : o ≠ a + 12) (hm : m ≤ 12) : ∀ (d i : Nat) (I : Nat → Nat → Int32), I (a + 12) 6 = nI m → i + 1 + d = m → mWP tb_X4_closeGap Q 2 [some (.ref (a + 12)), some (.ref o), some (.int x), some (.int (nI i))] [] (t, I, L) = Q none (t, gp I o i m, L) := by
  intro d
  induction d with
  | zero =>
    intro i I hI hi
    have e : gp I o i m = I := by funext y k; unfold gp; rw [if_neg (by omega)]
    rw [e]
    simp (disch := omega) only [e_X4_closeGap_0, e_X4_closeGap_1, e_X4_closeGap_2, e_X4_closeGap_3, e_X4_closeGap_4, e_X4_closeGap_5, e_X4_closeGap_5n, e_X4_closeGap_6, e_X4_closeGap_9, e_X4_closeGap_12, e_X4_closeGap_12n, e_X4_closeGap_13, e_X4_closeGap_14, e_X4_closeGap_14n, e_X4_closeGap_15, e_X4_closeGap_16, e_X4_closeGap_17, e_X4_closeGap_18, e_X4_closeGap_19, e_X4_closeGap_23, e_X4_closeGap_26, mNl_i, mNl_r, mNl_n, mNl_l, mNl_0, mRV_s, mRV_n, tl_s, tl_n, cs_0, cs_i, cs_r, cs_n, cs_l, Nat.reduceAdd, Nat.reduceLeDiff, true_and, and_true, eq_self_iff_true, if_true, if_false, Nat.lt_irrefl, s_lit, s_eq, s_le, s_lt, nI_add, pk_mul, s_in, s_cl, bI_n, bI_zn, not_true, not_false_eq_true, true_implies, false_implies, Nat.reduceEqDiff, Nat.reduceMul, Classical.not_not, imp_self, implies_true, hz, h1, h2, h3, hI, show (m ≤ i + 1) = True from eq_true (by omega)]
  | succ d ih =>
    intro i I hI hi
    have e : gp (mUI I o i (I o (i + 1))) o (i + 1) m = gp I o i m := by
      funext y k
      by_cases hy : y = o
      · subst hy
        rw [gp_at, gp_at]
        by_cases h : k = i
        · subst h
          rw [if_neg (by omega), if_pos (by omega), mUI_same]
        · by_cases h' : i ≤ k ∧ k + 1 < m
          · rw [if_pos (by omega), if_pos h', mUI_nk (by omega)]
          · rw [if_neg (by omega), if_neg h', mUI_nk h]
      · rw [gp_ne hy, gp_ne hy, mUI_ne hy]
    have hI2 : mUI I o i (I o (i + 1)) (a + 12) 6 = nI m := by rw [mUI_ne (Ne.symm hne)]; exact hI
    rw [e_X4_closeGap_2]
    simp (disch := omega) only [e_X4_closeGap_0, e_X4_closeGap_1, e_X4_closeGap_3, e_X4_closeGap_4, e_X4_closeGap_5, e_X4_closeGap_5n, e_X4_closeGap_6, e_X4_closeGap_9, e_X4_closeGap_12, e_X4_closeGap_12n, e_X4_closeGap_13, e_X4_closeGap_14, e_X4_closeGap_14n, e_X4_closeGap_15, e_X4_closeGap_16, e_X4_closeGap_17, e_X4_closeGap_18, e_X4_closeGap_19, e_X4_closeGap_20, e_X4_closeGap_23, e_X4_closeGap_26, mNl_i, mNl_r, mNl_n, mNl_l, mNl_0, mRV_s, mRV_n, tl_s, tl_n, cs_0, cs_i, cs_r, cs_n, cs_l, Nat.reduceAdd, Nat.reduceLeDiff, true_and, and_true, eq_self_iff_true, if_true, if_false, Nat.lt_irrefl, s_lit, s_eq, s_le, s_lt, nI_add, pk_mul, s_in, s_cl, bI_n, bI_zn, not_true, not_false_eq_true, true_implies, false_implies, Nat.reduceEqDiff, Nat.reduceMul, Classical.not_not, imp_self, implies_true, hz, h1, h2, h3, hI, show (m ≤ i + 1) = False from eq_false (by omega), show i < 12 from by omega, show i + 1 < 12 from by omega, show (2 ≤ o) = True from eq_true ho]
    rw [ih (i + 1) _ hI2 (by omega), e]
theorem k_gap {t : mTT} {a o m h : Nat} {I : Nat → Nat → Int32} (hz : mZr t = t) (h1 : mTg t (a + 12) = 7) (hA : sArr t o 12) (ho : 2 ≤ o) (hne : o ≠ a + 12) (hm : m ≤ 12) (hI : I (a + 12) 6 = nI m) (hh : h < m) : C_X4_closeGap [.ref (a + 12), .ref o, .int (nI h)] (t, I, L) Q = Q none (t, gp I o h m, L) := by
  simp only [c_X4_closeGap, e_X4_closeGap_0, e_X4_closeGap_1, mNl_i, mNl_r, mNl_n, mNl_l, mNl_0, mRV_s, mRV_n, tl_s, tl_n, cs_0, cs_i, cs_r, cs_n, cs_l, Nat.reduceAdd, Nat.reduceLeDiff, true_and, and_true, eq_self_iff_true, if_true, if_false]
  exact l_gap hz h1 hA.1 hA.2 ho hne hm (m - 1 - h) h I hI (by omega)
theorem k_remove {t : mTT} {a m h : Nat} {I : Nat → Nat → Int32} (hz : mZr t = t) (ha : sPup t a) (hm : m ≤ 12) (hI : I (a + 12) 6 = nI m) (hh : h < m) : C_X4_remove [.ref (a + 12), .int (nI h)] (t, I, L) Q = Q none (t, rmC I a h m, L) := by
  obtain ⟨g2, -, -, -, -, ⟨b0, b1, b2, b3, b4, b5, b6⟩, -, -, -, -, -, -, -, -, -, s1, s2, s3, s4, s5, s6, -⟩ := id ha
  have i1 : gp I (a + 13) h m (a + 12) 6 = nI m := by rw [gp_ne (by omega), hI]
  have i2 : gp (gp I (a + 13) h m) (a + 14) h m (a + 12) 6 = nI m := by rw [gp_ne (by omega), i1]
  have i3 : gp (gp (gp I (a + 13) h m) (a + 14) h m) (a + 15) h m (a + 12) 6 = nI m := by rw [gp_ne (by omega), i2]
  have i4 : gp (gp (gp (gp I (a + 13) h m) (a + 14) h m) (a + 15) h m) (a + 16) h m (a + 12) 6 = nI m := by rw [gp_ne (by omega), i3]
  have i5 : gp (gp (gp (gp (gp I (a + 13) h m) (a + 14) h m) (a + 15) h m) (a + 16) h m) (a + 17) h m (a + 12) 6 = nI m := by rw [gp_ne (by omega), i4]
  have i6 : gp (gp (gp (gp (gp (gp I (a + 13) h m) (a + 14) h m) (a + 15) h m) (a + 16) h m) (a + 17) h m) (a + 18) h m (a + 12) 6 = nI m := by rw [gp_ne (by omega), i5]
  simp (disch := omega) only [c_X4_remove, e_X4_remove_0, e_X4_remove_0n, e_X4_remove_1, e_X4_remove_1n, e_X4_remove_2, e_X4_remove_5, e_X4_remove_6, e_X4_remove_9, e_X4_remove_9n, e_X4_remove_10, e_X4_remove_10n, e_X4_remove_11, e_X4_remove_14, e_X4_remove_15, e_X4_remove_18, e_X4_remove_18n, e_X4_remove_19, e_X4_remove_19n, e_X4_remove_20, e_X4_remove_23, e_X4_remove_24, e_X4_remove_27, e_X4_remove_27n, e_X4_remove_28, e_X4_remove_28n, e_X4_remove_29, e_X4_remove_32, e_X4_remove_33, e_X4_remove_36, e_X4_remove_36n, e_X4_remove_37, e_X4_remove_37n, e_X4_remove_38, e_X4_remove_41, e_X4_remove_42, e_X4_remove_45, e_X4_remove_45n, e_X4_remove_46, e_X4_remove_46n, e_X4_remove_47, e_X4_remove_50, e_X4_remove_51, e_X4_remove_54, e_X4_remove_54n, e_X4_remove_55, e_X4_remove_55i, e_X4_remove_56, e_X4_remove_59, e_X4_remove_60, e_X4_remove_61, e_X4_remove_64, mNl_i, mNl_r, mNl_n, mNl_l, mNl_0, mRV_s, mRV_n, tl_s, tl_n, cs_0, cs_i, cs_r, cs_n, cs_l, Nat.reduceAdd, Nat.reduceLeDiff, true_and, and_true, eq_self_iff_true, if_true, if_false, Nat.lt_irrefl, s_lit, s_eq, s_le, s_lt, nI_add, pk_mul, s_in, s_cl, bI_n, bI_zn, not_true, not_false_eq_true, true_implies, false_implies, Nat.reduceEqDiff, Nat.reduceMul, Classical.not_not, imp_self, implies_true, hz, b0, b1, b2, b3, b4, b5, b6, k_gap hz b0 s1 (show 2 ≤ a + 13 by omega) (show a + 13 ≠ a + 12 by omega) hm hI hh, k_gap hz b0 s2 (show 2 ≤ a + 14 by omega) (show a + 14 ≠ a + 12 by omega) hm i1 hh, k_gap hz b0 s3 (show 2 ≤ a + 15 by omega) (show a + 15 ≠ a + 12 by omega) hm i2 hh, k_gap hz b0 s4 (show 2 ≤ a + 16 by omega) (show a + 16 ≠ a + 12 by omega) hm i3 hh, k_gap hz b0 s5 (show 2 ≤ a + 17 by omega) (show a + 17 ≠ a + 12 by omega) hm i4 hh, k_gap hz b0 s6 (show 2 ≤ a + 18 by omega) (show a + 18 ≠ a + 12 by omega) hm i5 hh, i6, s_sub (show 1 ≤ m by omega)]
  have e : mUI (gp (gp (gp (gp (gp (gp I (a + 13) h m) (a + 14) h m) (a + 15) h m) (a + 16) h m) (a + 17) h m) (a + 18) h m) (a + 12) 6 (nI (m - 1)) = rmC I a h m := by
    funext y k
    unfold rmC
    by_cases h0 : y = a + 12 ∧ k = 6
    · rw [if_pos h0, mUI_yes h0]
    · rw [if_neg h0, mUI_no h0]
      by_cases y1 : y = a + 13
      · subst y1; rw [gp_ne (by omega), gp_ne (by omega), gp_ne (by omega), gp_ne (by omega), gp_ne (by omega), gp_at]
        by_cases hk : h ≤ k ∧ k + 1 < m
        · rw [if_pos hk, if_pos (by omega)]
        · rw [if_neg hk, if_neg (by omega)]
      by_cases y1 : y = a + 14
      · subst y1; rw [gp_ne (by omega), gp_ne (by omega), gp_ne (by omega), gp_ne (by omega), gp_at, gp_ne (by omega), gp_ne (by omega)]
        by_cases hk : h ≤ k ∧ k + 1 < m
        · rw [if_pos hk, if_pos (by omega)]
        · rw [if_neg hk, if_neg (by omega)]
      by_cases y1 : y = a + 15
      · subst y1; rw [gp_ne (by omega), gp_ne (by omega), gp_ne (by omega), gp_at]; simp (disch := omega) only [gp_ne]
        by_cases hk : h ≤ k ∧ k + 1 < m
        · rw [if_pos hk, if_pos (by omega)]
        · rw [if_neg hk, if_neg (by omega)]
      by_cases y1 : y = a + 16
      · subst y1; rw [gp_ne (by omega), gp_ne (by omega), gp_at]; simp (disch := omega) only [gp_ne]
        by_cases hk : h ≤ k ∧ k + 1 < m
        · rw [if_pos hk, if_pos (by omega)]
        · rw [if_neg hk, if_neg (by omega)]
      by_cases y1 : y = a + 17
      · subst y1; rw [gp_ne (by omega), gp_at]; simp (disch := omega) only [gp_ne]
        by_cases hk : h ≤ k ∧ k + 1 < m
        · rw [if_pos hk, if_pos (by omega)]
        · rw [if_neg hk, if_neg (by omega)]
      by_cases y1 : y = a + 18
      · subst y1; rw [gp_at]; simp (disch := omega) only [gp_ne]
        by_cases hk : h ≤ k ∧ k + 1 < m
        · rw [if_pos hk, if_pos (by omega)]
        · rw [if_neg hk, if_neg (by omega)]
      rw [gp_ne (by omega), gp_ne (by omega), gp_ne (by omega), gp_ne (by omega), gp_ne (by omega), gp_ne (by omega), if_neg (by omega)]
  rw [e]
theorem l_drop {p : Nat} {x : Int32} (hp : p < 2) : ∀ (d i : Nat) (I : Nat → Nat → Int32), i + d = 122 → mWP tb_X11_dropHold Q 8 [some (.ref 329), some (.int (nI p)), some (.int x), some (.int (nI i))] [] (tt n, I, L) = mWP tb_X11_dropHold Q 35 [some (.ref 329), some (.int (nI p)), some (.int x), some (.int (nI 122))] [] (tt n, dM I (239 * p) i, L) := by
  intro d
  induction d with
  | zero =>
    intro i I hi
    have : i = 122 := by omega
    subst this
    have e : dM I (239 * p) 122 = I := by funext y k; unfold dM; rw [if_neg (by omega)]
    rw [e]
    simp (disch := omega) only [e_X11_dropHold_8, e_X11_dropHold_9, e_X11_dropHold_11, s_lit, s_le, Nat.le_refl, true_implies, not_true, false_implies, and_true]
  | succ d ih =>
    intro i I hi
    have e : dM (mUI I 330 (239 * p + i) (I 330 (239 * p + (i + 6)))) (239 * p) (i + 1) = dM I (239 * p) i := by
      funext y k
      unfold dM
      by_cases hy : y = 330
      · subst hy
        by_cases h : k = 239 * p + i
        · subst h
          rw [if_neg (by omega), if_pos (by omega), mUI_same, Nat.add_assoc]
        · by_cases h' : 239 * p + i ≤ k ∧ k < 239 * p + 122
          · rw [if_pos (by omega), if_pos (by omega), mUI_nk (by omega)]
          · rw [if_neg (by omega), if_neg (by omega), mUI_nk h]
      · rw [if_neg (by omega), if_neg (by omega), mUI_ne hy]
    rw [e_X11_dropHold_8]
    simp (disch := omega) only [e_X11_dropHold_0, e_X11_dropHold_2, e_X11_dropHold_4, e_X11_dropHold_5, e_X11_dropHold_6, e_X11_dropHold_7, e_X11_dropHold_9, e_X11_dropHold_11, e_X11_dropHold_14, e_X11_dropHold_14n, e_X11_dropHold_15, e_X11_dropHold_16, e_X11_dropHold_17, e_X11_dropHold_17n, e_X11_dropHold_18, e_X11_dropHold_19, e_X11_dropHold_20, e_X11_dropHold_22, e_X11_dropHold_23, e_X11_dropHold_26, e_X11_dropHold_29, e_X11_dropHold_32, e_X11_dropHold_36, e_X11_dropHold_37, e_X11_dropHold_39, e_X11_dropHold_39n, e_X11_dropHold_40, e_X11_dropHold_41, e_X11_dropHold_43, e_X11_dropHold_46, e_X11_dropHold_47, e_X11_dropHold_48, e_X11_dropHold_51, mNl_i, mNl_r, mNl_n, mNl_l, mNl_0, mRV_s, mRV_n, tl_s, tl_n, cs_0, cs_i, cs_r, cs_n, cs_l, Nat.reduceAdd, Nat.reduceLeDiff, true_and, and_true, eq_self_iff_true, if_true, if_false, Nat.lt_irrefl, s_lit, s_eq, s_le, s_lt, nI_add, pk_mul, s_in, s_cl, bI_n, bI_zn, not_true, not_false_eq_true, true_implies, false_implies, Nat.reduceEqDiff, Nat.reduceMul, Classical.not_not, imp_self, implies_true, tt_z, tg_329, k_get, k_put, show (122 ≤ i) = False from eq_false (by omega)]
    rw [ih (i + 1) _ (by omega), e]
theorem k_dropHold {p h m : Nat} {I : Nat → Nat → Int32} (hp : p < 2) (hI : I 330 (239 * p + 55) = nI m) (hh : h < m) (hm : m ≤ 12) : C_X11_dropHold [.ref 329, .int (nI p), .int (nI h)] (tt n, I, L) Q = Q none (tt n, dpM I (239 * p) h m, L) := by
  have i1 : dM I (239 * p) (56 + 6 * h) 330 (239 * p + 55) = nI m := by unfold dM; rw [if_neg (by omega), hI]
  simp (disch := omega) only [c_X11_dropHold, e_X11_dropHold_0, e_X11_dropHold_2, e_X11_dropHold_4, e_X11_dropHold_5, e_X11_dropHold_6, e_X11_dropHold_7, e_X11_dropHold_9, e_X11_dropHold_11, e_X11_dropHold_14, e_X11_dropHold_14n, e_X11_dropHold_15, e_X11_dropHold_16, e_X11_dropHold_17, e_X11_dropHold_17n, e_X11_dropHold_18, e_X11_dropHold_19, e_X11_dropHold_20, e_X11_dropHold_22, e_X11_dropHold_23, e_X11_dropHold_26, e_X11_dropHold_29, e_X11_dropHold_32, e_X11_dropHold_35, e_X11_dropHold_35n, e_X11_dropHold_36, e_X11_dropHold_37, e_X11_dropHold_39, e_X11_dropHold_39n, e_X11_dropHold_40, e_X11_dropHold_41, e_X11_dropHold_43, e_X11_dropHold_46, e_X11_dropHold_47, e_X11_dropHold_48, e_X11_dropHold_51, mNl_i, mNl_r, mNl_n, mNl_l, mNl_0, mRV_s, mRV_n, tl_s, tl_n, cs_0, cs_i, cs_r, cs_n, cs_l, Nat.reduceAdd, Nat.reduceLeDiff, true_and, and_true, eq_self_iff_true, if_true, if_false, Nat.lt_irrefl, s_lit, s_eq, s_le, s_lt, nI_add, pk_mul, s_in, s_cl, bI_n, bI_zn, not_true, not_false_eq_true, true_implies, false_implies, Nat.reduceEqDiff, Nat.reduceMul, Classical.not_not, imp_self, implies_true, tt_z, tg_329, l_drop hp (122 - (56 + 6 * h)) (56 + 6 * h) I (by omega), k_get, k_put, i1, s_sub (show 1 ≤ m by omega)]
  have e : mUI (dM I (239 * p) (56 + 6 * h)) 330 (239 * p + 55) (nI (m - 1)) = dpM I (239 * p) h m := by
    funext y k
    unfold dpM
    by_cases h0 : y = 330 ∧ k = 239 * p + 55
    · rw [if_pos h0, mUI_yes h0]
    · rw [if_neg h0, mUI_no h0]; rfl
  rw [e]
end
