/-! ===== the reference's history ===== -/
def bShift (I : Nat → Nat → Int32) (i : Nat) : Nat → Nat → Int32 := fun x j => if x = 331 ∧ i ≤ j ∧ j < 1912 then I 331 (j + 478) else I x j
def bCopy (I : Nat → Nat → Int32) (b i : Nat) : Nat → Nat → Int32 := fun x j => if x = 331 ∧ b + i ≤ j ∧ j < b + 478 then I 330 (j - b) else I x j
def sCopy (I : Nat → Nat → Int32) (b i : Nat) : Nat → Nat → Int32 := fun x j => if x = 330 ∧ i ≤ j ∧ j < 478 then I 331 (b + j) else I x j
section
variable {Q : mQo} {n : Nat} {L : Nat → Nat → Int64}
theorem l_keep1 : ∀ (m i : Nat) (I : Nat → Nat → Int32), i + m = 1912 → mWP tb_X11_keep Q 10 [some (.ref 329), some (.int (nI i))] [] (tt n, I, L) = mWP tb_X11_keep Q 39 [some (.ref 329), some (.int (nI 1912))] [] (tt n, bShift I i, L) := by
  intro m
  induction m with
  | zero =>
    intro i I hi
    have : i = 1912 := by omega
    subst this
    have e : bShift I 1912 = I := by funext x j; unfold bShift; rw [if_neg (by omega)]
    rw [e]
    simp (disch := omega) only [e_X11_keep_10, e_X11_keep_11, e_X11_keep_14, s_lit, s_le, Nat.le_refl, true_implies, not_true, false_implies, and_true]
  | succ m ih =>
    intro i I hi
    have e : bShift (mUI I 331 i (I 331 (i + 478))) (i + 1) = bShift I i := by
      funext x j
      unfold bShift
      by_cases h : x = 331
      · subst h
        by_cases h2 : j = i
        · subst h2
          rw [if_neg (by omega), if_pos (by omega), mUI_same]
        · by_cases h3 : i ≤ j ∧ j < 1912
          · rw [if_pos (by omega), if_pos (by omega), mUI_nk (by omega)]
          · rw [if_neg (by omega), if_neg (by omega), mUI_nk h2]
      · rw [if_neg (by omega), if_neg (by omega), mUI_ne h]
    rw [e_X11_keep_10]
    simp (disch := omega) only [e_X11_keep_0, e_X11_keep_0n, e_X11_keep_1, e_X11_keep_4, e_X11_keep_5, e_X11_keep_8, e_X11_keep_9, e_X11_keep_11, e_X11_keep_14, e_X11_keep_17, e_X11_keep_17n, e_X11_keep_18, e_X11_keep_21, e_X11_keep_22, e_X11_keep_22n, e_X11_keep_23, e_X11_keep_26, e_X11_keep_27, e_X11_keep_30, e_X11_keep_31, e_X11_keep_32, e_X11_keep_33, e_X11_keep_36, e_X11_keep_40, e_X11_keep_40i, e_X11_keep_41, e_X11_keep_44, e_X11_keep_45, e_X11_keep_46, e_X11_keep_49, e_X11_keep_50, e_X11_keep_51, e_X11_keep_52, e_X11_keep_55, e_X11_keep_58, e_X11_keep_58n, e_X11_keep_59, e_X11_keep_62, e_X11_keep_65, e_X11_keep_65n, e_X11_keep_66, e_X11_keep_69, e_X11_keep_70, e_X11_keep_71, e_X11_keep_72, e_X11_keep_72n, e_X11_keep_73, e_X11_keep_76, e_X11_keep_77, e_X11_keep_78, e_X11_keep_79, e_X11_keep_82, e_X11_keep_85, e_X11_keep_85n, e_X11_keep_86, e_X11_keep_86i, e_X11_keep_87, e_X11_keep_90, e_X11_keep_91, e_X11_keep_92, e_X11_keep_95, mNl_i, mNl_r, mNl_n, mNl_l, mNl_0, mRV_s, mRV_n, tl_s, tl_n, cs_0, cs_i, cs_r, cs_n, cs_l, Nat.reduceAdd, Nat.reduceLeDiff, true_and, and_true, eq_self_iff_true, if_true, if_false, tg_329, rf_329_1, tg_331, ln_331, s_lit, s_le, s_in, nI_add, s_cl]
    rw [ih (i + 1) _ (by omega), e]
    simp (disch := omega) only [show (1912 ≤ i) = False from eq_false (by omega), show i < 2390 from by omega, show i + 478 < 2390 from by omega, false_implies, true_and, not_false_eq_true, true_implies, show (2 ≤ 331) = True from eq_true (by decide)]
theorem l_keep2 {b kp : Nat} (hb : b = 478 * kp) (hk : kp < 5) : ∀ (m i : Nat) (I : Nat → Nat → Int32), I 329 2 = nI kp → i + m = 478 → mWP tb_X11_keep Q 51 [some (.ref 329), some (.int (nI i))] [] (tt n, I, L) = mWP tb_X11_keep Q 85 [some (.ref 329), some (.int (nI 478))] [] (tt n, bCopy I b i, L) := by
  intro m
  induction m with
  | zero =>
    intro i I hI hi
    have : i = 478 := by omega
    subst this
    have e : bCopy I b 478 = I := by funext x j; unfold bCopy; rw [if_neg (by omega)]
    rw [e]
    simp (disch := omega) only [e_X11_keep_51, e_X11_keep_52, e_X11_keep_55, s_lit, s_le, Nat.le_refl, true_implies, not_true, false_implies, and_true]
  | succ m ih =>
    intro i I hI hi
    have e : bCopy (mUI I 331 (b + i) (I 330 i)) b (i + 1) = bCopy I b i := by
      funext x j
      unfold bCopy
      by_cases h : x = 331
      · subst h
        by_cases h2 : j = b + i
        · subst h2
          rw [if_neg (by omega), if_pos (by omega), mUI_same, show b + i - b = i by omega]
        · by_cases h3 : b + i ≤ j ∧ j < b + 478
          · rw [if_pos (by omega), if_pos (by omega), mUI_ne (by decide)]
          · rw [if_neg (by omega), if_neg (by omega), mUI_nk h2]
      · rw [if_neg (by omega), if_neg (by omega), mUI_ne h]
    have hI2 : mUI I 331 (b + i) (I 330 i) 329 2 = nI kp := by rw [mUI_ne (by decide)]; exact hI
    rw [e_X11_keep_51]
    simp (disch := omega) only [e_X11_keep_0, e_X11_keep_0n, e_X11_keep_1, e_X11_keep_4, e_X11_keep_5, e_X11_keep_8, e_X11_keep_9, e_X11_keep_10, e_X11_keep_11, e_X11_keep_14, e_X11_keep_17, e_X11_keep_17n, e_X11_keep_18, e_X11_keep_21, e_X11_keep_22, e_X11_keep_22n, e_X11_keep_23, e_X11_keep_26, e_X11_keep_27, e_X11_keep_30, e_X11_keep_31, e_X11_keep_32, e_X11_keep_33, e_X11_keep_36, e_X11_keep_39, e_X11_keep_39n, e_X11_keep_40, e_X11_keep_40i, e_X11_keep_41, e_X11_keep_44, e_X11_keep_45, e_X11_keep_46, e_X11_keep_49, e_X11_keep_50, e_X11_keep_52, e_X11_keep_55, e_X11_keep_58, e_X11_keep_58n, e_X11_keep_59, e_X11_keep_62, e_X11_keep_65, e_X11_keep_65n, e_X11_keep_66, e_X11_keep_69, e_X11_keep_70, e_X11_keep_71, e_X11_keep_72, e_X11_keep_72n, e_X11_keep_73, e_X11_keep_76, e_X11_keep_77, e_X11_keep_78, e_X11_keep_79, e_X11_keep_82, e_X11_keep_86, e_X11_keep_86i, e_X11_keep_87, e_X11_keep_90, e_X11_keep_91, e_X11_keep_92, e_X11_keep_95, mNl_i, mNl_r, mNl_n, mNl_l, mNl_0, mRV_s, mRV_n, tl_s, tl_n, cs_0, cs_i, cs_r, cs_n, cs_l, Nat.reduceAdd, Nat.reduceLeDiff, true_and, and_true, eq_self_iff_true, if_true, if_false, tg_329, rf_329_0, rf_329_1, tg_330, ln_330, tg_331, ln_331, s_lit, s_le, s_in, hI, pk_mul, nI_add, s_cl, ← hb]
    rw [ih (i + 1) _ hI2 (by omega), e]
    simp (disch := omega) only [show (478 ≤ i) = False from eq_false (by omega), show i < 478 from by omega, show b + i < 2390 from by omega, false_implies, true_and, not_false_eq_true, true_implies, show (2 ≤ 331) = True from eq_true (by decide)]
/-- what was is laid down in the reference: at 5 the oldest goes -/
def kpM (I : Nat → Nat → Int32) (kp : Nat) : Nat → Nat → Int32 := if kp = 5 then mUI (bCopy (mUI (bShift I 0) 329 2 (nI 4)) 1912 0) 329 2 (nI 5) else mUI (bCopy I (478 * kp) 0) 329 2 (nI (kp + 1))
theorem k_keepM {I : Nat → Nat → Int32} {kp : Nat} (hk : kp ≤ 5) (hI : I 329 2 = nI kp) : C_X11_keep [.ref 329] (tt n, I, L) Q = Q none (tt n, kpM I kp, L) := by
  by_cases h5 : kp = 5
  · subst h5
    have g1 : bShift I 0 329 2 = nI 5 := by unfold bShift; rw [if_neg (by omega)]; exact hI
    have g2 : mUI (bShift I 0) 329 2 (nI 4) 329 2 = nI 4 := mUI_same
    have g3 : bCopy (mUI (bShift I 0) 329 2 (nI 4)) 1912 0 329 2 = nI 4 := by unfold bCopy; rw [if_neg (by omega)]; exact g2
    have z0 : (0 : Int32) = nI 0 := rfl
    have h4 : nI 5 - nI 1 = nI 4 := rfl
    have h6 : nI 4 + nI 1 = nI 5 := rfl
    simp only [c_X11_keep, e_X11_keep_0, e_X11_keep_0n, e_X11_keep_1, e_X11_keep_4, e_X11_keep_5, e_X11_keep_8, e_X11_keep_9, e_X11_keep_11, e_X11_keep_14, e_X11_keep_17, e_X11_keep_17n, e_X11_keep_18, e_X11_keep_21, e_X11_keep_22, e_X11_keep_22n, e_X11_keep_23, e_X11_keep_26, e_X11_keep_27, e_X11_keep_30, e_X11_keep_31, e_X11_keep_32, e_X11_keep_33, e_X11_keep_36, e_X11_keep_39, e_X11_keep_39n, e_X11_keep_40, e_X11_keep_40i, e_X11_keep_41, e_X11_keep_44, e_X11_keep_45, e_X11_keep_46, e_X11_keep_49, e_X11_keep_50, e_X11_keep_52, e_X11_keep_55, e_X11_keep_58, e_X11_keep_58n, e_X11_keep_59, e_X11_keep_62, e_X11_keep_65, e_X11_keep_65n, e_X11_keep_66, e_X11_keep_69, e_X11_keep_70, e_X11_keep_71, e_X11_keep_72, e_X11_keep_72n, e_X11_keep_73, e_X11_keep_76, e_X11_keep_77, e_X11_keep_78, e_X11_keep_79, e_X11_keep_82, e_X11_keep_85, e_X11_keep_85n, e_X11_keep_86, e_X11_keep_86i, e_X11_keep_87, e_X11_keep_90, e_X11_keep_91, e_X11_keep_92, e_X11_keep_95, mNl_i, mNl_r, mNl_n, mNl_l, mNl_0, mRV_s, mRV_n, tl_s, tl_n, cs_0, cs_i, cs_r, cs_n, cs_l, Nat.reduceAdd, Nat.reduceLeDiff, true_and, and_true, eq_self_iff_true, if_true, if_false, tg_329, hI, s_lit, true_implies, not_true, false_implies, l_keep1 1912 0 I (by decide), g1, h4, l_keep2 (b := 1912) (kp := 4) (by decide) (by decide) 478 0 _ g2 (by decide), g3, h6]
    rfl
  · have hne : (nI kp = nI 5) = False := eq_false (fun z => h5 (by rw [s_eq (by omega) (by omega)] at z; exact z))
    have g3 : bCopy I (478 * kp) 0 329 2 = nI kp := by unfold bCopy; rw [if_neg (by omega)]; exact hI
    simp only [c_X11_keep, e_X11_keep_0, e_X11_keep_0n, e_X11_keep_1, e_X11_keep_4, e_X11_keep_5, e_X11_keep_8, e_X11_keep_9, e_X11_keep_11, e_X11_keep_14, e_X11_keep_17, e_X11_keep_17n, e_X11_keep_18, e_X11_keep_21, e_X11_keep_22, e_X11_keep_22n, e_X11_keep_23, e_X11_keep_26, e_X11_keep_27, e_X11_keep_30, e_X11_keep_31, e_X11_keep_32, e_X11_keep_33, e_X11_keep_36, e_X11_keep_39, e_X11_keep_39n, e_X11_keep_40, e_X11_keep_40i, e_X11_keep_41, e_X11_keep_44, e_X11_keep_45, e_X11_keep_46, e_X11_keep_49, e_X11_keep_50, e_X11_keep_52, e_X11_keep_55, e_X11_keep_58, e_X11_keep_58n, e_X11_keep_59, e_X11_keep_62, e_X11_keep_65, e_X11_keep_65n, e_X11_keep_66, e_X11_keep_69, e_X11_keep_70, e_X11_keep_71, e_X11_keep_72, e_X11_keep_72n, e_X11_keep_73, e_X11_keep_76, e_X11_keep_77, e_X11_keep_78, e_X11_keep_79, e_X11_keep_82, e_X11_keep_85, e_X11_keep_85n, e_X11_keep_86, e_X11_keep_86i, e_X11_keep_87, e_X11_keep_90, e_X11_keep_91, e_X11_keep_92, e_X11_keep_95, mNl_i, mNl_r, mNl_n, mNl_l, mNl_0, mRV_s, mRV_n, tl_s, tl_n, cs_0, cs_i, cs_r, cs_n, cs_l, Nat.reduceAdd, Nat.reduceLeDiff, true_and, and_true, eq_self_iff_true, if_true, if_false, tg_329, hI, s_lit, hne, not_false_eq_true, true_implies, false_implies, l_keep2 (b := 478 * kp) (kp := kp) rfl (by omega) 478 0 _ hI (by decide), g3, nI_add]
    unfold kpM
    rw [if_neg h5]
theorem l_undo {b kp : Nat} (hb : b = 478 * kp) (hk : kp < 5) : ∀ (m i : Nat) (I : Nat → Nat → Int32), I 329 2 = nI kp → i + m = 478 → mWP tb_X11_undo Q 23 [some (.ref 329), some (.int (nI i))] [] (tt n, I, L) = mWP tb_X11_undo Q 57 [some (.ref 329), some (.int (nI 478))] [] (tt n, sCopy I b i, L) := by
  intro m
  induction m with
  | zero =>
    intro i I hI hi
    have : i = 478 := by omega
    subst this
    have e : sCopy I b 478 = I := by funext x j; unfold sCopy; rw [if_neg (by omega)]
    rw [e]
    simp (disch := omega) only [e_X11_undo_23, e_X11_undo_24, e_X11_undo_27, s_lit, s_le, Nat.le_refl, true_implies, not_true, false_implies, and_true]
  | succ m ih =>
    intro i I hI hi
    have e : sCopy (mUI I 330 i (I 331 (b + i))) b (i + 1) = sCopy I b i := by
      funext x j
      unfold sCopy
      by_cases h : x = 330
      · subst h
        by_cases h2 : j = i
        · subst h2
          rw [if_neg (by omega), if_pos (by omega), mUI_same]
        · by_cases h3 : i ≤ j ∧ j < 478
          · rw [if_pos (by omega), if_pos (by omega), mUI_ne (by decide)]
          · rw [if_neg (by omega), if_neg (by omega), mUI_nk h2]
      · rw [if_neg (by omega), if_neg (by omega), mUI_ne h]
    have hI2 : mUI I 330 i (I 331 (b + i)) 329 2 = nI kp := by rw [mUI_ne (by decide)]; exact hI
    rw [e_X11_undo_23]
    simp (disch := omega) only [e_X11_undo_0, e_X11_undo_0n, e_X11_undo_1, e_X11_undo_4, e_X11_undo_7, e_X11_undo_10, e_X11_undo_11, e_X11_undo_11n, e_X11_undo_12, e_X11_undo_12i, e_X11_undo_13, e_X11_undo_16, e_X11_undo_17, e_X11_undo_18, e_X11_undo_21, e_X11_undo_22, e_X11_undo_24, e_X11_undo_27, e_X11_undo_30, e_X11_undo_30n, e_X11_undo_31, e_X11_undo_34, e_X11_undo_35, e_X11_undo_35n, e_X11_undo_36, e_X11_undo_39, e_X11_undo_42, e_X11_undo_42n, e_X11_undo_43, e_X11_undo_46, e_X11_undo_47, e_X11_undo_48, e_X11_undo_49, e_X11_undo_50, e_X11_undo_51, e_X11_undo_54, e_X11_undo_58, e_X11_undo_61, e_X11_undo_62, mNl_i, mNl_r, mNl_n, mNl_l, mNl_0, mRV_s, mRV_n, tl_s, tl_n, cs_0, cs_i, cs_r, cs_n, cs_l, Nat.reduceAdd, Nat.reduceLeDiff, true_and, and_true, eq_self_iff_true, if_true, if_false, tg_329, rf_329_0, rf_329_1, tg_330, ln_330, tg_331, ln_331, s_lit, s_le, s_in, hI, pk_mul, nI_add, s_cl, ← hb]
    rw [ih (i + 1) _ hI2 (by omega), e]
    simp (disch := omega) only [show (478 ≤ i) = False from eq_false (by omega), show i < 478 from by omega, show b + i < 2390 from by omega, false_implies, true_and, not_false_eq_true, true_implies, show (2 ≤ 330) = True from eq_true (by decide)]
theorem k_undoM0 {I : Nat → Nat → Int32} (hI : I 329 2 = nI 0) : C_X11_undo [.ref 329] (tt n, I, L) Q = Q (some (.long (-9000000000000000002))) (tt n, I, L) := by
  simp only [c_X11_undo, e_X11_undo_0, e_X11_undo_0n, e_X11_undo_1, e_X11_undo_4, e_X11_undo_7, e_X11_undo_10, e_X11_undo_11, e_X11_undo_11n, e_X11_undo_12, e_X11_undo_12i, e_X11_undo_13, e_X11_undo_16, e_X11_undo_17, e_X11_undo_18, e_X11_undo_21, e_X11_undo_22, e_X11_undo_24, e_X11_undo_27, e_X11_undo_30, e_X11_undo_30n, e_X11_undo_31, e_X11_undo_34, e_X11_undo_35, e_X11_undo_35n, e_X11_undo_36, e_X11_undo_39, e_X11_undo_42, e_X11_undo_42n, e_X11_undo_43, e_X11_undo_46, e_X11_undo_47, e_X11_undo_48, e_X11_undo_49, e_X11_undo_50, e_X11_undo_51, e_X11_undo_54, e_X11_undo_57, e_X11_undo_57n, e_X11_undo_58, e_X11_undo_61, e_X11_undo_62, mNl_i, mNl_r, mNl_n, mNl_l, mNl_0, mRV_s, mRV_n, tl_s, tl_n, cs_0, cs_i, cs_r, cs_n, cs_l, Nat.reduceAdd, Nat.reduceLeDiff, true_and, and_true, eq_self_iff_true, if_true, if_false, tg_329, hI, s_lit, true_implies, not_true, false_implies]
theorem k_undoM {I : Nat → Nat → Int32} {kp : Nat} (hk : kp < 5) (hI : I 329 2 = nI (kp + 1)) : C_X11_undo [.ref 329] (tt n, I, L) Q = Q (some (.long (nI kp).toInt64)) (tt n, sCopy (mUI I 329 2 (nI kp)) (478 * kp) 0, L) := by
  have hne : (nI (kp + 1) = nI 0) = False := eq_false (fun z => by rw [s_eq (by omega) (by omega)] at z; omega)
  have h4 : nI (kp + 1) - nI 1 = nI kp := by rw [s_sub (by omega)]; rfl
  have g2 : mUI I 329 2 (nI kp) 329 2 = nI kp := mUI_same
  have g3 : sCopy (mUI I 329 2 (nI kp)) (478 * kp) 0 329 2 = nI kp := by unfold sCopy; rw [if_neg (by omega)]; exact g2
  simp only [c_X11_undo, e_X11_undo_0, e_X11_undo_0n, e_X11_undo_1, e_X11_undo_4, e_X11_undo_7, e_X11_undo_10, e_X11_undo_11, e_X11_undo_11n, e_X11_undo_12, e_X11_undo_12i, e_X11_undo_13, e_X11_undo_16, e_X11_undo_17, e_X11_undo_18, e_X11_undo_21, e_X11_undo_22, e_X11_undo_24, e_X11_undo_27, e_X11_undo_30, e_X11_undo_30n, e_X11_undo_31, e_X11_undo_34, e_X11_undo_35, e_X11_undo_35n, e_X11_undo_36, e_X11_undo_39, e_X11_undo_42, e_X11_undo_42n, e_X11_undo_43, e_X11_undo_46, e_X11_undo_47, e_X11_undo_48, e_X11_undo_49, e_X11_undo_50, e_X11_undo_51, e_X11_undo_54, e_X11_undo_57, e_X11_undo_57n, e_X11_undo_58, e_X11_undo_61, e_X11_undo_62, mNl_i, mNl_r, mNl_n, mNl_l, mNl_0, mRV_s, mRV_n, tl_s, tl_n, cs_0, cs_i, cs_r, cs_n, cs_l, Nat.reduceAdd, Nat.reduceLeDiff, true_and, and_true, eq_self_iff_true, if_true, if_false, tg_329, hI, s_lit, hne, not_false_eq_true, true_implies, false_implies, h4, l_undo (b := 478 * kp) (kp := kp) rfl hk 478 0 _ g2 (by decide), g3]
end
