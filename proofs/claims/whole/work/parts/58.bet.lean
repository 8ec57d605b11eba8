/-! ===== the first side's isBetter ===== -/
section
variable {Q : mQo} {n : Nat} {I : Nat → Nat → Int32} {L : Nat → Nat → Int64} {f : Nat → Int32} {a F n1 q m tk ps : Nat} {E0 D0 : Int}
theorem l_bet1 (ha : sPup (tt n) a) (hF : sFig (tt n) F) (h6 : rP6 (blk I a) f n1 q m tk ps) (hM : ldC I F f n1) (hD : bdC I F f) (e1 : L F 9 = i6 E0) (e2 : L F 10 = i6 D0) (b1 : 0 ≤ E0) (b2 : E0 ≤ 1000000000000000000) (b3 : -9223372036854775808 ≤ D0) (b4 : D0 < 9223372036854775808) (hb : bet (aeI f m) (dpI f n1) E0 D0) : ∀ (d k : Nat), k + d = m → mWP tb_X1_isBetter Q 13 [some (.ref F), some (.ref a), some (.long (i6 (aeI f k))), none, some (.int (nI k)), none] [] (tt n, I, L) = Q (some (.int 1)) (tt n, I, mUL (mUL L F 9 (i6 (aeI f m))) F 10 (i6 (dpI f n1))) := by
  have hA := fAll_of h6
  have hn := hA.1.1
  have hm := hA.2.2.2.1
  have c1 := ae_b hA m (Nat.le_refl m)
  have c2 := dp_b hA n1 (Nat.le_refl n1)
  obtain ⟨t1, r0, r1, r2, r3, r4⟩ := ha.2.1
  have tH := ha.2.2.2.2.2.1.1
  have tL := ha.2.2.1.1
  have F1 := hF.2.1
  have v5 : I (a + 12) 6 = nI m := h6.2.2.2.2.2.1.2.1
  intro d
  induction d with
  | zero =>
    intro k hk
    have : k = m := by omega
    subst this
    by_cases x1 : aeI f k = E0
    · have x3 : dpI f n1 < D0 := by rcases hb with hb | hb <;> omega
      simp (disch := omega) only [e_X1_isBetter_0, e_X1_isBetter_0n, e_X1_isBetter_1, e_X1_isBetter_1n, e_X1_isBetter_2, e_X1_isBetter_5, e_X1_isBetter_8, e_X1_isBetter_9, e_X1_isBetter_10, e_X1_isBetter_11, e_X1_isBetter_13, e_X1_isBetter_15, e_X1_isBetter_15n, e_X1_isBetter_16, e_X1_isBetter_19, e_X1_isBetter_22, e_X1_isBetter_26, e_X1_isBetter_26n, e_X1_isBetter_27, e_X1_isBetter_27n, e_X1_isBetter_28, e_X1_isBetter_31, e_X1_isBetter_33, e_X1_isBetter_33n, e_X1_isBetter_34, e_X1_isBetter_34n, e_X1_isBetter_35, e_X1_isBetter_38, e_X1_isBetter_40, e_X1_isBetter_43, e_X1_isBetter_46, e_X1_isBetter_47, e_X1_isBetter_48, e_X1_isBetter_49, e_X1_isBetter_49n, e_X1_isBetter_50, e_X1_isBetter_53, e_X1_isBetter_54, e_X1_isBetter_57, e_X1_isBetter_58, e_X1_isBetter_59, e_X1_isBetter_62, e_X1_isBetter_65, e_X1_isBetter_65n, e_X1_isBetter_66, e_X1_isBetter_66n, e_X1_isBetter_67, e_X1_isBetter_70, e_X1_isBetter_73, e_X1_isBetter_75, e_X1_isBetter_76, e_X1_isBetter_76n, e_X1_isBetter_77, e_X1_isBetter_80, e_X1_isBetter_81, e_X1_isBetter_84, e_X1_isBetter_86, e_X1_isBetter_86n, e_X1_isBetter_87, e_X1_isBetter_90, e_X1_isBetter_91, e_X1_isBetter_94, e_X1_isBetter_95, e_X1_isBetter_96, e_X1_isBetter_96n, e_X1_isBetter_97, e_X1_isBetter_98, e_X1_isBetter_101, e_X1_isBetter_101n, e_X1_isBetter_102, e_X1_isBetter_104, e_X1_isBetter_107, e_X1_isBetter_108, mNl_i, mNl_r, mNl_n, mNl_l, mNl_0, mRV_s, mRV_n, tl_s, tl_n, cs_0, cs_i, cs_r, cs_n, cs_l, Nat.reduceAdd, Nat.reduceLeDiff, true_and, and_true, eq_self_iff_true, if_true, if_false, Nat.lt_irrefl, s_lit, s_eq, s_le, s_lt, nI_add, pk_mul, s_in, s_cl, bI_n, bI_zn, not_true, not_false_eq_true, true_implies, false_implies, Nat.reduceEqDiff, Nat.reduceMul, Classical.not_not, imp_self, implies_true, tt_z, t1, r0, r3, tH, tL, F1, v5, k_depC ha hF hA h6.1 hM, e1, e2, q_eq, q_lt, i6_eq, i6_lt, eq_true x1, eq_true x3, Nat.le_refl, or_true, true_or]
    · simp (disch := omega) only [e_X1_isBetter_0, e_X1_isBetter_0n, e_X1_isBetter_1, e_X1_isBetter_1n, e_X1_isBetter_2, e_X1_isBetter_5, e_X1_isBetter_8, e_X1_isBetter_9, e_X1_isBetter_10, e_X1_isBetter_11, e_X1_isBetter_13, e_X1_isBetter_15, e_X1_isBetter_15n, e_X1_isBetter_16, e_X1_isBetter_19, e_X1_isBetter_22, e_X1_isBetter_26, e_X1_isBetter_26n, e_X1_isBetter_27, e_X1_isBetter_27n, e_X1_isBetter_28, e_X1_isBetter_31, e_X1_isBetter_33, e_X1_isBetter_33n, e_X1_isBetter_34, e_X1_isBetter_34n, e_X1_isBetter_35, e_X1_isBetter_38, e_X1_isBetter_40, e_X1_isBetter_43, e_X1_isBetter_46, e_X1_isBetter_47, e_X1_isBetter_48, e_X1_isBetter_49, e_X1_isBetter_49n, e_X1_isBetter_50, e_X1_isBetter_53, e_X1_isBetter_54, e_X1_isBetter_57, e_X1_isBetter_58, e_X1_isBetter_59, e_X1_isBetter_62, e_X1_isBetter_65, e_X1_isBetter_65n, e_X1_isBetter_66, e_X1_isBetter_66n, e_X1_isBetter_67, e_X1_isBetter_70, e_X1_isBetter_73, e_X1_isBetter_75, e_X1_isBetter_76, e_X1_isBetter_76n, e_X1_isBetter_77, e_X1_isBetter_80, e_X1_isBetter_81, e_X1_isBetter_84, e_X1_isBetter_86, e_X1_isBetter_86n, e_X1_isBetter_87, e_X1_isBetter_90, e_X1_isBetter_91, e_X1_isBetter_94, e_X1_isBetter_95, e_X1_isBetter_96, e_X1_isBetter_96n, e_X1_isBetter_97, e_X1_isBetter_98, e_X1_isBetter_101, e_X1_isBetter_101n, e_X1_isBetter_102, e_X1_isBetter_104, e_X1_isBetter_107, e_X1_isBetter_108, mNl_i, mNl_r, mNl_n, mNl_l, mNl_0, mRV_s, mRV_n, tl_s, tl_n, cs_0, cs_i, cs_r, cs_n, cs_l, Nat.reduceAdd, Nat.reduceLeDiff, true_and, and_true, eq_self_iff_true, if_true, if_false, Nat.lt_irrefl, s_lit, s_eq, s_le, s_lt, nI_add, pk_mul, s_in, s_cl, bI_n, bI_zn, not_true, not_false_eq_true, true_implies, false_implies, Nat.reduceEqDiff, Nat.reduceMul, Classical.not_not, imp_self, implies_true, tt_z, t1, r0, r3, tH, tL, F1, v5, k_depC ha hF hA h6.1 hM, e1, e2, q_eq, q_lt, i6_eq, i6_lt, eq_false x1, Nat.le_refl, or_true, true_or]
  | succ d ih =>
    intro k hk
    have c3 := ae_b hA (k + 1) (by omega)
    have c4 := ae_mono hA (k + 1) m (by omega) (Nat.le_refl m)
    have c5 : aeI f k + exI f k ≤ E0 := by
      have : aeI f (k + 1) = aeI f k + exI f k := rfl
      unfold bet at hb
      omega
    have c6 : 0 ≤ aeI f k + exI f k := by
      have : aeI f (k + 1) = aeI f k + exI f k := rfl
      omega
    rw [e_X1_isBetter_13]
    simp (disch := omega) only [e_X1_isBetter_0, e_X1_isBetter_0n, e_X1_isBetter_1, e_X1_isBetter_1n, e_X1_isBetter_2, e_X1_isBetter_5, e_X1_isBetter_8, e_X1_isBetter_9, e_X1_isBetter_10, e_X1_isBetter_11, e_X1_isBetter_15, e_X1_isBetter_15n, e_X1_isBetter_16, e_X1_isBetter_19, e_X1_isBetter_22, e_X1_isBetter_25, e_X1_isBetter_26, e_X1_isBetter_26n, e_X1_isBetter_27, e_X1_isBetter_27n, e_X1_isBetter_28, e_X1_isBetter_31, e_X1_isBetter_33, e_X1_isBetter_33n, e_X1_isBetter_34, e_X1_isBetter_34n, e_X1_isBetter_35, e_X1_isBetter_38, e_X1_isBetter_40, e_X1_isBetter_43, e_X1_isBetter_46, e_X1_isBetter_47, e_X1_isBetter_48, e_X1_isBetter_49, e_X1_isBetter_49n, e_X1_isBetter_50, e_X1_isBetter_53, e_X1_isBetter_54, e_X1_isBetter_57, e_X1_isBetter_58, e_X1_isBetter_59, e_X1_isBetter_62, e_X1_isBetter_66, e_X1_isBetter_66n, e_X1_isBetter_67, e_X1_isBetter_70, e_X1_isBetter_73, e_X1_isBetter_75, e_X1_isBetter_76, e_X1_isBetter_76n, e_X1_isBetter_77, e_X1_isBetter_80, e_X1_isBetter_81, e_X1_isBetter_84, e_X1_isBetter_86, e_X1_isBetter_86n, e_X1_isBetter_87, e_X1_isBetter_90, e_X1_isBetter_91, e_X1_isBetter_94, e_X1_isBetter_95, e_X1_isBetter_96, e_X1_isBetter_96n, e_X1_isBetter_97, e_X1_isBetter_98, e_X1_isBetter_101, e_X1_isBetter_101n, e_X1_isBetter_102, e_X1_isBetter_104, e_X1_isBetter_107, e_X1_isBetter_108, mNl_i, mNl_r, mNl_n, mNl_l, mNl_0, mRV_s, mRV_n, tl_s, tl_n, cs_0, cs_i, cs_r, cs_n, cs_l, Nat.reduceAdd, Nat.reduceLeDiff, true_and, and_true, eq_self_iff_true, if_true, if_false, Nat.lt_irrefl, s_lit, s_eq, s_le, s_lt, nI_add, pk_mul, s_in, s_cl, bI_n, bI_zn, not_true, not_false_eq_true, true_implies, false_implies, Nat.reduceEqDiff, Nat.reduceMul, Classical.not_not, imp_self, implies_true, tt_z, t1, r0, r3, tH, F1, v5, k_farC ha hF hA h6.2.2.2.2.2.1 hM hD (show k < m by omega), k_tooC ha hF hA h6.2.2.2.2.2.1 hM (show k < m by omega), e1, i6_add, q_le, i6_le, eq_true c5, show (m ≤ k) = False from eq_false (by omega)]
    exact ih (k + 1) (by omega)
theorem l_bet0 (ha : sPup (tt n) a) (hF : sFig (tt n) F) (h6 : rP6 (blk I a) f n1 q m tk ps) (hM : ldC I F f n1) (hD : bdC I F f) (e1 : L F 9 = i6 E0) (e2 : L F 10 = i6 D0) (b1 : 0 ≤ E0) (b2 : E0 ≤ 1000000000000000000) (b3 : -9223372036854775808 ≤ D0) (b4 : D0 < 9223372036854775808) (hb : ¬ bet (aeI f m) (dpI f n1) E0 D0) : ∀ (d k : Nat), k + d = m → aeI f k ≤ E0 → mWP tb_X1_isBetter Q 13 [some (.ref F), some (.ref a), some (.long (i6 (aeI f k))), none, some (.int (nI k)), none] [] (tt n, I, L) = Q (some (.int 0)) (tt n, I, L) := by
  have hA := fAll_of h6
  have hn := hA.1.1
  have hm := hA.2.2.2.1
  have c1 := ae_b hA m (Nat.le_refl m)
  have c2 := dp_b hA n1 (Nat.le_refl n1)
  obtain ⟨t1, r0, r1, r2, r3, r4⟩ := ha.2.1
  have tH := ha.2.2.2.2.2.1.1
  have tL := ha.2.2.1.1
  have F1 := hF.2.1
  have v5 : I (a + 12) 6 = nI m := h6.2.2.2.2.2.1.2.1
  intro d
  induction d with
  | zero =>
    intro k hk hE
    have : k = m := by omega
    subst this
    have x1 : aeI f k = E0 := by
      refine Int.le_antisymm hE (Int.not_lt.mp (fun z => hb (Or.inl z)))
    have x3 : ¬ dpI f n1 < D0 := fun z => hb (Or.inr ⟨x1, z⟩)
    simp (disch := omega) only [e_X1_isBetter_0, e_X1_isBetter_0n, e_X1_isBetter_1, e_X1_isBetter_1n, e_X1_isBetter_2, e_X1_isBetter_5, e_X1_isBetter_8, e_X1_isBetter_9, e_X1_isBetter_10, e_X1_isBetter_11, e_X1_isBetter_13, e_X1_isBetter_15, e_X1_isBetter_15n, e_X1_isBetter_16, e_X1_isBetter_19, e_X1_isBetter_22, e_X1_isBetter_26, e_X1_isBetter_26n, e_X1_isBetter_27, e_X1_isBetter_27n, e_X1_isBetter_28, e_X1_isBetter_31, e_X1_isBetter_33, e_X1_isBetter_33n, e_X1_isBetter_34, e_X1_isBetter_34n, e_X1_isBetter_35, e_X1_isBetter_38, e_X1_isBetter_40, e_X1_isBetter_43, e_X1_isBetter_46, e_X1_isBetter_47, e_X1_isBetter_48, e_X1_isBetter_49, e_X1_isBetter_49n, e_X1_isBetter_50, e_X1_isBetter_53, e_X1_isBetter_54, e_X1_isBetter_57, e_X1_isBetter_58, e_X1_isBetter_59, e_X1_isBetter_62, e_X1_isBetter_65, e_X1_isBetter_65n, e_X1_isBetter_66, e_X1_isBetter_66n, e_X1_isBetter_67, e_X1_isBetter_70, e_X1_isBetter_73, e_X1_isBetter_75, e_X1_isBetter_76, e_X1_isBetter_76n, e_X1_isBetter_77, e_X1_isBetter_80, e_X1_isBetter_81, e_X1_isBetter_84, e_X1_isBetter_86, e_X1_isBetter_86n, e_X1_isBetter_87, e_X1_isBetter_90, e_X1_isBetter_91, e_X1_isBetter_94, e_X1_isBetter_95, e_X1_isBetter_96, e_X1_isBetter_96n, e_X1_isBetter_97, e_X1_isBetter_98, e_X1_isBetter_101, e_X1_isBetter_101n, e_X1_isBetter_102, e_X1_isBetter_104, e_X1_isBetter_107, e_X1_isBetter_108, mNl_i, mNl_r, mNl_n, mNl_l, mNl_0, mRV_s, mRV_n, tl_s, tl_n, cs_0, cs_i, cs_r, cs_n, cs_l, Nat.reduceAdd, Nat.reduceLeDiff, true_and, and_true, eq_self_iff_true, if_true, if_false, Nat.lt_irrefl, s_lit, s_eq, s_le, s_lt, nI_add, pk_mul, s_in, s_cl, bI_n, bI_zn, not_true, not_false_eq_true, true_implies, false_implies, Nat.reduceEqDiff, Nat.reduceMul, Classical.not_not, imp_self, implies_true, tt_z, t1, r0, r3, tH, tL, F1, v5, k_depC ha hF hA h6.1 hM, e1, e2, q_eq, q_lt, i6_eq, i6_lt, eq_true x1, eq_false x3, Nat.le_refl, or_true, true_or]
  | succ d ih =>
    intro k hk hE
    have c3 := ae_b hA (k + 1) (by omega)
    have c6 : 0 ≤ aeI f k + exI f k ∧ aeI f k + exI f k ≤ 10000000000 := by
      have : aeI f (k + 1) = aeI f k + exI f k := rfl
      omega
    rw [e_X1_isBetter_13]
    by_cases c5 : aeI f k + exI f k ≤ E0
    · simp (disch := omega) only [e_X1_isBetter_0, e_X1_isBetter_0n, e_X1_isBetter_1, e_X1_isBetter_1n, e_X1_isBetter_2, e_X1_isBetter_5, e_X1_isBetter_8, e_X1_isBetter_9, e_X1_isBetter_10, e_X1_isBetter_11, e_X1_isBetter_15, e_X1_isBetter_15n, e_X1_isBetter_16, e_X1_isBetter_19, e_X1_isBetter_22, e_X1_isBetter_25, e_X1_isBetter_26, e_X1_isBetter_26n, e_X1_isBetter_27, e_X1_isBetter_27n, e_X1_isBetter_28, e_X1_isBetter_31, e_X1_isBetter_33, e_X1_isBetter_33n, e_X1_isBetter_34, e_X1_isBetter_34n, e_X1_isBetter_35, e_X1_isBetter_38, e_X1_isBetter_40, e_X1_isBetter_43, e_X1_isBetter_46, e_X1_isBetter_47, e_X1_isBetter_48, e_X1_isBetter_49, e_X1_isBetter_49n, e_X1_isBetter_50, e_X1_isBetter_53, e_X1_isBetter_54, e_X1_isBetter_57, e_X1_isBetter_58, e_X1_isBetter_59, e_X1_isBetter_62, e_X1_isBetter_66, e_X1_isBetter_66n, e_X1_isBetter_67, e_X1_isBetter_70, e_X1_isBetter_73, e_X1_isBetter_75, e_X1_isBetter_76, e_X1_isBetter_76n, e_X1_isBetter_77, e_X1_isBetter_80, e_X1_isBetter_81, e_X1_isBetter_84, e_X1_isBetter_86, e_X1_isBetter_86n, e_X1_isBetter_87, e_X1_isBetter_90, e_X1_isBetter_91, e_X1_isBetter_94, e_X1_isBetter_95, e_X1_isBetter_96, e_X1_isBetter_96n, e_X1_isBetter_97, e_X1_isBetter_98, e_X1_isBetter_101, e_X1_isBetter_101n, e_X1_isBetter_102, e_X1_isBetter_104, e_X1_isBetter_107, e_X1_isBetter_108, mNl_i, mNl_r, mNl_n, mNl_l, mNl_0, mRV_s, mRV_n, tl_s, tl_n, cs_0, cs_i, cs_r, cs_n, cs_l, Nat.reduceAdd, Nat.reduceLeDiff, true_and, and_true, eq_self_iff_true, if_true, if_false, Nat.lt_irrefl, s_lit, s_eq, s_le, s_lt, nI_add, pk_mul, s_in, s_cl, bI_n, bI_zn, not_true, not_false_eq_true, true_implies, false_implies, Nat.reduceEqDiff, Nat.reduceMul, Classical.not_not, imp_self, implies_true, tt_z, t1, r0, r3, tH, F1, v5, k_farC ha hF hA h6.2.2.2.2.2.1 hM hD (show k < m by omega), k_tooC ha hF hA h6.2.2.2.2.2.1 hM (show k < m by omega), e1, i6_add, q_le, i6_le, eq_true c5, show (m ≤ k) = False from eq_false (by omega)]
      exact ih (k + 1) (by omega) c5
    · simp (disch := omega) only [e_X1_isBetter_0, e_X1_isBetter_0n, e_X1_isBetter_1, e_X1_isBetter_1n, e_X1_isBetter_2, e_X1_isBetter_5, e_X1_isBetter_8, e_X1_isBetter_9, e_X1_isBetter_10, e_X1_isBetter_11, e_X1_isBetter_15, e_X1_isBetter_15n, e_X1_isBetter_16, e_X1_isBetter_19, e_X1_isBetter_22, e_X1_isBetter_25, e_X1_isBetter_26, e_X1_isBetter_26n, e_X1_isBetter_27, e_X1_isBetter_27n, e_X1_isBetter_28, e_X1_isBetter_31, e_X1_isBetter_33, e_X1_isBetter_33n, e_X1_isBetter_34, e_X1_isBetter_34n, e_X1_isBetter_35, e_X1_isBetter_38, e_X1_isBetter_40, e_X1_isBetter_43, e_X1_isBetter_46, e_X1_isBetter_47, e_X1_isBetter_48, e_X1_isBetter_49, e_X1_isBetter_49n, e_X1_isBetter_50, e_X1_isBetter_53, e_X1_isBetter_54, e_X1_isBetter_57, e_X1_isBetter_58, e_X1_isBetter_62, e_X1_isBetter_66, e_X1_isBetter_66n, e_X1_isBetter_67, e_X1_isBetter_70, e_X1_isBetter_73, e_X1_isBetter_75, e_X1_isBetter_76, e_X1_isBetter_76n, e_X1_isBetter_77, e_X1_isBetter_80, e_X1_isBetter_81, e_X1_isBetter_84, e_X1_isBetter_86, e_X1_isBetter_86n, e_X1_isBetter_87, e_X1_isBetter_90, e_X1_isBetter_91, e_X1_isBetter_94, e_X1_isBetter_95, e_X1_isBetter_96, e_X1_isBetter_96n, e_X1_isBetter_97, e_X1_isBetter_98, e_X1_isBetter_101, e_X1_isBetter_101n, e_X1_isBetter_102, e_X1_isBetter_104, e_X1_isBetter_107, e_X1_isBetter_108, mNl_i, mNl_r, mNl_n, mNl_l, mNl_0, mRV_s, mRV_n, tl_s, tl_n, cs_0, cs_i, cs_r, cs_n, cs_l, Nat.reduceAdd, Nat.reduceLeDiff, true_and, and_true, eq_self_iff_true, if_true, if_false, Nat.lt_irrefl, s_lit, s_eq, s_le, s_lt, nI_add, pk_mul, s_in, s_cl, bI_n, bI_zn, not_true, not_false_eq_true, true_implies, false_implies, Nat.reduceEqDiff, Nat.reduceMul, Classical.not_not, imp_self, implies_true, tt_z, t1, r0, r3, tH, F1, v5, k_farC ha hF hA h6.2.2.2.2.2.1 hM hD (show k < m by omega), k_tooC ha hF hA h6.2.2.2.2.2.1 hM (show k < m by omega), e1, i6_add, q_le, i6_le, eq_false c5, or_true, true_or, show (m ≤ k) = False from eq_false (by omega)]
theorem rP6_ly (hd : a + 24 ≤ F) (h6 : rP6 (blk I a) f n1 q m tk ps) {k : Nat} {g : Nat → Int32} : rP6 (blk (lyC I F g k) a) f n1 q m tk ps := rP6_congr (fun off j hp => by have := pAll_lt hp; exact ly_ne (by omega)) (fun _ _ => rfl) h6
theorem bdC_ly (hD : bdC I F f) {k : Nat} {g : Nat → Int32} : bdC (lyC I F g k) F f := fun j hj => by rw [ly_ne (by omega), ly_ne (by omega)]; exact hD j hj
theorem k_bet1 (ha : sPup (tt n) a) (hF : sFig (tt n) F) (hd : a + 24 ≤ F) (hs : rSin I) (h6 : rP6 (blk I a) f n1 q m tk ps) (hD : bdC I F f) (e1 : L F 9 = i6 E0) (e2 : L F 10 = i6 D0) (b1 : 0 ≤ E0) (b2 : E0 ≤ 1000000000000000000) (b3 : -9223372036854775808 ≤ D0) (b4 : D0 < 9223372036854775808) (hb : bet (aeI f m) (dpI f n1) E0 D0) : C_X1_isBetter [.ref F, .ref a] (tt n, I, L) Q = Q (some (.int 1)) (tt n, lyC I F f n1, mUL (mUL L F 9 (i6 (aeI f m))) F 10 (i6 (dpI f n1))) := by
  obtain ⟨t1, r0, r1, r2, r3, r4⟩ := ha.2.1
  simp (disch := omega) only [c_X1_isBetter, e_X1_isBetter_0, e_X1_isBetter_0n, e_X1_isBetter_1, e_X1_isBetter_1n, e_X1_isBetter_2, e_X1_isBetter_5, e_X1_isBetter_8, e_X1_isBetter_9, e_X1_isBetter_10, e_X1_isBetter_11, e_X1_isBetter_15, e_X1_isBetter_15n, e_X1_isBetter_16, e_X1_isBetter_19, e_X1_isBetter_22, e_X1_isBetter_25, e_X1_isBetter_26, e_X1_isBetter_26n, e_X1_isBetter_27, e_X1_isBetter_27n, e_X1_isBetter_28, e_X1_isBetter_31, e_X1_isBetter_33, e_X1_isBetter_33n, e_X1_isBetter_34, e_X1_isBetter_34n, e_X1_isBetter_35, e_X1_isBetter_38, e_X1_isBetter_40, e_X1_isBetter_43, e_X1_isBetter_46, e_X1_isBetter_47, e_X1_isBetter_48, e_X1_isBetter_49, e_X1_isBetter_49n, e_X1_isBetter_50, e_X1_isBetter_53, e_X1_isBetter_54, e_X1_isBetter_57, e_X1_isBetter_58, e_X1_isBetter_59, e_X1_isBetter_62, e_X1_isBetter_65, e_X1_isBetter_65n, e_X1_isBetter_66, e_X1_isBetter_66n, e_X1_isBetter_67, e_X1_isBetter_70, e_X1_isBetter_73, e_X1_isBetter_75, e_X1_isBetter_76, e_X1_isBetter_76n, e_X1_isBetter_77, e_X1_isBetter_80, e_X1_isBetter_81, e_X1_isBetter_84, e_X1_isBetter_86, e_X1_isBetter_86n, e_X1_isBetter_87, e_X1_isBetter_90, e_X1_isBetter_91, e_X1_isBetter_94, e_X1_isBetter_95, e_X1_isBetter_96, e_X1_isBetter_96n, e_X1_isBetter_97, e_X1_isBetter_98, e_X1_isBetter_101, e_X1_isBetter_101n, e_X1_isBetter_102, e_X1_isBetter_104, e_X1_isBetter_107, e_X1_isBetter_108, mNl_i, mNl_r, mNl_n, mNl_l, mNl_0, mRV_s, mRV_n, tl_s, tl_n, cs_0, cs_i, cs_r, cs_n, cs_l, Nat.reduceAdd, Nat.reduceLeDiff, true_and, and_true, eq_self_iff_true, if_true, if_false, Nat.lt_irrefl, s_lit, s_eq, s_le, s_lt, nI_add, pk_mul, s_in, s_cl, bI_n, bI_zn, not_true, not_false_eq_true, true_implies, false_implies, Nat.reduceEqDiff, Nat.reduceMul, Classical.not_not, imp_self, implies_true, tt_z, t1, r0, hF.2.1, k_layC ha hF hd hs h6.1 h6.2.1, i6_0]
  exact l_bet1 ha hF (rP6_ly hd h6) ldC_of (bdC_ly hD) e1 e2 b1 b2 b3 b4 hb m 0 (by omega)
theorem k_bet0 (ha : sPup (tt n) a) (hF : sFig (tt n) F) (hd : a + 24 ≤ F) (hs : rSin I) (h6 : rP6 (blk I a) f n1 q m tk ps) (hD : bdC I F f) (e1 : L F 9 = i6 E0) (e2 : L F 10 = i6 D0) (b1 : 0 ≤ E0) (b2 : E0 ≤ 1000000000000000000) (b3 : -9223372036854775808 ≤ D0) (b4 : D0 < 9223372036854775808) (hb : ¬ bet (aeI f m) (dpI f n1) E0 D0) : C_X1_isBetter [.ref F, .ref a] (tt n, I, L) Q = Q (some (.int 0)) (tt n, lyC I F f n1, L) := by
  obtain ⟨t1, r0, r1, r2, r3, r4⟩ := ha.2.1
  simp (disch := omega) only [c_X1_isBetter, e_X1_isBetter_0, e_X1_isBetter_0n, e_X1_isBetter_1, e_X1_isBetter_1n, e_X1_isBetter_2, e_X1_isBetter_5, e_X1_isBetter_8, e_X1_isBetter_9, e_X1_isBetter_10, e_X1_isBetter_11, e_X1_isBetter_15, e_X1_isBetter_15n, e_X1_isBetter_16, e_X1_isBetter_19, e_X1_isBetter_22, e_X1_isBetter_25, e_X1_isBetter_26, e_X1_isBetter_26n, e_X1_isBetter_27, e_X1_isBetter_27n, e_X1_isBetter_28, e_X1_isBetter_31, e_X1_isBetter_33, e_X1_isBetter_33n, e_X1_isBetter_34, e_X1_isBetter_34n, e_X1_isBetter_35, e_X1_isBetter_38, e_X1_isBetter_40, e_X1_isBetter_43, e_X1_isBetter_46, e_X1_isBetter_47, e_X1_isBetter_48, e_X1_isBetter_49, e_X1_isBetter_49n, e_X1_isBetter_50, e_X1_isBetter_53, e_X1_isBetter_54, e_X1_isBetter_57, e_X1_isBetter_58, e_X1_isBetter_59, e_X1_isBetter_62, e_X1_isBetter_65, e_X1_isBetter_65n, e_X1_isBetter_66, e_X1_isBetter_66n, e_X1_isBetter_67, e_X1_isBetter_70, e_X1_isBetter_73, e_X1_isBetter_75, e_X1_isBetter_76, e_X1_isBetter_76n, e_X1_isBetter_77, e_X1_isBetter_80, e_X1_isBetter_81, e_X1_isBetter_84, e_X1_isBetter_86, e_X1_isBetter_86n, e_X1_isBetter_87, e_X1_isBetter_90, e_X1_isBetter_91, e_X1_isBetter_94, e_X1_isBetter_95, e_X1_isBetter_96, e_X1_isBetter_96n, e_X1_isBetter_97, e_X1_isBetter_98, e_X1_isBetter_101, e_X1_isBetter_101n, e_X1_isBetter_102, e_X1_isBetter_104, e_X1_isBetter_107, e_X1_isBetter_108, mNl_i, mNl_r, mNl_n, mNl_l, mNl_0, mRV_s, mRV_n, tl_s, tl_n, cs_0, cs_i, cs_r, cs_n, cs_l, Nat.reduceAdd, Nat.reduceLeDiff, true_and, and_true, eq_self_iff_true, if_true, if_false, Nat.lt_irrefl, s_lit, s_eq, s_le, s_lt, nI_add, pk_mul, s_in, s_cl, bI_n, bI_zn, not_true, not_false_eq_true, true_implies, false_implies, Nat.reduceEqDiff, Nat.reduceMul, Classical.not_not, imp_self, implies_true, tt_z, t1, r0, hF.2.1, k_layC ha hF hd hs h6.1 h6.2.1, i6_0]
  exact l_bet0 ha hF (rP6_ly hd h6) ldC_of (bdC_ly hD) e1 e2 b1 b2 b3 b4 hb m 0 (by omega) b1
end
/-! ===== one step, purely ===== -/
def bU (f : Nat → Int32) (k : Nat) (d : Int32) : Nat → Int32 := fun i => if i = 19 + k then f (19 + k) + d else f i
def okB (f : Nat → Int32) (q i : Nat) (d : Int32) : Prop := wi (spL f q i) (f (19 + i) + d) (spG f q i)
section
variable {f : Nat → Int32} {n q m i j k : Nat} {d e : Int32}
theorem bU_y : bU f k d (19 + k) = f (19 + k) + d := by unfold bU; rw [if_pos rfl]
theorem bU_n (h : i ≠ 19 + k) : bU f k d i = f i := by unfold bU; rw [if_neg h]
theorem spL_bU (hi : i < 6) : spL (bU f k d) q j = spL f q j ∨ k ≥ 6 := by
  by_cases hk : k < 6
  · left; unfold spL; rw [bU_n (by omega)]
  · right; omega
theorem okB_bU (hk : k < 6) (hj : j < 6) (hjk : j ≠ k) : okB (bU f k d) q j e = okB f q j e := by
  unfold okB spL spG
  rw [bU_n (by omega), bU_n (by omega), bU_n (by omega)]
theorem okB_in (h : fSpa f q) (hw : okB f q i d) : inR (f (19 + i) + d) (-32) 31 := by
  obtain ⟨h1, h2⟩ := hw
  have a1 := Int32.le_iff_toInt_le.mp h1
  have a2 := Int32.le_iff_toInt_le.mp h2
  unfold spL at a1
  unfold spG at a2
  by_cases e : i < q
  · rw [if_pos e] at a1 a2
    obtain ⟨⟨g1, g2⟩, g3, g4⟩ := h.2 i e
    exact ⟨by omega, by omega⟩
  · rw [if_neg e] at a1 a2
    exact ⟨a1, a2⟩
theorem fInv_bU (h : fInv f n q m) (hi : i < n) (hw : okB f q i d) : fInv (bU f i d) n q m := by
  obtain ⟨⟨h1, h2, h3, h4⟩, h5, h6, h7, h8⟩ := h
  have hin := okB_in h5 hw
  have hn := h1.1
  have hm := h4.1
  refine ⟨⟨⟨hn, fun k hk => ?_⟩, ?_, ?_, ⟨hm, fun k hk => ?_⟩⟩, ?_, ?_, ?_, ?_⟩
  · rw [bU_n (by omega), bU_n (by omega), bU_n (by omega)]
    obtain ⟨z1, z2, z3, z4⟩ := h1.2 k hk
    refine ⟨z1, z2, z3, ?_⟩
    by_cases e : k = i
    · subst e; rw [bU_y]; exact hin
    · rw [bU_n (by omega)]; exact z4
  · unfold fPin; rw [bU_n (by omega), bU_n (by omega)]; exact h2
  · unfold fCro
    rw [bU_n (by omega), bU_n (by omega), bU_n (by omega)]
    refine ⟨h3.1, h3.2.1, h3.2.2.1, fun k hk => ?_⟩
    rw [bU_n (by omega), bU_n (by omega)]
    exact h3.2.2.2 k hk
  · rw [bU_n (by omega), bU_n (by omega), bU_n (by omega), bU_n (by omega), bU_n (by omega), bU_n (by omega)]
    exact h4.2 k hk
  · have hq : q ≤ 6 := by rcases h5.1 with ⟨-, z⟩ | ⟨-, z⟩ <;> omega
    refine ⟨by rw [bU_n (by omega)]; exact h5.1, fun k hk => ?_⟩
    rw [bU_n (by omega), bU_n (by omega)]
    exact h5.2 k hk
  · rw [bU_n (by omega)]; exact h6
  · rw [bU_n (by omega)]; exact h7
  · rw [bU_n (by omega)]; exact h8
theorem bB_bU (hi : i < 6) {w : Nat} : bB (bU f i d) w j = bB f w j := by
  unfold bB
  rw [bU_n (show 40 ≠ 19 + i by omega), bU_n (show 41 ≠ 19 + i by omega), bU_n (show 42 ≠ 19 + i by omega), bU_n (show 43 + 2 * j ≠ 19 + i by omega), bU_n (show 44 + 2 * j ≠ 19 + i by omega)]
theorem bU_bU : bU (bU f i d) i (-d) = f := by
  funext k
  by_cases h : k = 19 + i
  · subst h; rw [bU_y, bU_y, ← Int32.sub_eq_add_neg, Int32.add_sub_cancel]
  · rw [bU_n h, bU_n h]
end
