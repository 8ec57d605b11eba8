/-! ===== laying limbs and bars ===== -/
def lyC (I : Nat → Nat → Int32) (F : Nat) (f : Nat → Int32) (k : Nat) : Nat → Nat → Int32 := fun x j => if F < x ∧ x ≤ F + 7 ∧ j < k then i3 (G f (x - F - 1) j) else I x j
section
variable {I : Nat → Nat → Int32} {F k j x : Nat} {f : Nat → Int32}
theorem ly_1 (h : j < k) : lyC I F f k (F + 1) j = i3 (G f 0 j) := by
  unfold lyC; rw [if_pos (by omega), show F + 1 - F - 1 = 0 by omega]
theorem ly_2 (h : j < k) : lyC I F f k (F + 2) j = i3 (G f 1 j) := by
  unfold lyC; rw [if_pos (by omega), show F + 2 - F - 1 = 1 by omega]
theorem ly_3 (h : j < k) : lyC I F f k (F + 3) j = i3 (G f 2 j) := by
  unfold lyC; rw [if_pos (by omega), show F + 3 - F - 1 = 2 by omega]
theorem ly_4 (h : j < k) : lyC I F f k (F + 4) j = i3 (G f 3 j) := by
  unfold lyC; rw [if_pos (by omega), show F + 4 - F - 1 = 3 by omega]
theorem ly_5 (h : j < k) : lyC I F f k (F + 5) j = i3 (G f 4 j) := by
  unfold lyC; rw [if_pos (by omega), show F + 5 - F - 1 = 4 by omega]
theorem ly_6 (h : j < k) : lyC I F f k (F + 6) j = i3 (G f 5 j) := by
  unfold lyC; rw [if_pos (by omega), show F + 6 - F - 1 = 5 by omega]
theorem ly_7 (h : j < k) : lyC I F f k (F + 7) j = i3 (G f 6 j) := by
  unfold lyC; rw [if_pos (by omega), show F + 7 - F - 1 = 6 by omega]
theorem ly_ne (h : ¬ (F < x ∧ x ≤ F + 7 ∧ j < k)) : lyC I F f k x j = I x j := by unfold lyC; rw [if_neg h]
theorem ly_0 : lyC I F f 0 = I := by funext x j; exact ly_ne (by omega)
theorem ly_step {V1 V2 V3 V4 V5 V6 V7 : Int32} (h1 : V1 = i3 (G f 0 k)) (h2 : V2 = i3 (G f 1 k)) (h3 : V3 = i3 (G f 2 k)) (h4 : V4 = i3 (G f 3 k)) (h5 : V5 = i3 (G f 4 k)) (h6 : V6 = i3 (G f 5 k)) (h7 : V7 = i3 (G f 6 k)) : mUI (mUI (mUI (mUI (mUI (mUI (mUI (lyC I F f k) (F + 1) k V1) (F + 2) k V2) (F + 3) k V3) (F + 4) k V4) (F + 5) k V5) (F + 6) k V6) (F + 7) k V7 = lyC I F f (k + 1) := by
  funext x j
  by_cases hj : j = k
  · subst hj
    rcases (show x = F + 1 ∨ x = F + 2 ∨ x = F + 3 ∨ x = F + 4 ∨ x = F + 5 ∨ x = F + 6 ∨ x = F + 7 ∨ ¬ (F < x ∧ x ≤ F + 7) by omega) with e | e | e | e | e | e | e | e
    · subst e
      simp (disch := omega) only [mUI_no, mUI_yes, ly_1, h1]
    · subst e
      simp (disch := omega) only [mUI_no, mUI_yes, ly_2, h2]
    · subst e
      simp (disch := omega) only [mUI_no, mUI_yes, ly_3, h3]
    · subst e
      simp (disch := omega) only [mUI_no, mUI_yes, ly_4, h4]
    · subst e
      simp (disch := omega) only [mUI_no, mUI_yes, ly_5, h5]
    · subst e
      simp (disch := omega) only [mUI_no, mUI_yes, ly_6, h6]
    · subst e
      simp (disch := omega) only [mUI_no, mUI_yes, ly_7, h7]
    · simp (disch := omega) only [mUI_no, ly_ne]
  · simp (disch := omega) only [mUI_no]
    unfold lyC
    by_cases e : F < x ∧ x ≤ F + 7 ∧ j < k
    · rw [if_pos e, if_pos (by omega)]
    · rw [if_neg e, if_neg (by omega)]
end
section
variable {Q : mQo} {n : Nat} {I : Nat → Nat → Int32} {L : Nat → Nat → Int64} {f : Nat → Int32} {a F n1 : Nat}
theorem l_layC (ha : sPup (tt n) a) (hF : sFig (tt n) F) (hd : a + 24 ≤ F) (hs : rSin I) (hL : rLim (blk I a) f n1) (hP : rPin (blk I a) f) : ∀ (d k : Nat) (a3 a4 : Option Value), k + d = n1 → mWP tb_X1_layLimbs Q 2 [some (.ref F), some (.ref (a + 1)), some (.int (nI k)), a3, a4] [] (tt n, lyC I F f k, L) = Q none (tt n, lyC I F f n1, L) := by
  obtain ⟨a0, -, ⟨t1, r0, r1, r2, r3⟩, -, -, -, -, ⟨s1, s2⟩, -, ⟨s3, s4⟩, ⟨s5, s6⟩, -⟩ := id ha
  obtain ⟨F0, F1, ⟨q0, q1, q2, q3, q4, q5, q6, -, -⟩, ⟨u1, v1⟩, ⟨u2, v2⟩, ⟨u3, v3⟩, ⟨u4, v4⟩, ⟨u5, v5⟩, ⟨u6, v6⟩, ⟨u7, v7⟩, -, -⟩ := id hF
  have hn : n1 ≤ 6 := hL.1
  have c0 : I (a + 1) 4 = nI n1 := hL.2.1
  have c1 : I (a + 1) 5 = i3 (f 25).toInt := by rw [i3_t]; exact hP.1
  have c2 : I (a + 1) 6 = i3 (f 26).toInt := by rw [i3_t]; exact hP.2.1
  have hfl := fLim_of hL
  intro d
  induction d with
  | zero =>
    intro k a3 a4 hk
    have : k = n1 := by omega
    subst this
    simp (disch := omega) only [e_X1_layLimbs_0, e_X1_layLimbs_1, e_X1_layLimbs_2, e_X1_layLimbs_3, e_X1_layLimbs_3n, e_X1_layLimbs_4, e_X1_layLimbs_7, e_X1_layLimbs_11, e_X1_layLimbs_14, e_X1_layLimbs_15, e_X1_layLimbs_16, e_X1_layLimbs_17, e_X1_layLimbs_18, e_X1_layLimbs_21, e_X1_layLimbs_22, e_X1_layLimbs_23, e_X1_layLimbs_26, e_X1_layLimbs_27, e_X1_layLimbs_30, e_X1_layLimbs_31, e_X1_layLimbs_33, e_X1_layLimbs_33n, e_X1_layLimbs_34, e_X1_layLimbs_37, e_X1_layLimbs_38, e_X1_layLimbs_40, e_X1_layLimbs_43, e_X1_layLimbs_43n, e_X1_layLimbs_44, e_X1_layLimbs_47, e_X1_layLimbs_48, e_X1_layLimbs_49, e_X1_layLimbs_52, e_X1_layLimbs_53, e_X1_layLimbs_53n, e_X1_layLimbs_54, e_X1_layLimbs_57, e_X1_layLimbs_58, e_X1_layLimbs_59, e_X1_layLimbs_60, e_X1_layLimbs_62, e_X1_layLimbs_63, e_X1_layLimbs_64, e_X1_layLimbs_64n, e_X1_layLimbs_65, e_X1_layLimbs_68, e_X1_layLimbs_69, e_X1_layLimbs_69n, e_X1_layLimbs_70, e_X1_layLimbs_73, e_X1_layLimbs_74, e_X1_layLimbs_75, e_X1_layLimbs_78, e_X1_layLimbs_79, e_X1_layLimbs_79n, e_X1_layLimbs_80, e_X1_layLimbs_83, e_X1_layLimbs_84, e_X1_layLimbs_84n, e_X1_layLimbs_85, e_X1_layLimbs_88, e_X1_layLimbs_89, e_X1_layLimbs_90, e_X1_layLimbs_93, e_X1_layLimbs_94, e_X1_layLimbs_95, e_X1_layLimbs_95n, e_X1_layLimbs_96, e_X1_layLimbs_99, e_X1_layLimbs_100, e_X1_layLimbs_102, e_X1_layLimbs_105, e_X1_layLimbs_105n, e_X1_layLimbs_106, e_X1_layLimbs_109, e_X1_layLimbs_110, e_X1_layLimbs_111, e_X1_layLimbs_114, e_X1_layLimbs_117, e_X1_layLimbs_117n, e_X1_layLimbs_118, e_X1_layLimbs_121, e_X1_layLimbs_122, e_X1_layLimbs_123, e_X1_layLimbs_123n, e_X1_layLimbs_124, e_X1_layLimbs_127, e_X1_layLimbs_128, e_X1_layLimbs_130, e_X1_layLimbs_133, e_X1_layLimbs_133n, e_X1_layLimbs_134, e_X1_layLimbs_137, e_X1_layLimbs_138, e_X1_layLimbs_139, e_X1_layLimbs_142, e_X1_layLimbs_145, e_X1_layLimbs_145n, e_X1_layLimbs_146, e_X1_layLimbs_149, e_X1_layLimbs_150, e_X1_layLimbs_151, e_X1_layLimbs_151n, e_X1_layLimbs_152, e_X1_layLimbs_155, e_X1_layLimbs_156, e_X1_layLimbs_156n, e_X1_layLimbs_157, e_X1_layLimbs_158, e_X1_layLimbs_158n, e_X1_layLimbs_159, e_X1_layLimbs_162, e_X1_layLimbs_163, e_X1_layLimbs_164, e_X1_layLimbs_167, e_X1_layLimbs_168, e_X1_layLimbs_168n, e_X1_layLimbs_169, e_X1_layLimbs_172, e_X1_layLimbs_173, e_X1_layLimbs_173n, e_X1_layLimbs_174, e_X1_layLimbs_175, e_X1_layLimbs_175n, e_X1_layLimbs_176, e_X1_layLimbs_179, e_X1_layLimbs_180, e_X1_layLimbs_181, e_X1_layLimbs_184, e_X1_layLimbs_185, e_X1_layLimbs_188, e_X1_layLimbs_191, mNl_i, mNl_r, mNl_n, mNl_l, mNl_0, mRV_s, mRV_n, tl_s, tl_n, cs_0, cs_i, cs_r, cs_n, cs_l, Nat.reduceAdd, Nat.reduceLeDiff, true_and, and_true, eq_self_iff_true, if_true, if_false, Nat.lt_irrefl, s_lit, s_eq, s_le, s_lt, nI_add, pk_mul, s_in, s_cl, bI_n, bI_zn, not_true, not_false_eq_true, true_implies, false_implies, Nat.reduceEqDiff, Nat.reduceMul, Classical.not_not, imp_self, implies_true, t1, ly_ne, c0, Nat.le_refl]
  | succ d ih =>
    intro k a3 a4 hk
    have hk1 : k < n1 := by omega
    have z1 : I (a + 2) k = i3 (f (1 + k)).toInt := by rw [i3_t]; exact (hL.2.2.2 k hk1).1
    have z2 : I (a + 4) k = f (13 + k) := (hL.2.2.2 k hk1).2.2.1
    have z3 : I (a + 5) k = i3 (f (19 + k)).toInt := by rw [i3_t]; exact (hL.2.2.2 k hk1).2.2.2.1
    have hp := (hfl.2 k hk1).2.2.1
    obtain ⟨e1, e2, e5, e6⟩ := G_r2 (f := f) (k := k) (by have := hp.2; omega)
    rw [e_X1_layLimbs_2]
    rcases par_cases hfl hk1 with e | ⟨j, hj, e⟩
    · obtain ⟨g0, g3, g4⟩ := G_r0 e
      have hA : (f (13 + k) < nI 0) = True := eq_true (Int32.lt_iff_toInt_lt.mpr e)
      simp (disch := omega) only [e_X1_layLimbs_0, e_X1_layLimbs_1, e_X1_layLimbs_3, e_X1_layLimbs_3n, e_X1_layLimbs_4, e_X1_layLimbs_7, e_X1_layLimbs_10, e_X1_layLimbs_10n, e_X1_layLimbs_11, e_X1_layLimbs_14, e_X1_layLimbs_15, e_X1_layLimbs_16, e_X1_layLimbs_17, e_X1_layLimbs_18, e_X1_layLimbs_21, e_X1_layLimbs_22, e_X1_layLimbs_23, e_X1_layLimbs_26, e_X1_layLimbs_27, e_X1_layLimbs_30, e_X1_layLimbs_31, e_X1_layLimbs_33, e_X1_layLimbs_33n, e_X1_layLimbs_34, e_X1_layLimbs_37, e_X1_layLimbs_38, e_X1_layLimbs_40, e_X1_layLimbs_43, e_X1_layLimbs_43n, e_X1_layLimbs_44, e_X1_layLimbs_47, e_X1_layLimbs_48, e_X1_layLimbs_49, e_X1_layLimbs_52, e_X1_layLimbs_53, e_X1_layLimbs_53n, e_X1_layLimbs_54, e_X1_layLimbs_57, e_X1_layLimbs_58, e_X1_layLimbs_59, e_X1_layLimbs_60, e_X1_layLimbs_62, e_X1_layLimbs_63, e_X1_layLimbs_64, e_X1_layLimbs_64n, e_X1_layLimbs_65, e_X1_layLimbs_68, e_X1_layLimbs_69, e_X1_layLimbs_69n, e_X1_layLimbs_70, e_X1_layLimbs_73, e_X1_layLimbs_74, e_X1_layLimbs_75, e_X1_layLimbs_78, e_X1_layLimbs_79, e_X1_layLimbs_79n, e_X1_layLimbs_80, e_X1_layLimbs_83, e_X1_layLimbs_84, e_X1_layLimbs_84n, e_X1_layLimbs_85, e_X1_layLimbs_88, e_X1_layLimbs_89, e_X1_layLimbs_90, e_X1_layLimbs_93, e_X1_layLimbs_94, e_X1_layLimbs_95, e_X1_layLimbs_95n, e_X1_layLimbs_96, e_X1_layLimbs_99, e_X1_layLimbs_100, e_X1_layLimbs_102, e_X1_layLimbs_105, e_X1_layLimbs_105n, e_X1_layLimbs_106, e_X1_layLimbs_109, e_X1_layLimbs_110, e_X1_layLimbs_111, e_X1_layLimbs_114, e_X1_layLimbs_117, e_X1_layLimbs_117n, e_X1_layLimbs_118, e_X1_layLimbs_121, e_X1_layLimbs_122, e_X1_layLimbs_123, e_X1_layLimbs_123n, e_X1_layLimbs_124, e_X1_layLimbs_127, e_X1_layLimbs_128, e_X1_layLimbs_130, e_X1_layLimbs_133, e_X1_layLimbs_133n, e_X1_layLimbs_134, e_X1_layLimbs_137, e_X1_layLimbs_138, e_X1_layLimbs_139, e_X1_layLimbs_142, e_X1_layLimbs_145, e_X1_layLimbs_145n, e_X1_layLimbs_146, e_X1_layLimbs_149, e_X1_layLimbs_150, e_X1_layLimbs_151, e_X1_layLimbs_151n, e_X1_layLimbs_152, e_X1_layLimbs_155, e_X1_layLimbs_156, e_X1_layLimbs_156n, e_X1_layLimbs_157, e_X1_layLimbs_158, e_X1_layLimbs_158n, e_X1_layLimbs_159, e_X1_layLimbs_162, e_X1_layLimbs_163, e_X1_layLimbs_164, e_X1_layLimbs_167, e_X1_layLimbs_168, e_X1_layLimbs_168n, e_X1_layLimbs_169, e_X1_layLimbs_172, e_X1_layLimbs_173, e_X1_layLimbs_173n, e_X1_layLimbs_174, e_X1_layLimbs_175, e_X1_layLimbs_175n, e_X1_layLimbs_176, e_X1_layLimbs_179, e_X1_layLimbs_180, e_X1_layLimbs_181, e_X1_layLimbs_184, e_X1_layLimbs_185, e_X1_layLimbs_188, c_X1_spotX, e_X1_spotX_0, e_X1_spotX_0n, e_X1_spotX_1, e_X1_spotX_4, e_X1_spotX_5, e_X1_spotX_6, e_X1_spotX_7, e_X1_spotX_7n, e_X1_spotX_8, e_X1_spotX_11, e_X1_spotX_12, e_X1_spotX_13, e_X1_spotX_14, e_X1_spotX_15, c_X1_spotY, e_X1_spotY_0, e_X1_spotY_0n, e_X1_spotY_1, e_X1_spotY_4, e_X1_spotY_5, e_X1_spotY_6, e_X1_spotY_7, e_X1_spotY_7n, e_X1_spotY_8, e_X1_spotY_11, e_X1_spotY_12, e_X1_spotY_13, e_X1_spotY_14, e_X1_spotY_15, mNl_i, mNl_r, mNl_n, mNl_l, mNl_0, mRV_s, mRV_n, tl_s, tl_n, cs_0, cs_i, cs_r, cs_n, cs_l, Nat.reduceAdd, Nat.reduceLeDiff, true_and, and_true, eq_self_iff_true, if_true, if_false, Nat.lt_irrefl, s_lit, s_eq, s_le, s_lt, nI_add, pk_mul, s_in, s_cl, bI_n, bI_zn, not_true, not_false_eq_true, true_implies, false_implies, Nat.reduceEqDiff, Nat.reduceMul, Classical.not_not, imp_self, implies_true, tt_z, t1, r0, r1, r2, r3, s1, s2, s3, s4, s5, s6, F1, q0, q1, q2, q3, q4, q5, q6, u1, u2, u3, u4, u5, u6, u7, v1, v2, v3, v4, v5, v6, v7, ly_ne, mUI_no, mUI_yes, c0, c1, c2, z1, z2, z3, hA, k_sine, k_cosine, sn_1 hs, n3_add, n3_mul, i3_add, i3_mul, i3_neg, i3_and, Int.cast_ofNat_Int, Nat.le_of_lt, show (n1 ≤ k) = False from eq_false (by omega), show k < 6 from by omega, show 2 ≤ F + 1 from by omega, show 2 ≤ F + 2 from by omega, show 2 ≤ F + 3 from by omega, show 2 ≤ F + 4 from by omega, show 2 ≤ F + 5 from by omega, show 2 ≤ F + 6 from by omega, show 2 ≤ F + 7 from by omega]
      rw [ly_step, ih (k + 1) _ _ (by omega)]
      all_goals simp only [e1, e2, e5, e6, g0, g3, g4]
    · obtain ⟨g0, g3, g4⟩ := G_r1 e hj (by omega)
      simp (disch := omega) only [e_X1_layLimbs_0, e_X1_layLimbs_1, e_X1_layLimbs_3, e_X1_layLimbs_3n, e_X1_layLimbs_4, e_X1_layLimbs_7, e_X1_layLimbs_10, e_X1_layLimbs_10n, e_X1_layLimbs_11, e_X1_layLimbs_14, e_X1_layLimbs_15, e_X1_layLimbs_16, e_X1_layLimbs_17, e_X1_layLimbs_18, e_X1_layLimbs_21, e_X1_layLimbs_22, e_X1_layLimbs_23, e_X1_layLimbs_26, e_X1_layLimbs_27, e_X1_layLimbs_30, e_X1_layLimbs_31, e_X1_layLimbs_33, e_X1_layLimbs_33n, e_X1_layLimbs_34, e_X1_layLimbs_37, e_X1_layLimbs_38, e_X1_layLimbs_40, e_X1_layLimbs_43, e_X1_layLimbs_43n, e_X1_layLimbs_44, e_X1_layLimbs_47, e_X1_layLimbs_48, e_X1_layLimbs_49, e_X1_layLimbs_52, e_X1_layLimbs_53, e_X1_layLimbs_53n, e_X1_layLimbs_54, e_X1_layLimbs_57, e_X1_layLimbs_58, e_X1_layLimbs_59, e_X1_layLimbs_60, e_X1_layLimbs_62, e_X1_layLimbs_63, e_X1_layLimbs_64, e_X1_layLimbs_64n, e_X1_layLimbs_65, e_X1_layLimbs_68, e_X1_layLimbs_69, e_X1_layLimbs_69n, e_X1_layLimbs_70, e_X1_layLimbs_73, e_X1_layLimbs_74, e_X1_layLimbs_75, e_X1_layLimbs_78, e_X1_layLimbs_79, e_X1_layLimbs_79n, e_X1_layLimbs_80, e_X1_layLimbs_83, e_X1_layLimbs_84, e_X1_layLimbs_84n, e_X1_layLimbs_85, e_X1_layLimbs_88, e_X1_layLimbs_89, e_X1_layLimbs_90, e_X1_layLimbs_93, e_X1_layLimbs_94, e_X1_layLimbs_95, e_X1_layLimbs_95n, e_X1_layLimbs_96, e_X1_layLimbs_99, e_X1_layLimbs_100, e_X1_layLimbs_102, e_X1_layLimbs_105, e_X1_layLimbs_105n, e_X1_layLimbs_106, e_X1_layLimbs_109, e_X1_layLimbs_110, e_X1_layLimbs_111, e_X1_layLimbs_114, e_X1_layLimbs_117, e_X1_layLimbs_117n, e_X1_layLimbs_118, e_X1_layLimbs_121, e_X1_layLimbs_122, e_X1_layLimbs_123, e_X1_layLimbs_123n, e_X1_layLimbs_124, e_X1_layLimbs_127, e_X1_layLimbs_128, e_X1_layLimbs_130, e_X1_layLimbs_133, e_X1_layLimbs_133n, e_X1_layLimbs_134, e_X1_layLimbs_137, e_X1_layLimbs_138, e_X1_layLimbs_139, e_X1_layLimbs_142, e_X1_layLimbs_145, e_X1_layLimbs_145n, e_X1_layLimbs_146, e_X1_layLimbs_149, e_X1_layLimbs_150, e_X1_layLimbs_151, e_X1_layLimbs_151n, e_X1_layLimbs_152, e_X1_layLimbs_155, e_X1_layLimbs_156, e_X1_layLimbs_156n, e_X1_layLimbs_157, e_X1_layLimbs_158, e_X1_layLimbs_158n, e_X1_layLimbs_159, e_X1_layLimbs_162, e_X1_layLimbs_163, e_X1_layLimbs_164, e_X1_layLimbs_167, e_X1_layLimbs_168, e_X1_layLimbs_168n, e_X1_layLimbs_169, e_X1_layLimbs_172, e_X1_layLimbs_173, e_X1_layLimbs_173n, e_X1_layLimbs_174, e_X1_layLimbs_175, e_X1_layLimbs_175n, e_X1_layLimbs_176, e_X1_layLimbs_179, e_X1_layLimbs_180, e_X1_layLimbs_181, e_X1_layLimbs_184, e_X1_layLimbs_185, e_X1_layLimbs_188, c_X1_spotX, e_X1_spotX_0, e_X1_spotX_0n, e_X1_spotX_1, e_X1_spotX_4, e_X1_spotX_5, e_X1_spotX_6, e_X1_spotX_7, e_X1_spotX_7n, e_X1_spotX_8, e_X1_spotX_11, e_X1_spotX_12, e_X1_spotX_13, e_X1_spotX_14, e_X1_spotX_15, c_X1_spotY, e_X1_spotY_0, e_X1_spotY_0n, e_X1_spotY_1, e_X1_spotY_4, e_X1_spotY_5, e_X1_spotY_6, e_X1_spotY_7, e_X1_spotY_7n, e_X1_spotY_8, e_X1_spotY_11, e_X1_spotY_12, e_X1_spotY_13, e_X1_spotY_14, e_X1_spotY_15, mNl_i, mNl_r, mNl_n, mNl_l, mNl_0, mRV_s, mRV_n, tl_s, tl_n, cs_0, cs_i, cs_r, cs_n, cs_l, Nat.reduceAdd, Nat.reduceLeDiff, true_and, and_true, eq_self_iff_true, if_true, if_false, Nat.lt_irrefl, s_lit, s_eq, s_le, s_lt, nI_add, pk_mul, s_in, s_cl, bI_n, bI_zn, not_true, not_false_eq_true, true_implies, false_implies, Nat.reduceEqDiff, Nat.reduceMul, Classical.not_not, imp_self, implies_true, tt_z, t1, r0, r1, r2, r3, s1, s2, s3, s4, s5, s6, F1, q0, q1, q2, q3, q4, q5, q6, u1, u2, u3, u4, u5, u6, u7, v1, v2, v3, v4, v5, v6, v7, ly_ne, ly_1, ly_6, ly_7, mUI_no, mUI_yes, c0, c1, c2, z1, z2, z3, e, k_sine, k_cosine, sn_1 hs, n3_add, n3_mul, i3_add, i3_mul, i3_neg, i3_and, Int.cast_ofNat_Int, show (n1 ≤ k) = False from eq_false (by omega), show (j < 0) = False from eq_false (by omega), show (k ≤ j) = False from eq_false (by omega), show (1 = 0) = False from eq_false (by omega), show k < 6 from by omega, show j < 6 from by omega, show 2 ≤ F + 1 from by omega, show 2 ≤ F + 2 from by omega, show 2 ≤ F + 3 from by omega, show 2 ≤ F + 4 from by omega, show 2 ≤ F + 5 from by omega, show 2 ≤ F + 6 from by omega, show 2 ≤ F + 7 from by omega]
      rw [ly_step, ih (k + 1) _ _ (by omega)]
      all_goals simp only [e1, e2, e5, e6, g0, g3, g4]
theorem k_layC (ha : sPup (tt n) a) (hF : sFig (tt n) F) (hd : a + 24 ≤ F) (hs : rSin I) (hL : rLim (blk I a) f n1) (hP : rPin (blk I a) f) : C_X1_layLimbs [.ref F, .ref (a + 1)] (tt n, I, L) Q = Q none (tt n, lyC I F f n1, L) := by
  have h := l_layC (Q := Q) (L := L) ha hF hd hs hL hP n1 0 none none (by omega)
  rw [ly_0] at h
  simp (disch := omega) only [c_X1_layLimbs, e_X1_layLimbs_0, e_X1_layLimbs_1, mNl_i, mNl_r, mNl_n, mNl_l, mNl_0, mRV_s, mRV_n, tl_s, tl_n, cs_0, cs_i, cs_r, cs_n, cs_l, Nat.reduceAdd, Nat.reduceLeDiff, true_and, and_true, eq_self_iff_true, if_true, if_false, Nat.lt_irrefl, s_lit, s_eq, s_le, s_lt, nI_add, pk_mul, s_in, s_cl, bI_n, bI_zn, not_true, not_false_eq_true, true_implies, false_implies, Nat.reduceEqDiff, Nat.reduceMul, Classical.not_not, imp_self, implies_true, h]
end
