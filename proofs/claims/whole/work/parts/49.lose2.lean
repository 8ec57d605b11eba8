theorem op_lose {n : Nat} {xs : Nat → Int32} (pu : Int32) : opOK n xs C_X10_lose C_X11_lose [.int pu] := by
  intro k I L hk hR
  obtain ⟨⟨hl0, hl1⟩, ⟨kp, nx, hH⟩, hC, hT⟩ := id hR
  obtain ⟨⟨hkp, hnx⟩, ⟨e1, e2, e3⟩, -⟩ := id hH
  rcases pup_cases pu with rfl | rfl | hpu
  · obtain ⟨n1, q1, m1, tk, ps, h6⟩ := id hl0
    have hn1 : n1 ≤ 6 := h6.1.1
    have hm1 : m1 ≤ 12 := h6.2.2.2.2.2.1.1
    have v1 : I 4 4 = nI n1 := h6.1.2.1
    have v2 : I 330 (239 * 0 + 0) = nI n1 := h6.1.2.2.1
    have v5 : I 15 6 = nI m1 := h6.2.2.2.2.2.1.2.1
    have v6 : I 330 (239 * 0 + 55) = nI m1 := h6.2.2.2.2.2.1.2.2.1
    by_cases h0 : n1 = 0
    · subst h0
      simp (disch := omega) only [c_X10_lose, e_X10_lose_0, e_X10_lose_0n, e_X10_lose_1, e_X10_lose_2, e_X10_lose_5, e_X10_lose_5n, e_X10_lose_6, e_X10_lose_6n, e_X10_lose_7, e_X10_lose_7n, e_X10_lose_10, e_X10_lose_13, e_X10_lose_14, e_X10_lose_14n, e_X10_lose_15, e_X10_lose_18, e_X10_lose_21, e_X10_lose_24, e_X10_lose_27, e_X10_lose_28, e_X10_lose_28n, e_X10_lose_29, e_X10_lose_32, e_X10_lose_32n, e_X10_lose_33, e_X10_lose_36, e_X10_lose_36n, e_X10_lose_37, e_X10_lose_40, e_X10_lose_43, e_X10_lose_43n, e_X10_lose_44, e_X10_lose_47, e_X10_lose_48, e_X10_lose_51, e_X10_lose_51n, e_X10_lose_52, e_X10_lose_55, e_X10_lose_55n, e_X10_lose_56, e_X10_lose_59, e_X10_lose_62, e_X10_lose_63, e_X10_lose_64, e_X10_lose_67, e_X10_lose_67n, e_X10_lose_68, e_X10_lose_71, e_X10_lose_74, e_X10_lose_75, mNl_i, mNl_r, mNl_n, mNl_l, mNl_0, mRV_s, mRV_n, tl_s, tl_n, cs_0, cs_i, cs_r, cs_n, cs_l, Nat.reduceAdd, Nat.reduceLeDiff, true_and, and_true, eq_self_iff_true, if_true, if_false, Nat.lt_irrefl, s_lit, s_eq, s_le, s_lt, nI_add, pk_mul, s_in, s_cl, bI_n, bI_zn, not_true, not_false_eq_true, true_implies, false_implies, Nat.reduceEqDiff, Nat.reduceMul, Classical.not_not, imp_self, implies_true, tt_z, tg_2, rf_2_0, rf_2_1, rf_2_2, rf_2_3, rf_2_4, rf_2_5, rf_2_6, rf_2_7, rf_2_8, rf_2_9, k_puppetOf, tg_3, rf_3_0, rf_3_1, rf_3_2, rf_3_3, rf_3_4, tg_4, rf_4_0, rf_4_1, rf_4_2, rf_4_3, v1]
      refine ⟨_, rfl, ?_⟩
      simp (disch := omega) only [c_X11_lose, e_X11_lose_0, e_X11_lose_1, e_X11_lose_4, e_X11_lose_7, e_X11_lose_10, e_X11_lose_11, e_X11_lose_11n, e_X11_lose_12, e_X11_lose_13, e_X11_lose_14, e_X11_lose_17, e_X11_lose_18, e_X11_lose_19, e_X11_lose_20, e_X11_lose_21, e_X11_lose_24, e_X11_lose_27, e_X11_lose_28, e_X11_lose_28n, e_X11_lose_29, e_X11_lose_32, e_X11_lose_32n, e_X11_lose_33, e_X11_lose_34, e_X11_lose_36, e_X11_lose_39, e_X11_lose_40, e_X11_lose_41, e_X11_lose_43, e_X11_lose_46, e_X11_lose_46n, e_X11_lose_47, e_X11_lose_48, e_X11_lose_49, e_X11_lose_50, e_X11_lose_53, e_X11_lose_54, e_X11_lose_57, e_X11_lose_57n, e_X11_lose_58, e_X11_lose_59, e_X11_lose_60, e_X11_lose_63, e_X11_lose_66, e_X11_lose_69, e_X11_lose_69n, e_X11_lose_70, e_X11_lose_71, e_X11_lose_72, e_X11_lose_73, e_X11_lose_76, e_X11_lose_76n, e_X11_lose_77, e_X11_lose_78, e_X11_lose_81, e_X11_lose_82, e_X11_lose_85, e_X11_lose_85n, e_X11_lose_86, e_X11_lose_87, e_X11_lose_88, e_X11_lose_89, e_X11_lose_90, e_X11_lose_93, e_X11_lose_94, mNl_i, mNl_r, mNl_n, mNl_l, mNl_0, mRV_s, mRV_n, tl_s, tl_n, cs_0, cs_i, cs_r, cs_n, cs_l, Nat.reduceAdd, Nat.reduceLeDiff, true_and, and_true, eq_self_iff_true, if_true, if_false, Nat.lt_irrefl, s_lit, s_eq, s_le, s_lt, nI_add, pk_mul, s_in, s_cl, bI_n, bI_zn, not_true, not_false_eq_true, true_implies, false_implies, Nat.reduceEqDiff, Nat.reduceMul, Classical.not_not, imp_self, implies_true, tt_z, tg_329, k_isPuppet tt_z, pup_0, k_get, v2, show (nI 0 ≤ nI 0 - nI 1) = False from eq_false (by decide)]
      exact rAll_same hR (fun _ _ _ => rfl) rfl rfl rfl
    · obtain ⟨r, rfl⟩ : ∃ r, n1 = r + 1 := ⟨n1 - 1, by omega⟩
      have s1 : (0 < r + 1) = True := eq_true (by omega)
      have v3 : I 5 r = I 330 (239 * 0 + (1 + r)) := (h6.1.2.2.2 r (by omega)).1
      have i1 : mUI (kpC I kp nx) 22 5 (nI 0) (3 + 12) 6 = nI m1 := by rw [mUI_no (by omega), kpC_ne hnx (by omega)]; exact v5
      obtain ⟨m', hQ, hv⟩ := lo_rel (a := 3) (b := 239 * 0) (v := nI r) m1 m1 I I (Nat.le_refl _) h6 (fun h h1 h2 => absurd h1 (by omega))
      simp (disch := omega) only [c_X10_lose, e_X10_lose_0, e_X10_lose_0n, e_X10_lose_1, e_X10_lose_2, e_X10_lose_5, e_X10_lose_5n, e_X10_lose_6, e_X10_lose_6n, e_X10_lose_7, e_X10_lose_7n, e_X10_lose_10, e_X10_lose_13, e_X10_lose_14, e_X10_lose_14n, e_X10_lose_15, e_X10_lose_18, e_X10_lose_21, e_X10_lose_24, e_X10_lose_27, e_X10_lose_28, e_X10_lose_28n, e_X10_lose_29, e_X10_lose_32, e_X10_lose_32n, e_X10_lose_33, e_X10_lose_36, e_X10_lose_36n, e_X10_lose_37, e_X10_lose_40, e_X10_lose_43, e_X10_lose_43n, e_X10_lose_44, e_X10_lose_47, e_X10_lose_48, e_X10_lose_51, e_X10_lose_51n, e_X10_lose_52, e_X10_lose_55, e_X10_lose_55n, e_X10_lose_56, e_X10_lose_59, e_X10_lose_62, e_X10_lose_63, e_X10_lose_64, e_X10_lose_67, e_X10_lose_67n, e_X10_lose_68, e_X10_lose_71, e_X10_lose_74, e_X10_lose_75, mNl_i, mNl_r, mNl_n, mNl_l, mNl_0, mRV_s, mRV_n, tl_s, tl_n, cs_0, cs_i, cs_r, cs_n, cs_l, Nat.reduceAdd, Nat.reduceLeDiff, true_and, and_true, eq_self_iff_true, if_true, if_false, Nat.lt_irrefl, s_lit, s_eq, s_le, s_lt, nI_add, pk_mul, s_in, s_cl, bI_n, bI_zn, not_true, not_false_eq_true, true_implies, false_implies, Nat.reduceEqDiff, Nat.reduceMul, Classical.not_not, imp_self, implies_true, tt_z, tg_2, rf_2_0, rf_2_1, rf_2_2, rf_2_3, rf_2_4, rf_2_5, rf_2_6, rf_2_7, rf_2_8, rf_2_9, tg_51, k_puppetOf, tg_3, rf_3_0, rf_3_1, rf_3_2, rf_3_3, rf_3_4, tg_4, rf_4_0, rf_4_1, rf_4_2, rf_4_3, tg_5, ln_5, tg_15, rf_15_0, rf_15_1, rf_15_2, rf_15_3, rf_15_4, rf_15_5, tg_22, rf_22_0, rf_22_1, rf_22_2, rf_22_3, v1, v3, v5, s1, s_sub, Nat.add_sub_cancel, k_kpC hnx hkp e1 e2, mUI_no, mUI_yes, kpC_ne hnx, c_X4_removeAllOn, e_X4_removeAllOn_0, e_X4_removeAllOn_0n, e_X4_removeAllOn_1, e_X4_removeAllOn_4, e_X4_removeAllOn_5, e_X4_removeAllOn_6, e_X4_removeAllOn_8, e_X4_removeAllOn_11, e_X4_removeAllOn_11n, e_X4_removeAllOn_12, e_X4_removeAllOn_15, e_X4_removeAllOn_16, e_X4_removeAllOn_17, e_X4_removeAllOn_18, e_X4_removeAllOn_21, e_X4_removeAllOn_21n, e_X4_removeAllOn_22, e_X4_removeAllOn_23, e_X4_removeAllOn_26, e_X4_removeAllOn_29, e_X4_removeAllOn_32, l_all (a := 3) (v := nI r) tt_z sp_3 m1 m1 _ (Nat.le_refl _) hm1 i1, loC_ne, c_X5_removeLast, e_X5_removeLast_0, e_X5_removeLast_0n, e_X5_removeLast_1, e_X5_removeLast_1i, e_X5_removeLast_2, e_X5_removeLast_5, e_X5_removeLast_6, e_X5_removeLast_7, e_X5_removeLast_10, e_X5_removeLast_10n, e_X5_removeLast_11, e_X5_removeLast_14, e_X5_removeLast_14n, e_X5_removeLast_15, e_X5_removeLast_18, e_X5_removeLast_19, show r < 6 from by omega]
      refine ⟨_, rfl, ?_⟩
      generalize hJ : mUI (loC 3 (nI r) m1 m1 (mUI (kpC I kp nx) 22 5 (nI 0))).2 4 4 (nI r) = J
      have J0 : ∀ y i, ¬ (y = 4 ∧ i = 4 ∨ y = 22 ∧ i = 5 ∨ y = 15 ∧ i = 6 ∨ 16 ≤ y ∧ y ≤ 21) → J y i = kpC I kp nx y i := fun y i h => by rw [← hJ, mUI_no (by omega), loC_ne (by omega), mUI_no (by omega)]
      have J1 : J 4 4 = nI r := by rw [← hJ, mUI_yes (by omega)]
      have J2 : J 22 5 = nI 0 := by rw [← hJ, mUI_no (by omega), loC_ne (by omega), mUI_yes (by omega)]
      have J3 : ∀ y i, 15 ≤ y ∧ y ≤ 21 → J y i = (loC 3 (nI r) m1 m1 I).2 y i := fun y i h => by
        rw [← hJ, mUI_no (by omega)]
        exact loC_congr m1 m1 I _ (fun y k hy => by rw [mUI_no (by omega), kpC_ne hnx (by omega)]) y i (by omega)
      have e3' : J 329 2 = nI kp := by rw [J0 _ _ (by omega), kpC_ne hnx (by omega)]; exact e3
      have j330 : ∀ i, J 330 i = I 330 i := fun i => by rw [J0 _ _ (by omega), kpC_ne hnx (by omega)]
      have k330 : ∀ i, kpM J kp 330 i = I 330 i := fun i => by rw [kpM_ne (by omega) (by omega), j330]
      have u6 : kpM J kp 330 (239 * 0 + 55) = nI m1 := by rw [k330]; exact v6
      simp (disch := omega) only [c_X11_lose, e_X11_lose_0, e_X11_lose_1, e_X11_lose_4, e_X11_lose_7, e_X11_lose_10, e_X11_lose_11, e_X11_lose_11n, e_X11_lose_12, e_X11_lose_13, e_X11_lose_14, e_X11_lose_17, e_X11_lose_18, e_X11_lose_19, e_X11_lose_20, e_X11_lose_21, e_X11_lose_24, e_X11_lose_27, e_X11_lose_28, e_X11_lose_28n, e_X11_lose_29, e_X11_lose_32, e_X11_lose_32n, e_X11_lose_33, e_X11_lose_34, e_X11_lose_36, e_X11_lose_39, e_X11_lose_40, e_X11_lose_41, e_X11_lose_43, e_X11_lose_46, e_X11_lose_46n, e_X11_lose_47, e_X11_lose_48, e_X11_lose_49, e_X11_lose_50, e_X11_lose_53, e_X11_lose_54, e_X11_lose_57, e_X11_lose_57n, e_X11_lose_58, e_X11_lose_59, e_X11_lose_60, e_X11_lose_63, e_X11_lose_66, e_X11_lose_69, e_X11_lose_69n, e_X11_lose_70, e_X11_lose_71, e_X11_lose_72, e_X11_lose_73, e_X11_lose_76, e_X11_lose_76n, e_X11_lose_77, e_X11_lose_78, e_X11_lose_81, e_X11_lose_82, e_X11_lose_85, e_X11_lose_85n, e_X11_lose_86, e_X11_lose_87, e_X11_lose_88, e_X11_lose_89, e_X11_lose_90, e_X11_lose_93, e_X11_lose_94, mNl_i, mNl_r, mNl_n, mNl_l, mNl_0, mRV_s, mRV_n, tl_s, tl_n, cs_0, cs_i, cs_r, cs_n, cs_l, Nat.reduceAdd, Nat.reduceLeDiff, true_and, and_true, eq_self_iff_true, if_true, if_false, Nat.lt_irrefl, s_lit, s_eq, s_le, s_lt, nI_add, pk_mul, s_in, s_cl, bI_n, bI_zn, not_true, not_false_eq_true, true_implies, false_implies, Nat.reduceEqDiff, Nat.reduceMul, Classical.not_not, imp_self, implies_true, tt_z, tg_329, k_isPuppet tt_z, pup_0, k_get, k_put, j330, k330, v2, v6, s_sub, Nat.add_sub_cancel, Nat.zero_le, k_keepM hkp e3', l_lose (p := 0) (v := nI r) (by decide) m1 m1 _ (Nat.le_refl _) hm1 u6, mUI_no, loM_ne]
      generalize hM : mUI (mUI (loM (239 * 0) (nI r) m1 m1 (kpM J kp)).2 330 (239 * 0 + 0) (nI r)) 330 (239 * 0 + 166) (nI 0) = M
      have M0 : ∀ y i, ¬ (y = 330 ∧ (i = 0 ∨ i = 166 ∨ 55 ≤ i ∧ i < 122)) → M y i = kpM J kp y i := fun y i h => by rw [← hM, mUI_no (by omega), mUI_no (by omega), loM_ne (by omega)]
      have M1 : M 330 0 = nI r := by rw [← hM, mUI_no (by omega), mUI_yes (by omega)]
      have M2 : M 330 166 = nI 0 := by rw [← hM, mUI_yes (by omega)]
      have M3 : ∀ i, i < 239 → ¬ (i = 0 ∨ i = 166) → M 330 (0 + i) = (loM (239 * 0) (nI r) m1 m1 I).2 330 (0 + i) := fun i h h' => by
        rw [← hM, mUI_no (by omega), mUI_no (by omega)]
        exact loM_congr m1 m1 I _ hm1 (fun k hk => k330 k) _ (by omega)
      refine rAll_kept hR hH (J := J) (fun y i h => J0 y i (by omega)) (fun y i h => M0 y i (by omega)) (rL_of0 (rP_lose hQ hv (fun off i hq hn => ?_) ?_ ?_ (fun i hi hn => ?_) ?_ ?_) (rP_congr (fun off i hq => ?_) (fun i hi => ?_) hl1)) rfl
      · have hq := pAll_lt hq
        show M (3 + off) i = (loC 3 (nI r) m1 m1 I).2 (3 + off) i
        rw [M0 _ _ (by omega), kpM_ne (by omega) (by omega)]
        by_cases g : 12 ≤ off ∧ off ≤ 18
        · exact J3 _ _ (by omega)
        · rw [J0 _ _ (by omega), kpC_ne hnx (by omega), loC_ne (by omega)]
      · show M 4 4 = _
        rw [M0 _ _ (by omega), kpM_ne (by omega) (by omega), J1]
      · show M 22 5 = _
        rw [M0 _ _ (by omega), kpM_ne (by omega) (by omega), J2]
      · exact M3 i hi hn
      · exact M1
      · exact M2
      · have hq := pAll_lt hq
        show M (27 + off) i = I (27 + off) i
        rw [M0 _ _ (by omega), kpM_ne (by omega) (by omega), J0 _ _ (by omega), kpC_ne hnx (by omega)]
      · show M 330 (239 + i) = I 330 (239 + i)
        rw [M0 _ _ (by omega), k330]
  · obtain ⟨n1, q1, m1, tk, ps, h6⟩ := id hl1
    have hn1 : n1 ≤ 6 := h6.1.1
    have hm1 : m1 ≤ 12 := h6.2.2.2.2.2.1.1
    have v1 : I 28 4 = nI n1 := h6.1.2.1
    have v2 : I 330 (239 * 1 + 0) = nI n1 := h6.1.2.2.1
    have v5 : I 39 6 = nI m1 := h6.2.2.2.2.2.1.2.1
    have v6 : I 330 (239 * 1 + 55) = nI m1 := h6.2.2.2.2.2.1.2.2.1
    by_cases h0 : n1 = 0
    · subst h0
      simp (disch := omega) only [c_X10_lose, e_X10_lose_0, e_X10_lose_0n, e_X10_lose_1, e_X10_lose_2, e_X10_lose_5, e_X10_lose_5n, e_X10_lose_6, e_X10_lose_6n, e_X10_lose_7, e_X10_lose_7n, e_X10_lose_10, e_X10_lose_13, e_X10_lose_14, e_X10_lose_14n, e_X10_lose_15, e_X10_lose_18, e_X10_lose_21, e_X10_lose_24, e_X10_lose_27, e_X10_lose_28, e_X10_lose_28n, e_X10_lose_29, e_X10_lose_32, e_X10_lose_32n, e_X10_lose_33, e_X10_lose_36, e_X10_lose_36n, e_X10_lose_37, e_X10_lose_40, e_X10_lose_43, e_X10_lose_43n, e_X10_lose_44, e_X10_lose_47, e_X10_lose_48, e_X10_lose_51, e_X10_lose_51n, e_X10_lose_52, e_X10_lose_55, e_X10_lose_55n, e_X10_lose_56, e_X10_lose_59, e_X10_lose_62, e_X10_lose_63, e_X10_lose_64, e_X10_lose_67, e_X10_lose_67n, e_X10_lose_68, e_X10_lose_71, e_X10_lose_74, e_X10_lose_75, mNl_i, mNl_r, mNl_n, mNl_l, mNl_0, mRV_s, mRV_n, tl_s, tl_n, cs_0, cs_i, cs_r, cs_n, cs_l, Nat.reduceAdd, Nat.reduceLeDiff, true_and, and_true, eq_self_iff_true, if_true, if_false, Nat.lt_irrefl, s_lit, s_eq, s_le, s_lt, nI_add, pk_mul, s_in, s_cl, bI_n, bI_zn, not_true, not_false_eq_true, true_implies, false_implies, Nat.reduceEqDiff, Nat.reduceMul, Classical.not_not, imp_self, implies_true, tt_z, tg_2, rf_2_0, rf_2_1, rf_2_2, rf_2_3, rf_2_4, rf_2_5, rf_2_6, rf_2_7, rf_2_8, rf_2_9, k_puppetOf, tg_27, rf_27_0, rf_27_1, rf_27_2, rf_27_3, rf_27_4, tg_28, rf_28_0, rf_28_1, rf_28_2, rf_28_3, v1]
      refine ⟨_, rfl, ?_⟩
      simp (disch := omega) only [c_X11_lose, e_X11_lose_0, e_X11_lose_1, e_X11_lose_4, e_X11_lose_7, e_X11_lose_10, e_X11_lose_11, e_X11_lose_11n, e_X11_lose_12, e_X11_lose_13, e_X11_lose_14, e_X11_lose_17, e_X11_lose_18, e_X11_lose_19, e_X11_lose_20, e_X11_lose_21, e_X11_lose_24, e_X11_lose_27, e_X11_lose_28, e_X11_lose_28n, e_X11_lose_29, e_X11_lose_32, e_X11_lose_32n, e_X11_lose_33, e_X11_lose_34, e_X11_lose_36, e_X11_lose_39, e_X11_lose_40, e_X11_lose_41, e_X11_lose_43, e_X11_lose_46, e_X11_lose_46n, e_X11_lose_47, e_X11_lose_48, e_X11_lose_49, e_X11_lose_50, e_X11_lose_53, e_X11_lose_54, e_X11_lose_57, e_X11_lose_57n, e_X11_lose_58, e_X11_lose_59, e_X11_lose_60, e_X11_lose_63, e_X11_lose_66, e_X11_lose_69, e_X11_lose_69n, e_X11_lose_70, e_X11_lose_71, e_X11_lose_72, e_X11_lose_73, e_X11_lose_76, e_X11_lose_76n, e_X11_lose_77, e_X11_lose_78, e_X11_lose_81, e_X11_lose_82, e_X11_lose_85, e_X11_lose_85n, e_X11_lose_86, e_X11_lose_87, e_X11_lose_88, e_X11_lose_89, e_X11_lose_90, e_X11_lose_93, e_X11_lose_94, mNl_i, mNl_r, mNl_n, mNl_l, mNl_0, mRV_s, mRV_n, tl_s, tl_n, cs_0, cs_i, cs_r, cs_n, cs_l, Nat.reduceAdd, Nat.reduceLeDiff, true_and, and_true, eq_self_iff_true, if_true, if_false, Nat.lt_irrefl, s_lit, s_eq, s_le, s_lt, nI_add, pk_mul, s_in, s_cl, bI_n, bI_zn, not_true, not_false_eq_true, true_implies, false_implies, Nat.reduceEqDiff, Nat.reduceMul, Classical.not_not, imp_self, implies_true, tt_z, tg_329, k_isPuppet tt_z, pup_1, k_get, v2, show (nI 0 ≤ nI 0 - nI 1) = False from eq_false (by decide)]
      exact rAll_same hR (fun _ _ _ => rfl) rfl rfl rfl
    · obtain ⟨r, rfl⟩ : ∃ r, n1 = r + 1 := ⟨n1 - 1, by omega⟩
      have s1 : (0 < r + 1) = True := eq_true (by omega)
      have v3 : I 29 r = I 330 (239 * 1 + (1 + r)) := (h6.1.2.2.2 r (by omega)).1
      have i1 : mUI (kpC I kp nx) 46 5 (nI 0) (27 + 12) 6 = nI m1 := by rw [mUI_no (by omega), kpC_ne hnx (by omega)]; exact v5
      obtain ⟨m', hQ, hv⟩ := lo_rel (a := 27) (b := 239 * 1) (v := nI r) m1 m1 I I (Nat.le_refl _) h6 (fun h h1 h2 => absurd h1 (by omega))
      simp (disch := omega) only [c_X10_lose, e_X10_lose_0, e_X10_lose_0n, e_X10_lose_1, e_X10_lose_2, e_X10_lose_5, e_X10_lose_5n, e_X10_lose_6, e_X10_lose_6n, e_X10_lose_7, e_X10_lose_7n, e_X10_lose_10, e_X10_lose_13, e_X10_lose_14, e_X10_lose_14n, e_X10_lose_15, e_X10_lose_18, e_X10_lose_21, e_X10_lose_24, e_X10_lose_27, e_X10_lose_28, e_X10_lose_28n, e_X10_lose_29, e_X10_lose_32, e_X10_lose_32n, e_X10_lose_33, e_X10_lose_36, e_X10_lose_36n, e_X10_lose_37, e_X10_lose_40, e_X10_lose_43, e_X10_lose_43n, e_X10_lose_44, e_X10_lose_47, e_X10_lose_48, e_X10_lose_51, e_X10_lose_51n, e_X10_lose_52, e_X10_lose_55, e_X10_lose_55n, e_X10_lose_56, e_X10_lose_59, e_X10_lose_62, e_X10_lose_63, e_X10_lose_64, e_X10_lose_67, e_X10_lose_67n, e_X10_lose_68, e_X10_lose_71, e_X10_lose_74, e_X10_lose_75, mNl_i, mNl_r, mNl_n, mNl_l, mNl_0, mRV_s, mRV_n, tl_s, tl_n, cs_0, cs_i, cs_r, cs_n, cs_l, Nat.reduceAdd, Nat.reduceLeDiff, true_and, and_true, eq_self_iff_true, if_true, if_false, Nat.lt_irrefl, s_lit, s_eq, s_le, s_lt, nI_add, pk_mul, s_in, s_cl, bI_n, bI_zn, not_true, not_false_eq_true, true_implies, false_implies, Nat.reduceEqDiff, Nat.reduceMul, Classical.not_not, imp_self, implies_true, tt_z, tg_2, rf_2_0, rf_2_1, rf_2_2, rf_2_3, rf_2_4, rf_2_5, rf_2_6, rf_2_7, rf_2_8, rf_2_9, tg_51, k_puppetOf, tg_27, rf_27_0, rf_27_1, rf_27_2, rf_27_3, rf_27_4, tg_28, rf_28_0, rf_28_1, rf_28_2, rf_28_3, tg_29, ln_29, tg_39, rf_39_0, rf_39_1, rf_39_2, rf_39_3, rf_39_4, rf_39_5, tg_46, rf_46_0, rf_46_1, rf_46_2, rf_46_3, v1, v3, v5, s1, s_sub, Nat.add_sub_cancel, k_kpC hnx hkp e1 e2, mUI_no, mUI_yes, kpC_ne hnx, c_X4_removeAllOn, e_X4_removeAllOn_0, e_X4_removeAllOn_0n, e_X4_removeAllOn_1, e_X4_removeAllOn_4, e_X4_removeAllOn_5, e_X4_removeAllOn_6, e_X4_removeAllOn_8, e_X4_removeAllOn_11, e_X4_removeAllOn_11n, e_X4_removeAllOn_12, e_X4_removeAllOn_15, e_X4_removeAllOn_16, e_X4_removeAllOn_17, e_X4_removeAllOn_18, e_X4_removeAllOn_21, e_X4_removeAllOn_21n, e_X4_removeAllOn_22, e_X4_removeAllOn_23, e_X4_removeAllOn_26, e_X4_removeAllOn_29, e_X4_removeAllOn_32, l_all (a := 27) (v := nI r) tt_z sp_27 m1 m1 _ (Nat.le_refl _) hm1 i1, loC_ne, c_X5_removeLast, e_X5_removeLast_0, e_X5_removeLast_0n, e_X5_removeLast_1, e_X5_removeLast_1i, e_X5_removeLast_2, e_X5_removeLast_5, e_X5_removeLast_6, e_X5_removeLast_7, e_X5_removeLast_10, e_X5_removeLast_10n, e_X5_removeLast_11, e_X5_removeLast_14, e_X5_removeLast_14n, e_X5_removeLast_15, e_X5_removeLast_18, e_X5_removeLast_19, show r < 6 from by omega]
      refine ⟨_, rfl, ?_⟩
      generalize hJ : mUI (loC 27 (nI r) m1 m1 (mUI (kpC I kp nx) 46 5 (nI 0))).2 28 4 (nI r) = J
      have J0 : ∀ y i, ¬ (y = 28 ∧ i = 4 ∨ y = 46 ∧ i = 5 ∨ y = 39 ∧ i = 6 ∨ 40 ≤ y ∧ y ≤ 45) → J y i = kpC I kp nx y i := fun y i h => by rw [← hJ, mUI_no (by omega), loC_ne (by omega), mUI_no (by omega)]
      have J1 : J 28 4 = nI r := by rw [← hJ, mUI_yes (by omega)]
      have J2 : J 46 5 = nI 0 := by rw [← hJ, mUI_no (by omega), loC_ne (by omega), mUI_yes (by omega)]
      have J3 : ∀ y i, 39 ≤ y ∧ y ≤ 45 → J y i = (loC 27 (nI r) m1 m1 I).2 y i := fun y i h => by
        rw [← hJ, mUI_no (by omega)]
        exact loC_congr m1 m1 I _ (fun y k hy => by rw [mUI_no (by omega), kpC_ne hnx (by omega)]) y i (by omega)
      have e3' : J 329 2 = nI kp := by rw [J0 _ _ (by omega), kpC_ne hnx (by omega)]; exact e3
      have j330 : ∀ i, J 330 i = I 330 i := fun i => by rw [J0 _ _ (by omega), kpC_ne hnx (by omega)]
      have k330 : ∀ i, kpM J kp 330 i = I 330 i := fun i => by rw [kpM_ne (by omega) (by omega), j330]
      have u6 : kpM J kp 330 (239 * 1 + 55) = nI m1 := by rw [k330]; exact v6
      simp (disch := omega) only [c_X11_lose, e_X11_lose_0, e_X11_lose_1, e_X11_lose_4, e_X11_lose_7, e_X11_lose_10, e_X11_lose_11, e_X11_lose_11n, e_X11_lose_12, e_X11_lose_13, e_X11_lose_14, e_X11_lose_17, e_X11_lose_18, e_X11_lose_19, e_X11_lose_20, e_X11_lose_21, e_X11_lose_24, e_X11_lose_27, e_X11_lose_28, e_X11_lose_28n, e_X11_lose_29, e_X11_lose_32, e_X11_lose_32n, e_X11_lose_33, e_X11_lose_34, e_X11_lose_36, e_X11_lose_39, e_X11_lose_40, e_X11_lose_41, e_X11_lose_43, e_X11_lose_46, e_X11_lose_46n, e_X11_lose_47, e_X11_lose_48, e_X11_lose_49, e_X11_lose_50, e_X11_lose_53, e_X11_lose_54, e_X11_lose_57, e_X11_lose_57n, e_X11_lose_58, e_X11_lose_59, e_X11_lose_60, e_X11_lose_63, e_X11_lose_66, e_X11_lose_69, e_X11_lose_69n, e_X11_lose_70, e_X11_lose_71, e_X11_lose_72, e_X11_lose_73, e_X11_lose_76, e_X11_lose_76n, e_X11_lose_77, e_X11_lose_78, e_X11_lose_81, e_X11_lose_82, e_X11_lose_85, e_X11_lose_85n, e_X11_lose_86, e_X11_lose_87, e_X11_lose_88, e_X11_lose_89, e_X11_lose_90, e_X11_lose_93, e_X11_lose_94, mNl_i, mNl_r, mNl_n, mNl_l, mNl_0, mRV_s, mRV_n, tl_s, tl_n, cs_0, cs_i, cs_r, cs_n, cs_l, Nat.reduceAdd, Nat.reduceLeDiff, true_and, and_true, eq_self_iff_true, if_true, if_false, Nat.lt_irrefl, s_lit, s_eq, s_le, s_lt, nI_add, pk_mul, s_in, s_cl, bI_n, bI_zn, not_true, not_false_eq_true, true_implies, false_implies, Nat.reduceEqDiff, Nat.reduceMul, Classical.not_not, imp_self, implies_true, tt_z, tg_329, k_isPuppet tt_z, pup_1, k_get, k_put, j330, k330, v2, v6, s_sub, Nat.add_sub_cancel, Nat.zero_le, k_keepM hkp e3', l_lose (p := 1) (v := nI r) (by decide) m1 m1 _ (Nat.le_refl _) hm1 u6, mUI_no, loM_ne]
      generalize hM : mUI (mUI (loM (239 * 1) (nI r) m1 m1 (kpM J kp)).2 330 (239 * 1 + 0) (nI r)) 330 (239 * 1 + 166) (nI 0) = M
      have M0 : ∀ y i, ¬ (y = 330 ∧ (i = 239 ∨ i = 405 ∨ 294 ≤ i ∧ i < 361)) → M y i = kpM J kp y i := fun y i h => by rw [← hM, mUI_no (by omega), mUI_no (by omega), loM_ne (by omega)]
      have M1 : M 330 239 = nI r := by rw [← hM, mUI_no (by omega), mUI_yes (by omega)]
      have M2 : M 330 405 = nI 0 := by rw [← hM, mUI_yes (by omega)]
      have M3 : ∀ i, i < 239 → ¬ (i = 0 ∨ i = 166) → M 330 (239 + i) = (loM (239 * 1) (nI r) m1 m1 I).2 330 (239 + i) := fun i h h' => by
        rw [← hM, mUI_no (by omega), mUI_no (by omega)]
        exact loM_congr m1 m1 I _ hm1 (fun k hk => k330 k) _ (by omega)
      refine rAll_kept hR hH (J := J) (fun y i h => J0 y i (by omega)) (fun y i h => M0 y i (by omega)) (rL_of1 (rP_lose hQ hv (fun off i hq hn => ?_) ?_ ?_ (fun i hi hn => ?_) ?_ ?_) (rP_congr (fun off i hq => ?_) (fun i hi => ?_) hl0)) rfl
      · have hq := pAll_lt hq
        show M (27 + off) i = (loC 27 (nI r) m1 m1 I).2 (27 + off) i
        rw [M0 _ _ (by omega), kpM_ne (by omega) (by omega)]
        by_cases g : 12 ≤ off ∧ off ≤ 18
        · exact J3 _ _ (by omega)
        · rw [J0 _ _ (by omega), kpC_ne hnx (by omega), loC_ne (by omega)]
      · show M 28 4 = _
        rw [M0 _ _ (by omega), kpM_ne (by omega) (by omega), J1]
      · show M 46 5 = _
        rw [M0 _ _ (by omega), kpM_ne (by omega) (by omega), J2]
      · exact M3 i hi hn
      · exact M1
      · exact M2
      · have hq := pAll_lt hq
        show M (3 + off) i = I (3 + off) i
        rw [M0 _ _ (by omega), kpM_ne (by omega) (by omega), J0 _ _ (by omega), kpC_ne hnx (by omega)]
      · show M 330 (0 + i) = I 330 (0 + i)
        rw [M0 _ _ (by omega), k330]
  · simp (disch := omega) only [c_X10_lose, e_X10_lose_0, e_X10_lose_0n, e_X10_lose_1, e_X10_lose_2, e_X10_lose_5, e_X10_lose_5n, e_X10_lose_6, e_X10_lose_6n, e_X10_lose_7, e_X10_lose_7n, e_X10_lose_10, e_X10_lose_13, e_X10_lose_14, e_X10_lose_14n, e_X10_lose_15, e_X10_lose_18, e_X10_lose_21, e_X10_lose_24, e_X10_lose_27, e_X10_lose_28, e_X10_lose_28n, e_X10_lose_29, e_X10_lose_32, e_X10_lose_32n, e_X10_lose_33, e_X10_lose_36, e_X10_lose_36n, e_X10_lose_37, e_X10_lose_40, e_X10_lose_43, e_X10_lose_43n, e_X10_lose_44, e_X10_lose_47, e_X10_lose_48, e_X10_lose_51, e_X10_lose_51n, e_X10_lose_52, e_X10_lose_55, e_X10_lose_55n, e_X10_lose_56, e_X10_lose_59, e_X10_lose_62, e_X10_lose_63, e_X10_lose_64, e_X10_lose_67, e_X10_lose_67n, e_X10_lose_68, e_X10_lose_71, e_X10_lose_74, e_X10_lose_75, mNl_i, mNl_r, mNl_n, mNl_l, mNl_0, mRV_s, mRV_n, tl_s, tl_n, cs_0, cs_i, cs_r, cs_n, cs_l, Nat.reduceAdd, Nat.reduceLeDiff, true_and, and_true, eq_self_iff_true, if_true, if_false, Nat.lt_irrefl, s_lit, s_eq, s_le, s_lt, nI_add, pk_mul, s_in, s_cl, bI_n, bI_zn, not_true, not_false_eq_true, true_implies, false_implies, Nat.reduceEqDiff, Nat.reduceMul, Classical.not_not, imp_self, implies_true, tt_z, tg_2, rf_2_0, rf_2_1, rf_2_2, rf_2_3, rf_2_4, rf_2_5, rf_2_6, rf_2_7, rf_2_8, rf_2_9, k_puppetOf, pup_n0 hpu, pup_n1 hpu]
    refine ⟨_, rfl, ?_⟩
    simp (disch := omega) only [c_X11_lose, e_X11_lose_0, e_X11_lose_1, e_X11_lose_4, e_X11_lose_7, e_X11_lose_10, e_X11_lose_11, e_X11_lose_11n, e_X11_lose_12, e_X11_lose_13, e_X11_lose_14, e_X11_lose_17, e_X11_lose_18, e_X11_lose_19, e_X11_lose_20, e_X11_lose_21, e_X11_lose_24, e_X11_lose_27, e_X11_lose_28, e_X11_lose_28n, e_X11_lose_29, e_X11_lose_32, e_X11_lose_32n, e_X11_lose_33, e_X11_lose_34, e_X11_lose_36, e_X11_lose_39, e_X11_lose_40, e_X11_lose_41, e_X11_lose_43, e_X11_lose_46, e_X11_lose_46n, e_X11_lose_47, e_X11_lose_48, e_X11_lose_49, e_X11_lose_50, e_X11_lose_53, e_X11_lose_54, e_X11_lose_57, e_X11_lose_57n, e_X11_lose_58, e_X11_lose_59, e_X11_lose_60, e_X11_lose_63, e_X11_lose_66, e_X11_lose_69, e_X11_lose_69n, e_X11_lose_70, e_X11_lose_71, e_X11_lose_72, e_X11_lose_73, e_X11_lose_76, e_X11_lose_76n, e_X11_lose_77, e_X11_lose_78, e_X11_lose_81, e_X11_lose_82, e_X11_lose_85, e_X11_lose_85n, e_X11_lose_86, e_X11_lose_87, e_X11_lose_88, e_X11_lose_89, e_X11_lose_90, e_X11_lose_93, e_X11_lose_94, mNl_i, mNl_r, mNl_n, mNl_l, mNl_0, mRV_s, mRV_n, tl_s, tl_n, cs_0, cs_i, cs_r, cs_n, cs_l, Nat.reduceAdd, Nat.reduceLeDiff, true_and, and_true, eq_self_iff_true, if_true, if_false, Nat.lt_irrefl, s_lit, s_eq, s_le, s_lt, nI_add, pk_mul, s_in, s_cl, bI_n, bI_zn, not_true, not_false_eq_true, true_implies, false_implies, Nat.reduceEqDiff, Nat.reduceMul, Classical.not_not, imp_self, implies_true, tt_z, tg_329, k_isPuppet tt_z, hpu]
    exact rAll_same hR (fun _ _ _ => rfl) rfl rfl rfl
