/-- count: promise 35 -/
theorem op_count {n : Nat} {xs : Nat → Int32} (w : Int32) : opOK n xs C_X10_count C_X11_count [.int w] := by
  intro k I L hk hR
  obtain ⟨⟨hl0, hl1⟩, ⟨kp, nx, hH⟩, hC, hT⟩ := id hR
  obtain ⟨⟨hkp, hnx⟩, ⟨e1, e2, e3⟩, -⟩ := id hH
  obtain ⟨r, -, c2, c3⟩ := id hC
  have a1 : I 4 4 = I 330 0 := (rP_v hl0).1
  have a2 : I 28 4 = I 330 239 := (rP_v hl1).1
  have a3 : I 15 6 = I 330 55 := (rP_v hl0).2.1
  have a4 : I 39 6 = I 330 294 := (rP_v hl1).2.1
  by_cases hw : wi (nI 0) w (nI 3)
  · have hw2 := hw
    obtain ⟨j, hj, rfl⟩ := wi_nat (by omega) hw2
    rcases (show j = 0 ∨ j = 1 ∨ j = 2 ∨ j = 3 by omega) with rfl | rfl | rfl | rfl
    all_goals (simp (disch := omega) only [c_X10_count, e_X10_count_0, e_X10_count_1, e_X10_count_32, e_X10_count_32n, e_X10_count_33, e_X10_count_36, e_X10_count_39, e_X10_count_42, e_X10_count_42n, e_X10_count_43, e_X10_count_46, e_X10_count_49, e_X10_count_52, e_X10_count_53, e_X10_count_54, e_X10_count_55, e_X10_count_55n, e_X10_count_56, e_X10_count_59, e_X10_count_62, e_X10_count_65, e_X10_count_65n, e_X10_count_66, e_X10_count_69, e_X10_count_72, e_X10_count_75, e_X10_count_76, e_X10_count_77, e_X10_count_78, e_X10_count_78n, e_X10_count_79, e_X10_count_82, e_X10_count_85, e_X10_count_86, e_X10_count_87, e_X10_count_87n, e_X10_count_88, e_X10_count_91, e_X10_count_92, e_X10_count_95, mNl_i, mNl_r, mNl_n, mNl_l, mNl_0, mRV_s, mRV_n, tl_s, tl_n, cs_0, cs_i, cs_r, cs_n, cs_l, Nat.reduceAdd, Nat.reduceLeDiff, true_and, and_true, eq_self_iff_true, if_true, if_false, Nat.lt_irrefl, s_lit, s_eq, s_le, s_lt, nI_add, pk_mul, s_in, s_cl, bI_n, bI_zn, not_true, not_false_eq_true, true_implies, false_implies, Nat.reduceEqDiff, Nat.reduceMul, Classical.not_not, imp_self, implies_true, tt_z, tg_2, rf_2_0, rf_2_1, rf_2_2, rf_2_3, rf_2_4, rf_2_5, rf_2_6, rf_2_7, rf_2_8, rf_2_9, List.forall_mem_cons, List.not_mem_nil, tg_3, rf_3_0, rf_3_1, rf_3_2, rf_3_3, rf_3_4, tg_4, rf_4_0, rf_4_1, rf_4_2, rf_4_3, tg_15, rf_15_0, rf_15_1, rf_15_2, rf_15_3, rf_15_4, rf_15_5, tg_27, rf_27_0, rf_27_1, rf_27_2, rf_27_3, rf_27_4, tg_28, rf_28_0, rf_28_1, rf_28_2, rf_28_3, tg_39, rf_39_0, rf_39_1, rf_39_2, rf_39_3, rf_39_4, rf_39_5, tg_51, e2, c3, a1, a2, a3, a4])
    all_goals (refine ⟨_, rfl, ?_⟩)
    all_goals (simp (disch := omega) only [c_X11_count, e_X11_count_0, e_X11_count_1, e_X11_count_32, e_X11_count_32n, e_X11_count_33, e_X11_count_34, e_X11_count_35, e_X11_count_38, e_X11_count_38n, e_X11_count_39, e_X11_count_40, e_X11_count_41, e_X11_count_44, e_X11_count_45, e_X11_count_46, e_X11_count_47, e_X11_count_47n, e_X11_count_48, e_X11_count_49, e_X11_count_51, e_X11_count_54, e_X11_count_54n, e_X11_count_55, e_X11_count_56, e_X11_count_58, e_X11_count_61, e_X11_count_62, e_X11_count_63, e_X11_count_64, e_X11_count_64n, e_X11_count_65, e_X11_count_68, e_X11_count_69, e_X11_count_70, e_X11_count_70n, e_X11_count_71, e_X11_count_74, e_X11_count_75, e_X11_count_76, e_X11_count_79, mNl_i, mNl_r, mNl_n, mNl_l, mNl_0, mRV_s, mRV_n, tl_s, tl_n, cs_0, cs_i, cs_r, cs_n, cs_l, Nat.reduceAdd, Nat.reduceLeDiff, true_and, and_true, eq_self_iff_true, if_true, if_false, Nat.lt_irrefl, s_lit, s_eq, s_le, s_lt, nI_add, pk_mul, s_in, s_cl, bI_n, bI_zn, not_true, not_false_eq_true, true_implies, false_implies, Nat.reduceEqDiff, Nat.reduceMul, Classical.not_not, imp_self, implies_true, tt_z, tg_329, k_get, List.forall_mem_cons, List.not_mem_nil, e3, c2])
    all_goals (exact rAll_same hR (fun _ _ _ => rfl) rfl rfl rfl)
  · have hne : ∀ j, j ≤ 3 → (w = nI j) = False := fun j hj => eq_false (fun e => hw (by rw [e]; exact ⟨by rw [s_le (by omega) (by omega)]; omega, by rw [s_le (by omega) (by omega)]; omega⟩))
    simp (disch := omega) only [c_X10_count, e_X10_count_0, e_X10_count_1, e_X10_count_32, e_X10_count_32n, e_X10_count_33, e_X10_count_36, e_X10_count_39, e_X10_count_42, e_X10_count_42n, e_X10_count_43, e_X10_count_46, e_X10_count_49, e_X10_count_52, e_X10_count_53, e_X10_count_54, e_X10_count_55, e_X10_count_55n, e_X10_count_56, e_X10_count_59, e_X10_count_62, e_X10_count_65, e_X10_count_65n, e_X10_count_66, e_X10_count_69, e_X10_count_72, e_X10_count_75, e_X10_count_76, e_X10_count_77, e_X10_count_78, e_X10_count_78n, e_X10_count_79, e_X10_count_82, e_X10_count_85, e_X10_count_86, e_X10_count_87, e_X10_count_87n, e_X10_count_88, e_X10_count_91, e_X10_count_92, e_X10_count_95, mNl_i, mNl_r, mNl_n, mNl_l, mNl_0, mRV_s, mRV_n, tl_s, tl_n, cs_0, cs_i, cs_r, cs_n, cs_l, Nat.reduceAdd, Nat.reduceLeDiff, true_and, and_true, eq_self_iff_true, if_true, if_false, Nat.lt_irrefl, s_lit, s_eq, s_le, s_lt, nI_add, pk_mul, s_in, s_cl, bI_n, bI_zn, not_true, not_false_eq_true, true_implies, false_implies, Nat.reduceEqDiff, Nat.reduceMul, Classical.not_not, imp_self, implies_true, tt_z, List.forall_mem_cons, List.not_mem_nil, hne]
    refine ⟨_, rfl, ?_⟩
    simp (disch := omega) only [c_X11_count, e_X11_count_0, e_X11_count_1, e_X11_count_32, e_X11_count_32n, e_X11_count_33, e_X11_count_34, e_X11_count_35, e_X11_count_38, e_X11_count_38n, e_X11_count_39, e_X11_count_40, e_X11_count_41, e_X11_count_44, e_X11_count_45, e_X11_count_46, e_X11_count_47, e_X11_count_47n, e_X11_count_48, e_X11_count_49, e_X11_count_51, e_X11_count_54, e_X11_count_54n, e_X11_count_55, e_X11_count_56, e_X11_count_58, e_X11_count_61, e_X11_count_62, e_X11_count_63, e_X11_count_64, e_X11_count_64n, e_X11_count_65, e_X11_count_68, e_X11_count_69, e_X11_count_70, e_X11_count_70n, e_X11_count_71, e_X11_count_74, e_X11_count_75, e_X11_count_76, e_X11_count_79, mNl_i, mNl_r, mNl_n, mNl_l, mNl_0, mRV_s, mRV_n, tl_s, tl_n, cs_0, cs_i, cs_r, cs_n, cs_l, Nat.reduceAdd, Nat.reduceLeDiff, true_and, and_true, eq_self_iff_true, if_true, if_false, Nat.lt_irrefl, s_lit, s_eq, s_le, s_lt, nI_add, pk_mul, s_in, s_cl, bI_n, bI_zn, not_true, not_false_eq_true, true_implies, false_implies, Nat.reduceEqDiff, Nat.reduceMul, Classical.not_not, imp_self, implies_true, tt_z, tg_329, List.forall_mem_cons, List.not_mem_nil, hne]
    exact rAll_same hR (fun _ _ _ => rfl) rfl rfl rfl
/-- undo: promise 34 -/
theorem op_undo {n : Nat} {xs : Nat → Int32} : opOK n xs C_X10_undo C_X11_undo [] := by
  intro k I L hk hR
  obtain ⟨⟨hl0, hl1⟩, ⟨kp, nx, hH⟩, hC, hT⟩ := id hR
  obtain ⟨⟨hkp, hnx⟩, ⟨e1, e2, e3⟩, hh⟩ := id hH
  by_cases h0 : kp = 0
  · subst h0
    simp (disch := omega) only [c_X10_undo, e_X10_undo_0, e_X10_undo_0n, e_X10_undo_1, e_X10_undo_4, e_X10_undo_7, e_X10_undo_10, e_X10_undo_13, e_X10_undo_14, e_X10_undo_14n, e_X10_undo_15, e_X10_undo_18, e_X10_undo_18n, e_X10_undo_19, e_X10_undo_22, e_X10_undo_22n, e_X10_undo_23, e_X10_undo_26, e_X10_undo_29, e_X10_undo_29n, e_X10_undo_30, e_X10_undo_33, e_X10_undo_36, e_X10_undo_37, mNl_i, mNl_r, mNl_n, mNl_l, mNl_0, mRV_s, mRV_n, tl_s, tl_n, cs_0, cs_i, cs_r, cs_n, cs_l, Nat.reduceAdd, Nat.reduceLeDiff, true_and, and_true, eq_self_iff_true, if_true, if_false, Nat.lt_irrefl, s_lit, s_eq, s_le, s_lt, nI_add, pk_mul, s_in, s_cl, bI_n, bI_zn, not_true, not_false_eq_true, true_implies, false_implies, Nat.reduceEqDiff, Nat.reduceMul, Classical.not_not, imp_self, implies_true, tt_z, tg_2, rf_2_0, rf_2_1, rf_2_2, rf_2_3, rf_2_4, rf_2_5, rf_2_6, rf_2_7, rf_2_8, rf_2_9, tg_51, e2, Nat.le_refl]
    refine ⟨_, rfl, ?_⟩
    rw [k_undoM0 e3]
    exact ⟨rfl, rfl, rAll_same hR (fun _ _ _ => rfl) rfl rfl rfl⟩
  · obtain ⟨j, rfl⟩ : ∃ j, kp = j + 1 := ⟨kp - 1, by omega⟩
    have w1 : (j + 1 ≤ 0) = False := eq_false (by omega)
    have w1' : (0 < j + 1) = True := eq_true (by omega)
    have hs : (nx + 4) % 5 < 5 := Nat.mod_lt _ (by decide)
    have w2 : nI (j + 1) - nI 1 = nI j := nI_pred j
    simp (disch := omega) only [c_X10_undo, e_X10_undo_0, e_X10_undo_0n, e_X10_undo_1, e_X10_undo_4, e_X10_undo_7, e_X10_undo_10, e_X10_undo_13, e_X10_undo_14, e_X10_undo_14n, e_X10_undo_15, e_X10_undo_18, e_X10_undo_18n, e_X10_undo_19, e_X10_undo_22, e_X10_undo_22n, e_X10_undo_23, e_X10_undo_26, e_X10_undo_29, e_X10_undo_29n, e_X10_undo_30, e_X10_undo_33, e_X10_undo_36, e_X10_undo_37, mNl_i, mNl_r, mNl_n, mNl_l, mNl_0, mRV_s, mRV_n, tl_s, tl_n, cs_0, cs_i, cs_r, cs_n, cs_l, Nat.reduceAdd, Nat.reduceLeDiff, true_and, and_true, eq_self_iff_true, if_true, if_false, Nat.lt_irrefl, s_lit, s_eq, s_le, s_lt, nI_add, pk_mul, s_in, s_cl, bI_n, bI_zn, not_true, not_false_eq_true, true_implies, false_implies, Nat.reduceEqDiff, Nat.reduceMul, Classical.not_not, imp_self, implies_true, tt_z, tg_2, rf_2_0, rf_2_1, rf_2_2, rf_2_3, rf_2_4, rf_2_5, rf_2_6, rf_2_7, rf_2_8, rf_2_9, tg_51, e2, w1, w1', k_backC hnx e1, w2, mUI_same]
    refine ⟨_, rfl, ?_⟩
    generalize hJ : mUI (hBack (mUI I 51 2 (nI ((nx + 4) % 5))) ((nx + 4) % 5)) 51 3 (nI j) = J
    have J1 : ∀ x i, 51 ≤ x → ¬ (x = 51 ∧ (i = 2 ∨ i = 3)) → J x i = I x i := fun x i h1 h2 => by rw [← hJ, mUI_no (by omega), hBack_other (by omega), mUI_no (by omega)]
    have J2 : J 51 2 = nI ((nx + 4) % 5) := by rw [← hJ, mUI_no (by omega), hBack_other (by omega), mUI_same]
    have J3 : J 51 3 = nI j := by rw [← hJ, mUI_same]
    have hB0 : ∀ off i, pAll off i = true → blk J 3 off i = blk I (hF ((nx + 4) % 5)) off i := by
      intro off i hp
      have ho := pAll_lt hp
      show J (3 + off) i = I (hF _ + off) i
      rw [← hJ, mUI_no (by omega)]
      unfold hBack
      rw [bcU_other (by omega)]
      refine (blk_bcU (a := 3) hp ho).trans ?_
      show mUI I 51 2 _ (hF _ + off) i = _
      rw [mUI_no (by unfold hF; omega)]
    have hB1 : ∀ off i, pAll off i = true → blk J 27 off i = blk I (hS ((nx + 4) % 5)) off i := by
      intro off i hp
      have ho := pAll_lt hp
      show J (27 + off) i = I (hS _ + off) i
      rw [← hJ, mUI_no (by omega)]
      unfold hBack
      refine (blk_bcU (a := 27) hp ho).trans ?_
      show bcU (mUI I 51 2 _) 3 _ pAll (hS _ + off) i = _
      rw [bcU_other (by unfold hS; omega), mUI_no (by unfold hS; omega)]
    have hJ0 : ∀ i, J 0 i = I 0 i ∧ J 1 i = I 1 i := fun i => ⟨by rw [← hJ, mUI_no (by omega), hBack_other (by omega), mUI_no (by omega)], by rw [← hJ, mUI_no (by omega), hBack_other (by omega), mUI_no (by omega)]⟩
    rw [k_undoM (kp := j) (by omega) (by rw [J1 _ _ (by omega) (by omega)]; exact e3)]
    refine ⟨rfl, rfl, ?_⟩
    show rAll n xs (k + 1) (sCopy (mUI J 329 2 (nI j)) (478 * j) 0) L
    have es : (nx + 5 - (j + 1) + j) % 5 = (nx + 4) % 5 := by omega
    obtain ⟨z1, z2⟩ := hh j (by omega)
    rw [es] at z1 z2
    have hrow : ∀ i, i < 478 → sCopy (mUI J 329 2 (nI j)) (478 * j) 0 330 i = I 331 (478 * j + i) := by
      intro i hi
      unfold sCopy
      rw [if_pos ⟨rfl, by omega, hi⟩, mUI_no (by omega), J1 _ _ (by omega) (by omega)]
    have hoth : ∀ x i, x ≠ 330 → ¬ (x = 329 ∧ i = 2) → sCopy (mUI J 329 2 (nI j)) (478 * j) 0 x i = J x i := by
      intro x i h1 h2
      unfold sCopy
      rw [if_neg (by omega), mUI_no h2]
    refine ⟨⟨rP_congr (fun off i hp => ?_) (fun i hi => ?_) z1, rP_congr (fun off i hp => ?_) (fun i hi => ?_) z2⟩, ⟨j, (nx + 4) % 5, ⟨by omega, hs⟩, ⟨?_, ?_, ?_⟩, fun i hi => ?_⟩, rC_next hC ?_ rfl, fun i hi => ?_, fun i hi => ?_⟩
    · have ho := pAll_lt hp
      refine (hoth _ _ (by omega) (by omega)).trans (hB0 off i hp)
    · show sCopy _ _ _ 330 (0 + i) = I 331 (478 * j + i)
      rw [Nat.zero_add, hrow i (by omega)]
    · have ho := pAll_lt hp
      refine (hoth _ _ (by omega) (by omega)).trans (hB1 off i hp)
    · show sCopy _ _ _ 330 (239 + i) = I 331 (478 * j + 239 + i)
      rw [hrow _ (by omega), Nat.add_assoc]
    · rw [hoth 51 2 (by omega) (by omega), J2]
    · rw [hoth 51 3 (by omega) (by omega), J3]
    · show sCopy _ _ _ 329 2 = _
      unfold sCopy
      rw [if_neg (by omega), mUI_same]
    · have e6 : ((nx + 4) % 5 + 5 - j + i) % 5 = (nx + 5 - (j + 1) + i) % 5 := by omega
      obtain ⟨y1, y2⟩ := hh i (by omega)
      rw [e6]
      have hq : (nx + 5 - (j + 1) + i) % 5 < 5 := Nat.mod_lt _ (by decide)
      refine ⟨rP_congr (fun off l hp => ?_) (fun l hl => ?_) y1, rP_congr (fun off l hp => ?_) (fun l hl => ?_) y2⟩
      · have ho := pAll_lt hp
        refine (hoth _ _ (by unfold hF; omega) (by unfold hF; omega)).trans (J1 _ _ (by unfold hF; omega) (by unfold hF; omega))
      · exact (hoth 331 _ (by omega) (by omega)).trans (J1 331 _ (by omega) (by omega))
      · have ho := pAll_lt hp
        refine (hoth _ _ (by unfold hS; omega) (by unfold hS; omega)).trans (J1 _ _ (by unfold hS; omega) (by unfold hS; omega))
      · exact (hoth 331 _ (by omega) (by omega)).trans (J1 331 _ (by omega) (by omega))
    · rw [hoth 329 3 (by omega) (by omega), J1 329 3 (by omega) (by omega)]
    · rw [hoth 332 i (by omega) (by omega), hoth 1 i (by omega) (by omega), J1 332 i (by omega) (by omega), (hJ0 i).2]
      exact hT.1 i hi
    · rw [hoth 0 i (by omega) (by omega), (hJ0 i).1]
      exact hT.2 i hi
