/-- spans: promise 5 -/
theorem rP_spans {c c' : Nat → Nat → Int32} {f f' : Nat → Int32} {x : Int32} (h : rP c f) (hx : wi (-nI 1) x (nI 6)) (hc : ∀ off j, pAll off j = true → ¬ (off = 6 ∨ off = 7 ∨ off = 8) → c' off j = c off j) (c1 : c' 6 2 = x) (c2 : ∀ k, k < 6 → c' 7 k = -nI 32 ∧ c' 8 k = nI 31) (hf : ∀ i, i < 239 → ¬ (27 ≤ i ∧ i < 40) → f' i = f i) (f1 : f' 27 = x) (f2 : ∀ k, k < 6 → f' (28 + 2 * k) = -nI 32 ∧ f' (29 + 2 * k) = nI 31) : rP c' f' := by
  obtain ⟨n, q, m, tk, ps, hLim, hPin, hSpa, hCro, hBar, hHol, hHan, hGes, hPos⟩ := h
  have h1 : (-1 : Int) ≤ x.toInt := Int32.le_iff_toInt_le.mp hx.1
  have h2 : x.toInt ≤ 6 := Int32.le_iff_toInt_le.mp hx.2
  have hq : ∃ q' : Nat, (x = -1 ∧ q' = 0 ∨ x = nI q' ∧ q' ≤ 6) ∧ q' ≤ 6 := by
    by_cases e : x.toInt = -1
    · exact ⟨0, Or.inl ⟨Int32.toInt_inj.mp e, rfl⟩, by omega⟩
    · refine ⟨x.toInt.toNat, Or.inr ⟨Int32.toInt_inj.mp ?_, by omega⟩, by omega⟩
      rw [s_toI (by omega)]; omega
  obtain ⟨q', hq1, hq2⟩ := hq
  refine ⟨n, q', m, tk, ps, rLim_congr (hc 1 4 (by decide) (by omega)) (fun k hk => ⟨hc 2 k (pA_6 k hk).1 (by omega), hc 3 k (pA_6 k hk).2.1 (by omega), hc 4 k (pA_6 k hk).2.2.1 (by omega), hc 5 k (pA_6 k hk).2.2.2.1 (by omega)⟩) (fun i hi => hf i (by omega) (by omega)) hLim, rPin_congr (hc 1 5 (by decide) (by omega)) (hc 1 6 (by decide) (by omega)) (hf 25 (by omega) (by omega)) (hf 26 (by omega) (by omega)) (fun k hk => hf (19 + k) (by omega) (by omega)) hPin, ⟨by rw [c1, f1], by rw [f1]; exact hq1, fun k hk => ?_⟩, rCro_congr (hc 9 2 (by decide) (by omega)) (hc 9 3 (by decide) (by omega)) (hc 9 4 (by decide) (by omega)) (fun i hi hi2 => hf i (by omega) (by omega)) hCro, rBar_congr (fun k hk => ⟨hc 10 k (pA_6 k hk).2.2.2.2.2.2.1 (by omega), hc 11 k (pA_6 k hk).2.2.2.2.2.2.2 (by omega)⟩) (fun i hi hi2 => hf i (by omega) (by omega)) hBar, rHol_congr (hc 12 6 (by decide) (by omega)) (fun k hk => ⟨hc 13 k (pA_12 k hk).1 (by omega), hc 14 k (pA_12 k hk).2.1 (by omega), hc 15 k (pA_12 k hk).2.2.1 (by omega), hc 16 k (pA_12 k hk).2.2.2.1 (by omega), hc 17 k (pA_12 k hk).2.2.2.2.1 (by omega), hc 18 k (pA_12 k hk).2.2.2.2.2.1 (by omega)⟩) (fun i hi hi2 => hf i (by omega) (by omega)) hHol, rHan_congr (hc 0 5 (by decide) (by omega)) (hf 128 (by omega) (by omega)) hHan, rGes_congr (hc 19 4 (by decide) (by omega)) (fun k hk => ⟨hc 20 k (pA_12 k hk).2.2.2.2.2.2.1 (by omega), hc 21 k (pA_12 k hk).2.2.2.2.2.2.2.1 (by omega), hc 22 k (pA_12 k hk).2.2.2.2.2.2.2.2 (by omega)⟩) (fun i hi hi2 => hf i (by omega) (by omega)) hGes, rPos_congr (hc 19 5 (by decide) (by omega)) (fun k hk => hc 23 k (pA_72 k hk) (by omega)) (fun i hi hi2 => hf i (by omega) (by omega)) hPos⟩
  obtain ⟨g1, g2⟩ := c2 k (by omega)
  obtain ⟨g3, g4⟩ := f2 k (by omega)
  rw [g1, g2, g3, g4]
  exact ⟨rfl, rfl, ⟨by decide, by decide⟩, ⟨by decide, by decide⟩⟩
def fB (I : Nat → Nat → Int32) (a j : Nat) : Nat → Nat → Int32 := fun y i => if y = a + 7 ∧ j ≤ i ∧ i < 6 then -nI 32 else if y = a + 8 ∧ j ≤ i ∧ i < 6 then nI 31 else I y i
def fM (I : Nat → Nat → Int32) (b j : Nat) : Nat → Nat → Int32 := fun y i => if y = 330 ∧ b + 28 + 2 * j ≤ i ∧ i < b + 40 then (if (i - b) % 2 = 0 then -nI 32 else nI 31) else I y i
section
variable {Q : mQo} {n : Nat} {L : Nat → Nat → Int64}
theorem l_begin {t : mTT} {a : Nat} {x : Int32} (hz : mZr t = t) (ha : sPup t a) : ∀ (m j : Nat) (I : Nat → Nat → Int32), j + m = 6 → mWP tb_X9_begin Q 2 [some (.ref (a + 6)), some (.int x), some (.int (nI j))] [] (t, I, L) = mWP tb_X9_begin Q 30 [some (.ref (a + 6)), some (.int x), some (.int (nI 6))] [] (t, fB I a j, L) := by
  obtain ⟨g2, -, -, ⟨a1, a2, a3⟩, -, -, -, -, -, -, -, ⟨r1, r2⟩, ⟨r3, r4⟩, -⟩ := id ha
  intro m
  induction m with
  | zero =>
    intro j I hj
    have : j = 6 := by omega
    subst this
    have e : fB I a 6 = I := by funext y i; unfold fB; rw [if_neg (by omega), if_neg (by omega)]
    rw [e]
    simp (disch := omega) only [e_X9_begin_2, e_X9_begin_3, e_X9_begin_5, s_lit, s_le, Nat.le_refl, true_implies, not_true, false_implies, and_true]
  | succ m ih =>
    intro j I hj
    have e : fB (mUI (mUI I (a + 7) j (-nI 32)) (a + 8) j (nI 31)) a (j + 1) = fB I a j := by
      funext y i
      unfold fB mUI
      repeat' split
      all_goals first | rfl | (exfalso; omega) | skip
    rw [e_X9_begin_2]
    simp (disch := omega) only [e_X9_begin_0, e_X9_begin_1, e_X9_begin_3, e_X9_begin_5, e_X9_begin_8, e_X9_begin_8n, e_X9_begin_9, e_X9_begin_12, e_X9_begin_13, e_X9_begin_15, e_X9_begin_16, e_X9_begin_16n, e_X9_begin_17, e_X9_begin_20, e_X9_begin_21, e_X9_begin_23, e_X9_begin_24, e_X9_begin_27, e_X9_begin_31, e_X9_begin_32, e_X9_begin_35, mNl_i, mNl_r, mNl_n, mNl_l, mNl_0, mRV_s, mRV_n, tl_s, tl_n, cs_0, cs_i, cs_r, cs_n, cs_l, Nat.reduceAdd, Nat.reduceLeDiff, true_and, and_true, eq_self_iff_true, if_true, if_false, Nat.lt_irrefl, s_lit, s_eq, s_le, s_lt, nI_add, pk_mul, s_in, s_cl, bI_n, bI_zn, not_true, not_false_eq_true, true_implies, false_implies, Nat.reduceEqDiff, Nat.reduceMul, Classical.not_not, imp_self, implies_true, hz, a1, a2, a3, r1, r2, r3, r4, show (6 ≤ j) = False from eq_false (by omega), show j < 6 from by omega, show (2 ≤ a + 7) = True from eq_true (by omega), show (2 ≤ a + 8) = True from eq_true (by omega)]
    rw [ih (j + 1) _ (by omega), e]
theorem l_spans {p : Nat} {x : Int32} (hp : p < 2) : ∀ (m j : Nat) (I : Nat → Nat → Int32), j + m = 6 → mWP tb_X11_spans Q 35 [some (.ref 329), some (.int (nI p)), some (.int x), some (.int (nI j))] [] (tt n, I, L) = mWP tb_X11_spans Q 75 [some (.ref 329), some (.int (nI p)), some (.int x), some (.int (nI 6))] [] (tt n, fM I (239 * p) j, L) := by
  intro m
  induction m with
  | zero =>
    intro j I hj
    have : j = 6 := by omega
    subst this
    have e : fM I (239 * p) 6 = I := by funext y i; unfold fM; rw [if_neg (by omega)]
    rw [e]
    simp (disch := omega) only [e_X11_spans_35, e_X11_spans_36, e_X11_spans_38, s_lit, s_le, Nat.le_refl, true_implies, not_true, false_implies, and_true]
  | succ m ih =>
    intro j I hj
    have e : fM (mUI (mUI I 330 (239 * p + (28 + 2 * j)) (-nI 32)) 330 (239 * p + (28 + 2 * j + 1)) (nI 31)) (239 * p) (j + 1) = fM I (239 * p) j := by
      funext y i
      unfold fM mUI
      repeat' split
      all_goals first | rfl | (exfalso; omega) | skip
    rw [e_X11_spans_35]
    simp (disch := omega) only [e_X11_spans_0, e_X11_spans_1, e_X11_spans_4, e_X11_spans_7, e_X11_spans_8, e_X11_spans_9, e_X11_spans_11, e_X11_spans_14, e_X11_spans_17, e_X11_spans_20, e_X11_spans_21, e_X11_spans_21n, e_X11_spans_22, e_X11_spans_25, e_X11_spans_25n, e_X11_spans_26, e_X11_spans_27, e_X11_spans_29, e_X11_spans_30, e_X11_spans_33, e_X11_spans_34, e_X11_spans_36, e_X11_spans_38, e_X11_spans_41, e_X11_spans_41n, e_X11_spans_42, e_X11_spans_43, e_X11_spans_45, e_X11_spans_46, e_X11_spans_47, e_X11_spans_48, e_X11_spans_49, e_X11_spans_51, e_X11_spans_54, e_X11_spans_54n, e_X11_spans_55, e_X11_spans_56, e_X11_spans_58, e_X11_spans_59, e_X11_spans_60, e_X11_spans_61, e_X11_spans_62, e_X11_spans_63, e_X11_spans_64, e_X11_spans_66, e_X11_spans_69, e_X11_spans_72, e_X11_spans_76, e_X11_spans_77, mNl_i, mNl_r, mNl_n, mNl_l, mNl_0, mRV_s, mRV_n, tl_s, tl_n, cs_0, cs_i, cs_r, cs_n, cs_l, Nat.reduceAdd, Nat.reduceLeDiff, true_and, and_true, eq_self_iff_true, if_true, if_false, Nat.lt_irrefl, s_lit, s_eq, s_le, s_lt, nI_add, pk_mul, s_in, s_cl, bI_n, bI_zn, not_true, not_false_eq_true, true_implies, false_implies, Nat.reduceEqDiff, Nat.reduceMul, Classical.not_not, imp_self, implies_true, tt_z, tg_329, k_put, show (6 ≤ j) = False from eq_false (by omega)]
    rw [ih (j + 1) _ (by omega), e]
end
theorem op_spans {n : Nat} {xs : Nat → Int32} (pu x : Int32) : opOK n xs C_X10_spans C_X11_spans [.int pu, .int x] := by
  intro k I L hk hR
  obtain ⟨⟨hl0, hl1⟩, ⟨kp, nx, hH⟩, hC, hT⟩ := id hR
  obtain ⟨⟨hkp, hnx⟩, ⟨e1, e2, e3⟩, -⟩ := id hH
  rcases pup_cases pu with rfl | rfl | hpu
  · by_cases hp : wi (-nI 1) x (nI 6)
    · simp (disch := omega) only [c_X10_spans, e_X10_spans_0, e_X10_spans_0n, e_X10_spans_1, e_X10_spans_2, e_X10_spans_5, e_X10_spans_5n, e_X10_spans_6, e_X10_spans_6n, e_X10_spans_7, e_X10_spans_7n, e_X10_spans_10, e_X10_spans_11, e_X10_spans_12, e_X10_spans_14, e_X10_spans_17, e_X10_spans_20, e_X10_spans_23, e_X10_spans_24, e_X10_spans_24n, e_X10_spans_25, e_X10_spans_28, e_X10_spans_28n, e_X10_spans_29, e_X10_spans_32, e_X10_spans_32n, e_X10_spans_33, e_X10_spans_36, e_X10_spans_39, e_X10_spans_39n, e_X10_spans_40, e_X10_spans_43, e_X10_spans_44, e_X10_spans_47, e_X10_spans_48, e_X10_spans_49, c_X9_begin, e_X9_begin_0, e_X9_begin_1, e_X9_begin_3, e_X9_begin_5, e_X9_begin_8, e_X9_begin_8n, e_X9_begin_9, e_X9_begin_12, e_X9_begin_13, e_X9_begin_15, e_X9_begin_16, e_X9_begin_16n, e_X9_begin_17, e_X9_begin_20, e_X9_begin_21, e_X9_begin_23, e_X9_begin_24, e_X9_begin_27, e_X9_begin_30, e_X9_begin_30n, e_X9_begin_31, e_X9_begin_32, e_X9_begin_35, l_begin (a := 3) tt_z sp_3 6 0 _ rfl, mNl_i, mNl_r, mNl_n, mNl_l, mNl_0, mRV_s, mRV_n, tl_s, tl_n, cs_0, cs_i, cs_r, cs_n, cs_l, Nat.reduceAdd, Nat.reduceLeDiff, true_and, and_true, eq_self_iff_true, if_true, if_false, Nat.lt_irrefl, s_lit, s_eq, s_le, s_lt, nI_add, pk_mul, s_in, s_cl, bI_n, bI_zn, not_true, not_false_eq_true, true_implies, false_implies, Nat.reduceEqDiff, Nat.reduceMul, Classical.not_not, imp_self, implies_true, tt_z, tg_2, rf_2_0, rf_2_1, rf_2_2, rf_2_3, rf_2_4, rf_2_5, rf_2_6, rf_2_7, rf_2_8, rf_2_9, tg_51, k_puppetOf, k_isWithin, hp, k_kpC hnx hkp e1 e2, tg_3, rf_3_0, rf_3_1, rf_3_2, rf_3_3, rf_3_4, tg_9, rf_9_0, rf_9_1, tg_10, ln_10, tg_11, ln_11]
      refine ⟨_, rfl, ?_⟩
      generalize hJ : mUI (fB (kpC I kp nx) 3 0) 9 2 x = J
      have J0 : ∀ y i, ¬ (9 ≤ y ∧ y ≤ 11) → J y i = kpC I kp nx y i := fun y i h => by rw [← hJ, mUI_no (by omega)]; unfold fB; rw [if_neg (by omega), if_neg (by omega)]
      have J1 : J 9 2 = x := by rw [← hJ]; exact mUI_same
      have J2 : ∀ k, k < 6 → J 10 k = -nI 32 ∧ J 11 k = nI 31 := fun k hk => by rw [← hJ, mUI_no (by omega), mUI_no (by omega)]; unfold fB; rw [if_pos (by omega), if_neg (by omega), if_pos (by omega)]; exact ⟨rfl, rfl⟩
      have e3' : J 329 2 = nI kp := by rw [J0 _ _ (by omega), kpC_ne hnx (by omega)]; exact e3
      simp (disch := omega) only [c_X11_spans, e_X11_spans_0, e_X11_spans_1, e_X11_spans_4, e_X11_spans_7, e_X11_spans_8, e_X11_spans_9, e_X11_spans_11, e_X11_spans_14, e_X11_spans_17, e_X11_spans_20, e_X11_spans_21, e_X11_spans_21n, e_X11_spans_22, e_X11_spans_25, e_X11_spans_25n, e_X11_spans_26, e_X11_spans_27, e_X11_spans_29, e_X11_spans_30, e_X11_spans_33, e_X11_spans_34, e_X11_spans_36, e_X11_spans_38, e_X11_spans_41, e_X11_spans_41n, e_X11_spans_42, e_X11_spans_43, e_X11_spans_45, e_X11_spans_46, e_X11_spans_47, e_X11_spans_48, e_X11_spans_49, e_X11_spans_51, e_X11_spans_54, e_X11_spans_54n, e_X11_spans_55, e_X11_spans_56, e_X11_spans_58, e_X11_spans_59, e_X11_spans_60, e_X11_spans_61, e_X11_spans_62, e_X11_spans_63, e_X11_spans_64, e_X11_spans_66, e_X11_spans_69, e_X11_spans_72, e_X11_spans_75, e_X11_spans_76, e_X11_spans_77, l_spans (p := 0) (by decide) 6 0 _ rfl, mNl_i, mNl_r, mNl_n, mNl_l, mNl_0, mRV_s, mRV_n, tl_s, tl_n, cs_0, cs_i, cs_r, cs_n, cs_l, Nat.reduceAdd, Nat.reduceLeDiff, true_and, and_true, eq_self_iff_true, if_true, if_false, Nat.lt_irrefl, s_lit, s_eq, s_le, s_lt, nI_add, pk_mul, s_in, s_cl, bI_n, bI_zn, not_true, not_false_eq_true, true_implies, false_implies, Nat.reduceEqDiff, Nat.reduceMul, Classical.not_not, imp_self, implies_true, tt_z, tg_329, k_isPuppet tt_z, k_isIn, hp, pup_0, k_keepM hkp e3', k_put]
      generalize hM : fM (mUI (kpM J kp) 330 _ x) (239 * 0) 0 = M
      have M0 : ∀ y i, ¬ (y = 330 ∧ 27 ≤ i ∧ i < 40) → M y i = kpM J kp y i := fun y i h => by rw [← hM]; unfold fM; rw [if_neg (by omega), mUI_no (by omega)]
      have M1 : M 330 27 = x := by rw [← hM]; unfold fM; rw [if_neg (by omega), mUI_yes (by omega)]
      have M2 : ∀ k, k < 6 → M 330 (0 + (28 + 2 * k)) = -nI 32 ∧ M 330 (0 + (29 + 2 * k)) = nI 31 := fun k hk => by rw [← hM]; unfold fM; rw [if_pos (by omega), if_pos (by omega), if_pos (by omega), if_neg (by omega)]; exact ⟨rfl, rfl⟩
      refine rAll_kept hR hH (J := J) (fun y i h => J0 y i (by omega)) (fun y i h => M0 y i (by omega)) (rL_of0 (rP_spans (x := x) hl0 hp (fun off j hq hn => ?_) ?_ (fun k hk => ?_) (fun i hi hn => ?_) M1 M2) (rP_congr (fun off j hq => ?_) (fun i hi => ?_) hl1)) rfl
      all_goals (try have hq := pAll_lt hq)
      · show M (3 + off) j = I (3 + off) j
        rw [M0 _ _ (by omega), kpM_ne (by omega) (by omega), J0 _ _ (by omega), kpC_ne hnx (by omega)]
      · show M 9 2 = x
        rw [M0 _ _ (by omega), kpM_ne (by omega) (by omega), J1]
      · show M 10 k = _ ∧ M 11 k = _
        rw [M0 _ _ (by omega), kpM_ne (by omega) (by omega), M0 _ _ (by omega), kpM_ne (by omega) (by omega)]
        exact J2 k hk
      · show M 330 (0 + i) = I 330 (0 + i)
        rw [M0 _ _ (by omega), kpM_ne (by omega) (by omega), J0 _ _ (by omega), kpC_ne hnx (by omega)]
      · show M (27 + off) j = I (27 + off) j
        rw [M0 _ _ (by omega), kpM_ne (by omega) (by omega), J0 _ _ (by omega), kpC_ne hnx (by omega)]
      · show M 330 (239 + i) = I 330 (239 + i)
        rw [M0 _ _ (by omega), kpM_ne (by omega) (by omega), J0 _ _ (by omega), kpC_ne hnx (by omega)]
    · simp (disch := omega) only [c_X10_spans, e_X10_spans_0, e_X10_spans_0n, e_X10_spans_1, e_X10_spans_2, e_X10_spans_5, e_X10_spans_5n, e_X10_spans_6, e_X10_spans_6n, e_X10_spans_7, e_X10_spans_7n, e_X10_spans_10, e_X10_spans_11, e_X10_spans_12, e_X10_spans_14, e_X10_spans_17, e_X10_spans_20, e_X10_spans_23, e_X10_spans_24, e_X10_spans_24n, e_X10_spans_25, e_X10_spans_28, e_X10_spans_28n, e_X10_spans_29, e_X10_spans_32, e_X10_spans_32n, e_X10_spans_33, e_X10_spans_36, e_X10_spans_39, e_X10_spans_39n, e_X10_spans_40, e_X10_spans_43, e_X10_spans_44, e_X10_spans_47, e_X10_spans_48, e_X10_spans_49, mNl_i, mNl_r, mNl_n, mNl_l, mNl_0, mRV_s, mRV_n, tl_s, tl_n, cs_0, cs_i, cs_r, cs_n, cs_l, Nat.reduceAdd, Nat.reduceLeDiff, true_and, and_true, eq_self_iff_true, if_true, if_false, Nat.lt_irrefl, s_lit, s_eq, s_le, s_lt, nI_add, pk_mul, s_in, s_cl, bI_n, bI_zn, not_true, not_false_eq_true, true_implies, false_implies, Nat.reduceEqDiff, Nat.reduceMul, Classical.not_not, imp_self, implies_true, tt_z, tg_2, rf_2_0, rf_2_1, rf_2_2, rf_2_3, rf_2_4, rf_2_5, rf_2_6, rf_2_7, rf_2_8, rf_2_9, k_puppetOf, k_isWithin, hp]
      refine ⟨_, rfl, ?_⟩
      simp (disch := omega) only [c_X11_spans, e_X11_spans_0, e_X11_spans_1, e_X11_spans_4, e_X11_spans_7, e_X11_spans_8, e_X11_spans_9, e_X11_spans_11, e_X11_spans_14, e_X11_spans_17, e_X11_spans_20, e_X11_spans_21, e_X11_spans_21n, e_X11_spans_22, e_X11_spans_25, e_X11_spans_25n, e_X11_spans_26, e_X11_spans_27, e_X11_spans_29, e_X11_spans_30, e_X11_spans_33, e_X11_spans_34, e_X11_spans_35, e_X11_spans_36, e_X11_spans_38, e_X11_spans_41, e_X11_spans_41n, e_X11_spans_42, e_X11_spans_43, e_X11_spans_45, e_X11_spans_46, e_X11_spans_47, e_X11_spans_48, e_X11_spans_49, e_X11_spans_51, e_X11_spans_54, e_X11_spans_54n, e_X11_spans_55, e_X11_spans_56, e_X11_spans_58, e_X11_spans_59, e_X11_spans_60, e_X11_spans_61, e_X11_spans_62, e_X11_spans_63, e_X11_spans_64, e_X11_spans_66, e_X11_spans_69, e_X11_spans_72, e_X11_spans_75, e_X11_spans_76, e_X11_spans_77, mNl_i, mNl_r, mNl_n, mNl_l, mNl_0, mRV_s, mRV_n, tl_s, tl_n, cs_0, cs_i, cs_r, cs_n, cs_l, Nat.reduceAdd, Nat.reduceLeDiff, true_and, and_true, eq_self_iff_true, if_true, if_false, Nat.lt_irrefl, s_lit, s_eq, s_le, s_lt, nI_add, pk_mul, s_in, s_cl, bI_n, bI_zn, not_true, not_false_eq_true, true_implies, false_implies, Nat.reduceEqDiff, Nat.reduceMul, Classical.not_not, imp_self, implies_true, tt_z, tg_329, k_isPuppet tt_z, k_isIn, hp, pup_0]
      exact rAll_same hR (fun _ _ _ => rfl) rfl rfl rfl
  · by_cases hp : wi (-nI 1) x (nI 6)
    · simp (disch := omega) only [c_X10_spans, e_X10_spans_0, e_X10_spans_0n, e_X10_spans_1, e_X10_spans_2, e_X10_spans_5, e_X10_spans_5n, e_X10_spans_6, e_X10_spans_6n, e_X10_spans_7, e_X10_spans_7n, e_X10_spans_10, e_X10_spans_11, e_X10_spans_12, e_X10_spans_14, e_X10_spans_17, e_X10_spans_20, e_X10_spans_23, e_X10_spans_24, e_X10_spans_24n, e_X10_spans_25, e_X10_spans_28, e_X10_spans_28n, e_X10_spans_29, e_X10_spans_32, e_X10_spans_32n, e_X10_spans_33, e_X10_spans_36, e_X10_spans_39, e_X10_spans_39n, e_X10_spans_40, e_X10_spans_43, e_X10_spans_44, e_X10_spans_47, e_X10_spans_48, e_X10_spans_49, c_X9_begin, e_X9_begin_0, e_X9_begin_1, e_X9_begin_3, e_X9_begin_5, e_X9_begin_8, e_X9_begin_8n, e_X9_begin_9, e_X9_begin_12, e_X9_begin_13, e_X9_begin_15, e_X9_begin_16, e_X9_begin_16n, e_X9_begin_17, e_X9_begin_20, e_X9_begin_21, e_X9_begin_23, e_X9_begin_24, e_X9_begin_27, e_X9_begin_30, e_X9_begin_30n, e_X9_begin_31, e_X9_begin_32, e_X9_begin_35, l_begin (a := 27) tt_z sp_27 6 0 _ rfl, mNl_i, mNl_r, mNl_n, mNl_l, mNl_0, mRV_s, mRV_n, tl_s, tl_n, cs_0, cs_i, cs_r, cs_n, cs_l, Nat.reduceAdd, Nat.reduceLeDiff, true_and, and_true, eq_self_iff_true, if_true, if_false, Nat.lt_irrefl, s_lit, s_eq, s_le, s_lt, nI_add, pk_mul, s_in, s_cl, bI_n, bI_zn, not_true, not_false_eq_true, true_implies, false_implies, Nat.reduceEqDiff, Nat.reduceMul, Classical.not_not, imp_self, implies_true, tt_z, tg_2, rf_2_0, rf_2_1, rf_2_2, rf_2_3, rf_2_4, rf_2_5, rf_2_6, rf_2_7, rf_2_8, rf_2_9, tg_51, k_puppetOf, k_isWithin, hp, k_kpC hnx hkp e1 e2, tg_27, rf_27_0, rf_27_1, rf_27_2, rf_27_3, rf_27_4, tg_33, rf_33_0, rf_33_1, tg_34, ln_34, tg_35, ln_35]
      refine ⟨_, rfl, ?_⟩
      generalize hJ : mUI (fB (kpC I kp nx) 27 0) 33 2 x = J
      have J0 : ∀ y i, ¬ (33 ≤ y ∧ y ≤ 35) → J y i = kpC I kp nx y i := fun y i h => by rw [← hJ, mUI_no (by omega)]; unfold fB; rw [if_neg (by omega), if_neg (by omega)]
      have J1 : J 33 2 = x := by rw [← hJ]; exact mUI_same
      have J2 : ∀ k, k < 6 → J 34 k = -nI 32 ∧ J 35 k = nI 31 := fun k hk => by rw [← hJ, mUI_no (by omega), mUI_no (by omega)]; unfold fB; rw [if_pos (by omega), if_neg (by omega), if_pos (by omega)]; exact ⟨rfl, rfl⟩
      have e3' : J 329 2 = nI kp := by rw [J0 _ _ (by omega), kpC_ne hnx (by omega)]; exact e3
      simp (disch := omega) only [c_X11_spans, e_X11_spans_0, e_X11_spans_1, e_X11_spans_4, e_X11_spans_7, e_X11_spans_8, e_X11_spans_9, e_X11_spans_11, e_X11_spans_14, e_X11_spans_17, e_X11_spans_20, e_X11_spans_21, e_X11_spans_21n, e_X11_spans_22, e_X11_spans_25, e_X11_spans_25n, e_X11_spans_26, e_X11_spans_27, e_X11_spans_29, e_X11_spans_30, e_X11_spans_33, e_X11_spans_34, e_X11_spans_36, e_X11_spans_38, e_X11_spans_41, e_X11_spans_41n, e_X11_spans_42, e_X11_spans_43, e_X11_spans_45, e_X11_spans_46, e_X11_spans_47, e_X11_spans_48, e_X11_spans_49, e_X11_spans_51, e_X11_spans_54, e_X11_spans_54n, e_X11_spans_55, e_X11_spans_56, e_X11_spans_58, e_X11_spans_59, e_X11_spans_60, e_X11_spans_61, e_X11_spans_62, e_X11_spans_63, e_X11_spans_64, e_X11_spans_66, e_X11_spans_69, e_X11_spans_72, e_X11_spans_75, e_X11_spans_76, e_X11_spans_77, l_spans (p := 1) (by decide) 6 0 _ rfl, mNl_i, mNl_r, mNl_n, mNl_l, mNl_0, mRV_s, mRV_n, tl_s, tl_n, cs_0, cs_i, cs_r, cs_n, cs_l, Nat.reduceAdd, Nat.reduceLeDiff, true_and, and_true, eq_self_iff_true, if_true, if_false, Nat.lt_irrefl, s_lit, s_eq, s_le, s_lt, nI_add, pk_mul, s_in, s_cl, bI_n, bI_zn, not_true, not_false_eq_true, true_implies, false_implies, Nat.reduceEqDiff, Nat.reduceMul, Classical.not_not, imp_self, implies_true, tt_z, tg_329, k_isPuppet tt_z, k_isIn, hp, pup_1, k_keepM hkp e3', k_put]
      generalize hM : fM (mUI (kpM J kp) 330 _ x) (239 * 1) 0 = M
      have M0 : ∀ y i, ¬ (y = 330 ∧ 266 ≤ i ∧ i < 279) → M y i = kpM J kp y i := fun y i h => by rw [← hM]; unfold fM; rw [if_neg (by omega), mUI_no (by omega)]
      have M1 : M 330 266 = x := by rw [← hM]; unfold fM; rw [if_neg (by omega), mUI_yes (by omega)]
      have M2 : ∀ k, k < 6 → M 330 (239 + (28 + 2 * k)) = -nI 32 ∧ M 330 (239 + (29 + 2 * k)) = nI 31 := fun k hk => by rw [← hM]; unfold fM; rw [if_pos (by omega), if_pos (by omega), if_pos (by omega), if_neg (by omega)]; exact ⟨rfl, rfl⟩
      refine rAll_kept hR hH (J := J) (fun y i h => J0 y i (by omega)) (fun y i h => M0 y i (by omega)) (rL_of1 (rP_spans (x := x) hl1 hp (fun off j hq hn => ?_) ?_ (fun k hk => ?_) (fun i hi hn => ?_) M1 M2) (rP_congr (fun off j hq => ?_) (fun i hi => ?_) hl0)) rfl
      all_goals (try have hq := pAll_lt hq)
      · show M (27 + off) j = I (27 + off) j
        rw [M0 _ _ (by omega), kpM_ne (by omega) (by omega), J0 _ _ (by omega), kpC_ne hnx (by omega)]
      · show M 33 2 = x
        rw [M0 _ _ (by omega), kpM_ne (by omega) (by omega), J1]
      · show M 34 k = _ ∧ M 35 k = _
        rw [M0 _ _ (by omega), kpM_ne (by omega) (by omega), M0 _ _ (by omega), kpM_ne (by omega) (by omega)]
        exact J2 k hk
      · show M 330 (239 + i) = I 330 (239 + i)
        rw [M0 _ _ (by omega), kpM_ne (by omega) (by omega), J0 _ _ (by omega), kpC_ne hnx (by omega)]
      · show M (3 + off) j = I (3 + off) j
        rw [M0 _ _ (by omega), kpM_ne (by omega) (by omega), J0 _ _ (by omega), kpC_ne hnx (by omega)]
      · show M 330 (0 + i) = I 330 (0 + i)
        rw [M0 _ _ (by omega), kpM_ne (by omega) (by omega), J0 _ _ (by omega), kpC_ne hnx (by omega)]
    · simp (disch := omega) only [c_X10_spans, e_X10_spans_0, e_X10_spans_0n, e_X10_spans_1, e_X10_spans_2, e_X10_spans_5, e_X10_spans_5n, e_X10_spans_6, e_X10_spans_6n, e_X10_spans_7, e_X10_spans_7n, e_X10_spans_10, e_X10_spans_11, e_X10_spans_12, e_X10_spans_14, e_X10_spans_17, e_X10_spans_20, e_X10_spans_23, e_X10_spans_24, e_X10_spans_24n, e_X10_spans_25, e_X10_spans_28, e_X10_spans_28n, e_X10_spans_29, e_X10_spans_32, e_X10_spans_32n, e_X10_spans_33, e_X10_spans_36, e_X10_spans_39, e_X10_spans_39n, e_X10_spans_40, e_X10_spans_43, e_X10_spans_44, e_X10_spans_47, e_X10_spans_48, e_X10_spans_49, mNl_i, mNl_r, mNl_n, mNl_l, mNl_0, mRV_s, mRV_n, tl_s, tl_n, cs_0, cs_i, cs_r, cs_n, cs_l, Nat.reduceAdd, Nat.reduceLeDiff, true_and, and_true, eq_self_iff_true, if_true, if_false, Nat.lt_irrefl, s_lit, s_eq, s_le, s_lt, nI_add, pk_mul, s_in, s_cl, bI_n, bI_zn, not_true, not_false_eq_true, true_implies, false_implies, Nat.reduceEqDiff, Nat.reduceMul, Classical.not_not, imp_self, implies_true, tt_z, tg_2, rf_2_0, rf_2_1, rf_2_2, rf_2_3, rf_2_4, rf_2_5, rf_2_6, rf_2_7, rf_2_8, rf_2_9, k_puppetOf, k_isWithin, hp]
      refine ⟨_, rfl, ?_⟩
      simp (disch := omega) only [c_X11_spans, e_X11_spans_0, e_X11_spans_1, e_X11_spans_4, e_X11_spans_7, e_X11_spans_8, e_X11_spans_9, e_X11_spans_11, e_X11_spans_14, e_X11_spans_17, e_X11_spans_20, e_X11_spans_21, e_X11_spans_21n, e_X11_spans_22, e_X11_spans_25, e_X11_spans_25n, e_X11_spans_26, e_X11_spans_27, e_X11_spans_29, e_X11_spans_30, e_X11_spans_33, e_X11_spans_34, e_X11_spans_35, e_X11_spans_36, e_X11_spans_38, e_X11_spans_41, e_X11_spans_41n, e_X11_spans_42, e_X11_spans_43, e_X11_spans_45, e_X11_spans_46, e_X11_spans_47, e_X11_spans_48, e_X11_spans_49, e_X11_spans_51, e_X11_spans_54, e_X11_spans_54n, e_X11_spans_55, e_X11_spans_56, e_X11_spans_58, e_X11_spans_59, e_X11_spans_60, e_X11_spans_61, e_X11_spans_62, e_X11_spans_63, e_X11_spans_64, e_X11_spans_66, e_X11_spans_69, e_X11_spans_72, e_X11_spans_75, e_X11_spans_76, e_X11_spans_77, mNl_i, mNl_r, mNl_n, mNl_l, mNl_0, mRV_s, mRV_n, tl_s, tl_n, cs_0, cs_i, cs_r, cs_n, cs_l, Nat.reduceAdd, Nat.reduceLeDiff, true_and, and_true, eq_self_iff_true, if_true, if_false, Nat.lt_irrefl, s_lit, s_eq, s_le, s_lt, nI_add, pk_mul, s_in, s_cl, bI_n, bI_zn, not_true, not_false_eq_true, true_implies, false_implies, Nat.reduceEqDiff, Nat.reduceMul, Classical.not_not, imp_self, implies_true, tt_z, tg_329, k_isPuppet tt_z, k_isIn, hp, pup_1]
      exact rAll_same hR (fun _ _ _ => rfl) rfl rfl rfl
  · simp (disch := omega) only [c_X10_spans, e_X10_spans_0, e_X10_spans_0n, e_X10_spans_1, e_X10_spans_2, e_X10_spans_5, e_X10_spans_5n, e_X10_spans_6, e_X10_spans_6n, e_X10_spans_7, e_X10_spans_7n, e_X10_spans_10, e_X10_spans_11, e_X10_spans_12, e_X10_spans_14, e_X10_spans_17, e_X10_spans_20, e_X10_spans_23, e_X10_spans_24, e_X10_spans_24n, e_X10_spans_25, e_X10_spans_28, e_X10_spans_28n, e_X10_spans_29, e_X10_spans_32, e_X10_spans_32n, e_X10_spans_33, e_X10_spans_36, e_X10_spans_39, e_X10_spans_39n, e_X10_spans_40, e_X10_spans_43, e_X10_spans_44, e_X10_spans_47, e_X10_spans_48, e_X10_spans_49, mNl_i, mNl_r, mNl_n, mNl_l, mNl_0, mRV_s, mRV_n, tl_s, tl_n, cs_0, cs_i, cs_r, cs_n, cs_l, Nat.reduceAdd, Nat.reduceLeDiff, true_and, and_true, eq_self_iff_true, if_true, if_false, Nat.lt_irrefl, s_lit, s_eq, s_le, s_lt, nI_add, pk_mul, s_in, s_cl, bI_n, bI_zn, not_true, not_false_eq_true, true_implies, false_implies, Nat.reduceEqDiff, Nat.reduceMul, Classical.not_not, imp_self, implies_true, tt_z, tg_2, rf_2_0, rf_2_1, rf_2_2, rf_2_3, rf_2_4, rf_2_5, rf_2_6, rf_2_7, rf_2_8, rf_2_9, k_puppetOf, pup_n0 hpu, pup_n1 hpu]
    refine ⟨_, rfl, ?_⟩
    simp (disch := omega) only [c_X11_spans, e_X11_spans_0, e_X11_spans_1, e_X11_spans_4, e_X11_spans_7, e_X11_spans_8, e_X11_spans_9, e_X11_spans_11, e_X11_spans_14, e_X11_spans_17, e_X11_spans_20, e_X11_spans_21, e_X11_spans_21n, e_X11_spans_22, e_X11_spans_25, e_X11_spans_25n, e_X11_spans_26, e_X11_spans_27, e_X11_spans_29, e_X11_spans_30, e_X11_spans_33, e_X11_spans_34, e_X11_spans_35, e_X11_spans_36, e_X11_spans_38, e_X11_spans_41, e_X11_spans_41n, e_X11_spans_42, e_X11_spans_43, e_X11_spans_45, e_X11_spans_46, e_X11_spans_47, e_X11_spans_48, e_X11_spans_49, e_X11_spans_51, e_X11_spans_54, e_X11_spans_54n, e_X11_spans_55, e_X11_spans_56, e_X11_spans_58, e_X11_spans_59, e_X11_spans_60, e_X11_spans_61, e_X11_spans_62, e_X11_spans_63, e_X11_spans_64, e_X11_spans_66, e_X11_spans_69, e_X11_spans_72, e_X11_spans_75, e_X11_spans_76, e_X11_spans_77, mNl_i, mNl_r, mNl_n, mNl_l, mNl_0, mRV_s, mRV_n, tl_s, tl_n, cs_0, cs_i, cs_r, cs_n, cs_l, Nat.reduceAdd, Nat.reduceLeDiff, true_and, and_true, eq_self_iff_true, if_true, if_false, Nat.lt_irrefl, s_lit, s_eq, s_le, s_lt, nI_add, pk_mul, s_in, s_cl, bI_n, bI_zn, not_true, not_false_eq_true, true_implies, false_implies, Nat.reduceEqDiff, Nat.reduceMul, Classical.not_not, imp_self, implies_true, tt_z, tg_329, k_isPuppet tt_z, hpu]
    exact rAll_same hR (fun _ _ _ => rfl) rfl rfl rfl
