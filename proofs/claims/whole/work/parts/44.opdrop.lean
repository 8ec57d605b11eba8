theorem rP_drop {c c' : Nat → Nat → Int32} {f f' : Nat → Int32} {n q m tk ps h : Nat} (hP : rP6 c f n q m tk ps) (hh : h < m) (hc : ∀ off i, pAll off i = true → ¬ (off = 12 ∧ i = 6 ∨ (13 ≤ off ∧ off ≤ 18) ∧ h ≤ i ∧ i + 1 < m) → c' off i = c off i) (c0 : c' 12 6 = nI (m - 1)) (c1 : ∀ off i, 13 ≤ off ∧ off ≤ 18 → h ≤ i → i + 1 < m → c' off i = c off (i + 1)) (hf : ∀ i, i < 239 → ¬ (i = 55 ∨ 56 + 6 * h ≤ i ∧ i < 122) → f' i = f i) (f0 : f' 55 = nI (m - 1)) (f1 : ∀ i, 56 + 6 * h ≤ i → i < 122 → f' i = f (i + 6)) : rP6 c' f' n q (m - 1) tk ps := by
  obtain ⟨hLim, hPin, hSpa, hCro, hBar, hHol, hHan, hGes, hPos⟩ := hP
  have hm := hHol.1
  refine ⟨rLim_congr (hc 1 4 (by decide) (by omega)) (fun k hk => ⟨hc 2 k (pA_6 k hk).1 (by omega), hc 3 k (pA_6 k hk).2.1 (by omega), hc 4 k (pA_6 k hk).2.2.1 (by omega), hc 5 k (pA_6 k hk).2.2.2.1 (by omega)⟩) (fun i hi => hf i (by omega) (by omega)) hLim, rPin_congr (hc 1 5 (by decide) (by omega)) (hc 1 6 (by decide) (by omega)) (hf 25 (by omega) (by omega)) (hf 26 (by omega) (by omega)) (fun k hk => hf (19 + k) (by omega) (by omega)) hPin, rSpa_congr (hc 6 2 (by decide) (by omega)) (fun k hk => ⟨hc 7 k (pA_6 k hk).2.2.2.2.1 (by omega), hc 8 k (pA_6 k hk).2.2.2.2.2.1 (by omega)⟩) (fun i hi hi2 => hf i (by omega) (by omega)) hSpa, rCro_congr (hc 9 2 (by decide) (by omega)) (hc 9 3 (by decide) (by omega)) (hc 9 4 (by decide) (by omega)) (fun i hi hi2 => hf i (by omega) (by omega)) hCro, rBar_congr (fun k hk => ⟨hc 10 k (pA_6 k hk).2.2.2.2.2.2.1 (by omega), hc 11 k (pA_6 k hk).2.2.2.2.2.2.2 (by omega)⟩) (fun i hi hi2 => hf i (by omega) (by omega)) hBar, ⟨by omega, c0, f0, fun k hk => ?_⟩, rHan_congr (hc 0 5 (by decide) (by omega)) (hf 128 (by omega) (by omega)) hHan, rGes_congr (hc 19 4 (by decide) (by omega)) (fun k hk => ⟨hc 20 k (pA_12 k hk).2.2.2.2.2.2.1 (by omega), hc 21 k (pA_12 k hk).2.2.2.2.2.2.2.1 (by omega), hc 22 k (pA_12 k hk).2.2.2.2.2.2.2.2 (by omega)⟩) (fun i hi hi2 => hf i (by omega) (by omega)) hGes, rPos_congr (hc 19 5 (by decide) (by omega)) (fun k hk => hc 23 k (pA_72 k hk) (by omega)) (fun i hi hi2 => hf i (by omega) (by omega)) hPos⟩
  by_cases e : k < h
  · obtain ⟨q1, q2, q3, q4, q5, q6, -⟩ := pA_12 k (by omega)
    rw [hc 13 k q1 (by omega), hc 14 k q2 (by omega), hc 15 k q3 (by omega), hc 16 k q4 (by omega), hc 17 k q5 (by omega), hc 18 k q6 (by omega), hf (56 + 6 * k) (by omega) (by omega), hf (57 + 6 * k) (by omega) (by omega), hf (58 + 6 * k) (by omega) (by omega), hf (59 + 6 * k) (by omega) (by omega), hf (60 + 6 * k) (by omega) (by omega), hf (61 + 6 * k) (by omega) (by omega)]
    exact hHol.2.2.2 k (by omega)
  · have g : ∀ w, w < 6 → f' (56 + w + 6 * k) = f (56 + w + 6 * (k + 1)) := fun w hw => by rw [f1 _ (by omega) (by omega)]; congr 1
    have g0 : f' (56 + 6 * k) = f (56 + 6 * (k + 1)) := g 0 (by decide)
    have g1 : f' (57 + 6 * k) = f (57 + 6 * (k + 1)) := g 1 (by decide)
    have g2 : f' (58 + 6 * k) = f (58 + 6 * (k + 1)) := g 2 (by decide)
    have g3 : f' (59 + 6 * k) = f (59 + 6 * (k + 1)) := g 3 (by decide)
    have g4 : f' (60 + 6 * k) = f (60 + 6 * (k + 1)) := g 4 (by decide)
    have g5 : f' (61 + 6 * k) = f (61 + 6 * (k + 1)) := g 5 (by decide)
    rw [c1 13 k (by omega) (by omega) (by omega), c1 14 k (by omega) (by omega) (by omega), c1 15 k (by omega) (by omega) (by omega), c1 16 k (by omega) (by omega) (by omega), c1 17 k (by omega) (by omega) (by omega), c1 18 k (by omega) (by omega) (by omega), g0, g1, g2, g3, g4, g5]
    exact hHol.2.2.2 (k + 1) (by omega)
theorem rmC_ne {I : Nat → Nat → Int32} {a h m y k : Nat} (hn : ¬ (y = a + 12 ∧ k = 6 ∨ (a + 13 ≤ y ∧ y ≤ a + 18) ∧ h ≤ k ∧ k + 1 < m)) : rmC I a h m y k = I y k := by unfold rmC; rw [if_neg (by omega), if_neg (by omega)]
theorem rmC_6 {I : Nat → Nat → Int32} {a h m : Nat} : rmC I a h m (a + 12) 6 = nI (m - 1) := by unfold rmC; rw [if_pos ⟨rfl, rfl⟩]
theorem rmC_s {I : Nat → Nat → Int32} {a h m y k : Nat} (hn : (a + 13 ≤ y ∧ y ≤ a + 18) ∧ h ≤ k ∧ k + 1 < m) : rmC I a h m y k = I y (k + 1) := by unfold rmC; rw [if_neg (by omega), if_pos hn]
theorem dpM_ne {I : Nat → Nat → Int32} {b h m y k : Nat} (hn : ¬ (y = 330 ∧ (k = b + 55 ∨ b + (56 + 6 * h) ≤ k ∧ k < b + 122))) : dpM I b h m y k = I y k := by unfold dpM; rw [if_neg (by omega), if_neg (by omega)]
theorem dpM_6 {I : Nat → Nat → Int32} {b h m : Nat} : dpM I b h m 330 (b + 55) = nI (m - 1) := by unfold dpM; rw [if_pos ⟨rfl, rfl⟩]
theorem dpM_s {I : Nat → Nat → Int32} {b h m k : Nat} (hn : b + (56 + 6 * h) ≤ k ∧ k < b + 122) : dpM I b h m 330 k = I 330 (k + 6) := by unfold dpM; rw [if_neg (by omega), if_pos ⟨rfl, hn⟩]
theorem op_drop {n : Nat} {xs : Nat → Int32} (pu hd : Int32) : opOK n xs C_X10_drop C_X11_drop [.int pu, .int hd] := by
  intro k I L hk hR
  obtain ⟨⟨hl0, hl1⟩, ⟨kp, nx, hH⟩, hC, hT⟩ := id hR
  obtain ⟨⟨hkp, hnx⟩, ⟨e1, e2, e3⟩, -⟩ := id hH
  rcases pup_cases pu with rfl | rfl | hpu
  · obtain ⟨n1, q1, m1, tk1, ps, h6⟩ := id hl0
    have hm1 : m1 ≤ 12 := h6.2.2.2.2.2.1.1
    have v1 : I 15 6 = nI m1 := h6.2.2.2.2.2.1.2.1
    have v2 : I 330 (239 * 0 + 55) = nI m1 := h6.2.2.2.2.2.1.2.2.1
    by_cases hb : lmb hd m1
    · have hb2 := hb
      obtain ⟨j, hj, rfl⟩ := hb2
      obtain ⟨w1, -⟩ := hol_v (p := 0) (a := 3) h6 hj
      have w1 : I 16 j = ofM I 0 j 0 := w1
      have v1' : kpC I kp nx (3 + 12) 6 = nI m1 := by rw [kpC_ne hnx (by omega)]; exact v1
      simp (disch := omega) only [c_X10_drop, e_X10_drop_0, e_X10_drop_0n, e_X10_drop_1, e_X10_drop_2, e_X10_drop_5, e_X10_drop_5n, e_X10_drop_6, e_X10_drop_6n, e_X10_drop_7, e_X10_drop_7n, e_X10_drop_10, e_X10_drop_10n, e_X10_drop_11, e_X10_drop_14, e_X10_drop_15, e_X10_drop_18, e_X10_drop_21, e_X10_drop_24, e_X10_drop_25, e_X10_drop_25n, e_X10_drop_26, e_X10_drop_29, e_X10_drop_29n, e_X10_drop_30, e_X10_drop_33, e_X10_drop_33n, e_X10_drop_34, e_X10_drop_37, e_X10_drop_40, e_X10_drop_40n, e_X10_drop_41, e_X10_drop_44, e_X10_drop_47, e_X10_drop_48, e_X10_drop_49, e_X10_drop_51, e_X10_drop_51n, e_X10_drop_52, e_X10_drop_55, e_X10_drop_56, e_X10_drop_59, e_X10_drop_61, e_X10_drop_62, mNl_i, mNl_r, mNl_n, mNl_l, mNl_0, mRV_s, mRV_n, tl_s, tl_n, cs_0, cs_i, cs_r, cs_n, cs_l, Nat.reduceAdd, Nat.reduceLeDiff, true_and, and_true, eq_self_iff_true, if_true, if_false, Nat.lt_irrefl, s_lit, s_eq, s_le, s_lt, nI_add, pk_mul, s_in, s_cl, bI_n, bI_zn, not_true, not_false_eq_true, true_implies, false_implies, Nat.reduceEqDiff, Nat.reduceMul, Classical.not_not, imp_self, implies_true, tt_z, tg_2, rf_2_0, rf_2_1, rf_2_2, rf_2_3, rf_2_4, rf_2_5, rf_2_6, rf_2_7, rf_2_8, rf_2_9, tg_51, k_puppetOf, k_hasH (t := tt n) (o := 15) tg_15 v1, hb, k_kpC hnx hkp e1 e2, tg_3, rf_3_0, rf_3_1, rf_3_2, rf_3_3, rf_3_4, tg_15, rf_15_0, rf_15_1, rf_15_2, rf_15_3, rf_15_4, rf_15_5, tg_16, ln_16, tg_17, ln_17, tg_18, ln_18, tg_19, ln_19, tg_20, ln_20, tg_21, ln_21, kpC_ne hnx, w1, show j < 12 from by omega, k_remove (a := 3) tt_z sp_3 hm1 v1' hj]
      refine ⟨_, rfl, ?_⟩
      generalize hJ : rmC (kpC I kp nx) 3 j m1 = J
      have J0 : ∀ y i, ¬ (y = 15 ∧ i = 6 ∨ (16 ≤ y ∧ y ≤ 21) ∧ j ≤ i ∧ i + 1 < m1) → J y i = kpC I kp nx y i := fun y i h => by rw [← hJ]; exact rmC_ne (by omega)
      have J1 : J 15 6 = nI (m1 - 1) := by rw [← hJ]; exact rmC_6
      have J2 : ∀ y i, (16 ≤ y ∧ y ≤ 21) ∧ j ≤ i ∧ i + 1 < m1 → J y i = kpC I kp nx y (i + 1) := fun y i h => by rw [← hJ]; exact rmC_s (by omega)
      have e3' : J 329 2 = nI kp := by rw [J0 _ _ (by omega), kpC_ne hnx (by omega)]; exact e3
      have u2 : J 330 (239 * 0 + 55) = nI m1 := by rw [J0 _ _ (by omega), kpC_ne hnx (by omega)]; exact v2
      have u3 : kpM J kp 330 (239 * 0 + 55) = nI m1 := by rw [kpM_ne (by omega) (by omega)]; exact u2
      have u4 : ofM J 0 j 0 = ofM I 0 j 0 := by unfold ofM; rw [J0 _ _ (by omega), kpC_ne hnx (by omega)]
      simp (disch := omega) only [c_X11_drop, e_X11_drop_0, e_X11_drop_0n, e_X11_drop_1, e_X11_drop_2, e_X11_drop_3, e_X11_drop_6, e_X11_drop_9, e_X11_drop_12, e_X11_drop_13, e_X11_drop_13n, e_X11_drop_14, e_X11_drop_17, e_X11_drop_17n, e_X11_drop_18, e_X11_drop_19, e_X11_drop_20, e_X11_drop_21, e_X11_drop_24, e_X11_drop_25, e_X11_drop_26, e_X11_drop_26n, e_X11_drop_27, e_X11_drop_28, e_X11_drop_29, e_X11_drop_32, e_X11_drop_33, mNl_i, mNl_r, mNl_n, mNl_l, mNl_0, mRV_s, mRV_n, tl_s, tl_n, cs_0, cs_i, cs_r, cs_n, cs_l, Nat.reduceAdd, Nat.reduceLeDiff, true_and, and_true, eq_self_iff_true, if_true, if_false, Nat.lt_irrefl, s_lit, s_eq, s_le, s_lt, nI_add, pk_mul, s_in, s_cl, bI_n, bI_zn, not_true, not_false_eq_true, true_implies, false_implies, Nat.reduceEqDiff, Nat.reduceMul, Classical.not_not, imp_self, implies_true, tt_z, tg_329, k_isHold (show 0 < 2 by decide) u2, hb, k_of, ofM_kpM, u4, k_keepM hkp e3', k_dropHold (p := 0) (by decide) u3 hj hm1]
      generalize hM : dpM (kpM J kp) (239 * 0) j m1 = M
      have M0 : ∀ y i, ¬ (y = 330 ∧ (i = 55 ∨ 0 + (56 + 6 * j) ≤ i ∧ i < 122)) → M y i = kpM J kp y i := fun y i h => by rw [← hM]; exact dpM_ne (by omega)
      have M1 : M 330 55 = nI (m1 - 1) := by rw [← hM]; exact dpM_6
      have M2 : ∀ i, 0 + (56 + 6 * j) ≤ i ∧ i < 122 → M 330 i = kpM J kp 330 (i + 6) := fun i h => by rw [← hM]; exact dpM_s (by omega)
      refine rAll_kept hR hH (J := J) (fun y i h => J0 y i (by omega)) (fun y i h => M0 y i (by omega)) (rL_of0 ⟨n1, q1, m1 - 1, tk1, ps, rP_drop h6 hj (fun off i hq hn => ?_) ?_ (fun off i hq h1 h2 => ?_) (fun i hi hn => ?_) ?_ (fun i h1 h2 => ?_)⟩ (rP_congr (fun off i hq => ?_) (fun i hi => ?_) hl1)) rfl
      · have hq := pAll_lt hq
        show M (3 + off) i = I (3 + off) i
        rw [M0 _ _ (by omega), kpM_ne (by omega) (by omega), J0 _ _ (by omega), kpC_ne hnx (by omega)]
      · show M 15 6 = _
        rw [M0 _ _ (by omega), kpM_ne (by omega) (by omega), J1]
      · show M (3 + off) i = I (3 + off) (i + 1)
        rw [M0 _ _ (by omega), kpM_ne (by omega) (by omega), J2 _ _ (by omega), kpC_ne hnx (by omega)]
      · show M 330 (0 + i) = I 330 (0 + i)
        rw [M0 _ _ (by omega), kpM_ne (by omega) (by omega), J0 _ _ (by omega), kpC_ne hnx (by omega)]
      · exact M1
      · show M 330 (0 + i) = I 330 (0 + (i + 6))
        rw [M2 _ (by omega), kpM_ne (by omega) (by omega), J0 _ _ (by omega), kpC_ne hnx (by omega)]; congr 1
      · have hq := pAll_lt hq
        show M (27 + off) i = I (27 + off) i
        rw [M0 _ _ (by omega), kpM_ne (by omega) (by omega), J0 _ _ (by omega), kpC_ne hnx (by omega)]
      · show M 330 (239 + i) = I 330 (239 + i)
        rw [M0 _ _ (by omega), kpM_ne (by omega) (by omega), J0 _ _ (by omega), kpC_ne hnx (by omega)]
    · simp (disch := omega) only [c_X10_drop, e_X10_drop_0, e_X10_drop_0n, e_X10_drop_1, e_X10_drop_2, e_X10_drop_5, e_X10_drop_5n, e_X10_drop_6, e_X10_drop_6n, e_X10_drop_7, e_X10_drop_7n, e_X10_drop_10, e_X10_drop_10n, e_X10_drop_11, e_X10_drop_14, e_X10_drop_15, e_X10_drop_18, e_X10_drop_21, e_X10_drop_24, e_X10_drop_25, e_X10_drop_25n, e_X10_drop_26, e_X10_drop_29, e_X10_drop_29n, e_X10_drop_30, e_X10_drop_33, e_X10_drop_33n, e_X10_drop_34, e_X10_drop_37, e_X10_drop_40, e_X10_drop_40n, e_X10_drop_41, e_X10_drop_44, e_X10_drop_47, e_X10_drop_48, e_X10_drop_49, e_X10_drop_51, e_X10_drop_51n, e_X10_drop_52, e_X10_drop_55, e_X10_drop_56, e_X10_drop_59, e_X10_drop_61, e_X10_drop_62, mNl_i, mNl_r, mNl_n, mNl_l, mNl_0, mRV_s, mRV_n, tl_s, tl_n, cs_0, cs_i, cs_r, cs_n, cs_l, Nat.reduceAdd, Nat.reduceLeDiff, true_and, and_true, eq_self_iff_true, if_true, if_false, Nat.lt_irrefl, s_lit, s_eq, s_le, s_lt, nI_add, pk_mul, s_in, s_cl, bI_n, bI_zn, not_true, not_false_eq_true, true_implies, false_implies, Nat.reduceEqDiff, Nat.reduceMul, Classical.not_not, imp_self, implies_true, tt_z, tg_2, rf_2_0, rf_2_1, rf_2_2, rf_2_3, rf_2_4, rf_2_5, rf_2_6, rf_2_7, rf_2_8, rf_2_9, tg_51, k_puppetOf, k_hasH (t := tt n) (o := 15) tg_15 v1, hb, tg_3, rf_3_0, rf_3_1, rf_3_2, rf_3_3, rf_3_4, tg_15, rf_15_0, rf_15_1, rf_15_2, rf_15_3, rf_15_4, rf_15_5, tg_16, ln_16, tg_17, ln_17, tg_18, ln_18, tg_19, ln_19, tg_20, ln_20, tg_21, ln_21]
      refine ⟨_, rfl, ?_⟩
      simp (disch := omega) only [c_X11_drop, e_X11_drop_0, e_X11_drop_0n, e_X11_drop_1, e_X11_drop_2, e_X11_drop_3, e_X11_drop_6, e_X11_drop_9, e_X11_drop_12, e_X11_drop_13, e_X11_drop_13n, e_X11_drop_14, e_X11_drop_17, e_X11_drop_17n, e_X11_drop_18, e_X11_drop_19, e_X11_drop_20, e_X11_drop_21, e_X11_drop_24, e_X11_drop_25, e_X11_drop_26, e_X11_drop_26n, e_X11_drop_27, e_X11_drop_28, e_X11_drop_29, e_X11_drop_32, e_X11_drop_33, mNl_i, mNl_r, mNl_n, mNl_l, mNl_0, mRV_s, mRV_n, tl_s, tl_n, cs_0, cs_i, cs_r, cs_n, cs_l, Nat.reduceAdd, Nat.reduceLeDiff, true_and, and_true, eq_self_iff_true, if_true, if_false, Nat.lt_irrefl, s_lit, s_eq, s_le, s_lt, nI_add, pk_mul, s_in, s_cl, bI_n, bI_zn, not_true, not_false_eq_true, true_implies, false_implies, Nat.reduceEqDiff, Nat.reduceMul, Classical.not_not, imp_self, implies_true, tt_z, tg_329, k_isHold (show 0 < 2 by decide) v2, hb]
      exact rAll_same hR (fun _ _ _ => rfl) rfl rfl rfl
  · obtain ⟨n1, q1, m1, tk1, ps, h6⟩ := id hl1
    have hm1 : m1 ≤ 12 := h6.2.2.2.2.2.1.1
    have v1 : I 39 6 = nI m1 := h6.2.2.2.2.2.1.2.1
    have v2 : I 330 (239 * 1 + 55) = nI m1 := h6.2.2.2.2.2.1.2.2.1
    by_cases hb : lmb hd m1
    · have hb2 := hb
      obtain ⟨j, hj, rfl⟩ := hb2
      obtain ⟨w1, -⟩ := hol_v (p := 1) (a := 27) h6 hj
      have w1 : I 40 j = ofM I 1 j 0 := w1
      have v1' : kpC I kp nx (27 + 12) 6 = nI m1 := by rw [kpC_ne hnx (by omega)]; exact v1
      simp (disch := omega) only [c_X10_drop, e_X10_drop_0, e_X10_drop_0n, e_X10_drop_1, e_X10_drop_2, e_X10_drop_5, e_X10_drop_5n, e_X10_drop_6, e_X10_drop_6n, e_X10_drop_7, e_X10_drop_7n, e_X10_drop_10, e_X10_drop_10n, e_X10_drop_11, e_X10_drop_14, e_X10_drop_15, e_X10_drop_18, e_X10_drop_21, e_X10_drop_24, e_X10_drop_25, e_X10_drop_25n, e_X10_drop_26, e_X10_drop_29, e_X10_drop_29n, e_X10_drop_30, e_X10_drop_33, e_X10_drop_33n, e_X10_drop_34, e_X10_drop_37, e_X10_drop_40, e_X10_drop_40n, e_X10_drop_41, e_X10_drop_44, e_X10_drop_47, e_X10_drop_48, e_X10_drop_49, e_X10_drop_51, e_X10_drop_51n, e_X10_drop_52, e_X10_drop_55, e_X10_drop_56, e_X10_drop_59, e_X10_drop_61, e_X10_drop_62, mNl_i, mNl_r, mNl_n, mNl_l, mNl_0, mRV_s, mRV_n, tl_s, tl_n, cs_0, cs_i, cs_r, cs_n, cs_l, Nat.reduceAdd, Nat.reduceLeDiff, true_and, and_true, eq_self_iff_true, if_true, if_false, Nat.lt_irrefl, s_lit, s_eq, s_le, s_lt, nI_add, pk_mul, s_in, s_cl, bI_n, bI_zn, not_true, not_false_eq_true, true_implies, false_implies, Nat.reduceEqDiff, Nat.reduceMul, Classical.not_not, imp_self, implies_true, tt_z, tg_2, rf_2_0, rf_2_1, rf_2_2, rf_2_3, rf_2_4, rf_2_5, rf_2_6, rf_2_7, rf_2_8, rf_2_9, tg_51, k_puppetOf, k_hasH (t := tt n) (o := 39) tg_39 v1, hb, k_kpC hnx hkp e1 e2, tg_27, rf_27_0, rf_27_1, rf_27_2, rf_27_3, rf_27_4, tg_39, rf_39_0, rf_39_1, rf_39_2, rf_39_3, rf_39_4, rf_39_5, tg_40, ln_40, tg_41, ln_41, tg_42, ln_42, tg_43, ln_43, tg_44, ln_44, tg_45, ln_45, kpC_ne hnx, w1, show j < 12 from by omega, k_remove (a := 27) tt_z sp_27 hm1 v1' hj]
      refine ⟨_, rfl, ?_⟩
      generalize hJ : rmC (kpC I kp nx) 27 j m1 = J
      have J0 : ∀ y i, ¬ (y = 39 ∧ i = 6 ∨ (40 ≤ y ∧ y ≤ 45) ∧ j ≤ i ∧ i + 1 < m1) → J y i = kpC I kp nx y i := fun y i h => by rw [← hJ]; exact rmC_ne (by omega)
      have J1 : J 39 6 = nI (m1 - 1) := by rw [← hJ]; exact rmC_6
      have J2 : ∀ y i, (40 ≤ y ∧ y ≤ 45) ∧ j ≤ i ∧ i + 1 < m1 → J y i = kpC I kp nx y (i + 1) := fun y i h => by rw [← hJ]; exact rmC_s (by omega)
      have e3' : J 329 2 = nI kp := by rw [J0 _ _ (by omega), kpC_ne hnx (by omega)]; exact e3
      have u2 : J 330 (239 * 1 + 55) = nI m1 := by rw [J0 _ _ (by omega), kpC_ne hnx (by omega)]; exact v2
      have u3 : kpM J kp 330 (239 * 1 + 55) = nI m1 := by rw [kpM_ne (by omega) (by omega)]; exact u2
      have u4 : ofM J 1 j 0 = ofM I 1 j 0 := by unfold ofM; rw [J0 _ _ (by omega), kpC_ne hnx (by omega)]
      simp (disch := omega) only [c_X11_drop, e_X11_drop_0, e_X11_drop_0n, e_X11_drop_1, e_X11_drop_2, e_X11_drop_3, e_X11_drop_6, e_X11_drop_9, e_X11_drop_12, e_X11_drop_13, e_X11_drop_13n, e_X11_drop_14, e_X11_drop_17, e_X11_drop_17n, e_X11_drop_18, e_X11_drop_19, e_X11_drop_20, e_X11_drop_21, e_X11_drop_24, e_X11_drop_25, e_X11_drop_26, e_X11_drop_26n, e_X11_drop_27, e_X11_drop_28, e_X11_drop_29, e_X11_drop_32, e_X11_drop_33, mNl_i, mNl_r, mNl_n, mNl_l, mNl_0, mRV_s, mRV_n, tl_s, tl_n, cs_0, cs_i, cs_r, cs_n, cs_l, Nat.reduceAdd, Nat.reduceLeDiff, true_and, and_true, eq_self_iff_true, if_true, if_false, Nat.lt_irrefl, s_lit, s_eq, s_le, s_lt, nI_add, pk_mul, s_in, s_cl, bI_n, bI_zn, not_true, not_false_eq_true, true_implies, false_implies, Nat.reduceEqDiff, Nat.reduceMul, Classical.not_not, imp_self, implies_true, tt_z, tg_329, k_isHold (show 1 < 2 by decide) u2, hb, k_of, ofM_kpM, u4, k_keepM hkp e3', k_dropHold (p := 1) (by decide) u3 hj hm1]
      generalize hM : dpM (kpM J kp) (239 * 1) j m1 = M
      have M0 : ∀ y i, ¬ (y = 330 ∧ (i = 294 ∨ 239 + (56 + 6 * j) ≤ i ∧ i < 361)) → M y i = kpM J kp y i := fun y i h => by rw [← hM]; exact dpM_ne (by omega)
      have M1 : M 330 294 = nI (m1 - 1) := by rw [← hM]; exact dpM_6
      have M2 : ∀ i, 239 + (56 + 6 * j) ≤ i ∧ i < 361 → M 330 i = kpM J kp 330 (i + 6) := fun i h => by rw [← hM]; exact dpM_s (by omega)
      refine rAll_kept hR hH (J := J) (fun y i h => J0 y i (by omega)) (fun y i h => M0 y i (by omega)) (rL_of1 ⟨n1, q1, m1 - 1, tk1, ps, rP_drop h6 hj (fun off i hq hn => ?_) ?_ (fun off i hq h1 h2 => ?_) (fun i hi hn => ?_) ?_ (fun i h1 h2 => ?_)⟩ (rP_congr (fun off i hq => ?_) (fun i hi => ?_) hl0)) rfl
      · have hq := pAll_lt hq
        show M (27 + off) i = I (27 + off) i
        rw [M0 _ _ (by omega), kpM_ne (by omega) (by omega), J0 _ _ (by omega), kpC_ne hnx (by omega)]
      · show M 39 6 = _
        rw [M0 _ _ (by omega), kpM_ne (by omega) (by omega), J1]
      · show M (27 + off) i = I (27 + off) (i + 1)
        rw [M0 _ _ (by omega), kpM_ne (by omega) (by omega), J2 _ _ (by omega), kpC_ne hnx (by omega)]
      · show M 330 (239 + i) = I 330 (239 + i)
        rw [M0 _ _ (by omega), kpM_ne (by omega) (by omega), J0 _ _ (by omega), kpC_ne hnx (by omega)]
      · exact M1
      · show M 330 (239 + i) = I 330 (239 + (i + 6))
        rw [M2 _ (by omega), kpM_ne (by omega) (by omega), J0 _ _ (by omega), kpC_ne hnx (by omega)]; congr 1
      · have hq := pAll_lt hq
        show M (3 + off) i = I (3 + off) i
        rw [M0 _ _ (by omega), kpM_ne (by omega) (by omega), J0 _ _ (by omega), kpC_ne hnx (by omega)]
      · show M 330 (0 + i) = I 330 (0 + i)
        rw [M0 _ _ (by omega), kpM_ne (by omega) (by omega), J0 _ _ (by omega), kpC_ne hnx (by omega)]
    · simp (disch := omega) only [c_X10_drop, e_X10_drop_0, e_X10_drop_0n, e_X10_drop_1, e_X10_drop_2, e_X10_drop_5, e_X10_drop_5n, e_X10_drop_6, e_X10_drop_6n, e_X10_drop_7, e_X10_drop_7n, e_X10_drop_10, e_X10_drop_10n, e_X10_drop_11, e_X10_drop_14, e_X10_drop_15, e_X10_drop_18, e_X10_drop_21, e_X10_drop_24, e_X10_drop_25, e_X10_drop_25n, e_X10_drop_26, e_X10_drop_29, e_X10_drop_29n, e_X10_drop_30, e_X10_drop_33, e_X10_drop_33n, e_X10_drop_34, e_X10_drop_37, e_X10_drop_40, e_X10_drop_40n, e_X10_drop_41, e_X10_drop_44, e_X10_drop_47, e_X10_drop_48, e_X10_drop_49, e_X10_drop_51, e_X10_drop_51n, e_X10_drop_52, e_X10_drop_55, e_X10_drop_56, e_X10_drop_59, e_X10_drop_61, e_X10_drop_62, mNl_i, mNl_r, mNl_n, mNl_l, mNl_0, mRV_s, mRV_n, tl_s, tl_n, cs_0, cs_i, cs_r, cs_n, cs_l, Nat.reduceAdd, Nat.reduceLeDiff, true_and, and_true, eq_self_iff_true, if_true, if_false, Nat.lt_irrefl, s_lit, s_eq, s_le, s_lt, nI_add, pk_mul, s_in, s_cl, bI_n, bI_zn, not_true, not_false_eq_true, true_implies, false_implies, Nat.reduceEqDiff, Nat.reduceMul, Classical.not_not, imp_self, implies_true, tt_z, tg_2, rf_2_0, rf_2_1, rf_2_2, rf_2_3, rf_2_4, rf_2_5, rf_2_6, rf_2_7, rf_2_8, rf_2_9, tg_51, k_puppetOf, k_hasH (t := tt n) (o := 39) tg_39 v1, hb, tg_27, rf_27_0, rf_27_1, rf_27_2, rf_27_3, rf_27_4, tg_39, rf_39_0, rf_39_1, rf_39_2, rf_39_3, rf_39_4, rf_39_5, tg_40, ln_40, tg_41, ln_41, tg_42, ln_42, tg_43, ln_43, tg_44, ln_44, tg_45, ln_45]
      refine ⟨_, rfl, ?_⟩
      simp (disch := omega) only [c_X11_drop, e_X11_drop_0, e_X11_drop_0n, e_X11_drop_1, e_X11_drop_2, e_X11_drop_3, e_X11_drop_6, e_X11_drop_9, e_X11_drop_12, e_X11_drop_13, e_X11_drop_13n, e_X11_drop_14, e_X11_drop_17, e_X11_drop_17n, e_X11_drop_18, e_X11_drop_19, e_X11_drop_20, e_X11_drop_21, e_X11_drop_24, e_X11_drop_25, e_X11_drop_26, e_X11_drop_26n, e_X11_drop_27, e_X11_drop_28, e_X11_drop_29, e_X11_drop_32, e_X11_drop_33, mNl_i, mNl_r, mNl_n, mNl_l, mNl_0, mRV_s, mRV_n, tl_s, tl_n, cs_0, cs_i, cs_r, cs_n, cs_l, Nat.reduceAdd, Nat.reduceLeDiff, true_and, and_true, eq_self_iff_true, if_true, if_false, Nat.lt_irrefl, s_lit, s_eq, s_le, s_lt, nI_add, pk_mul, s_in, s_cl, bI_n, bI_zn, not_true, not_false_eq_true, true_implies, false_implies, Nat.reduceEqDiff, Nat.reduceMul, Classical.not_not, imp_self, implies_true, tt_z, tg_329, k_isHold (show 1 < 2 by decide) v2, hb]
      exact rAll_same hR (fun _ _ _ => rfl) rfl rfl rfl
  · simp (disch := omega) only [c_X10_drop, e_X10_drop_0, e_X10_drop_0n, e_X10_drop_1, e_X10_drop_2, e_X10_drop_5, e_X10_drop_5n, e_X10_drop_6, e_X10_drop_6n, e_X10_drop_7, e_X10_drop_7n, e_X10_drop_10, e_X10_drop_10n, e_X10_drop_11, e_X10_drop_14, e_X10_drop_15, e_X10_drop_18, e_X10_drop_21, e_X10_drop_24, e_X10_drop_25, e_X10_drop_25n, e_X10_drop_26, e_X10_drop_29, e_X10_drop_29n, e_X10_drop_30, e_X10_drop_33, e_X10_drop_33n, e_X10_drop_34, e_X10_drop_37, e_X10_drop_40, e_X10_drop_40n, e_X10_drop_41, e_X10_drop_44, e_X10_drop_47, e_X10_drop_48, e_X10_drop_49, e_X10_drop_51, e_X10_drop_51n, e_X10_drop_52, e_X10_drop_55, e_X10_drop_56, e_X10_drop_59, e_X10_drop_61, e_X10_drop_62, mNl_i, mNl_r, mNl_n, mNl_l, mNl_0, mRV_s, mRV_n, tl_s, tl_n, cs_0, cs_i, cs_r, cs_n, cs_l, Nat.reduceAdd, Nat.reduceLeDiff, true_and, and_true, eq_self_iff_true, if_true, if_false, Nat.lt_irrefl, s_lit, s_eq, s_le, s_lt, nI_add, pk_mul, s_in, s_cl, bI_n, bI_zn, not_true, not_false_eq_true, true_implies, false_implies, Nat.reduceEqDiff, Nat.reduceMul, Classical.not_not, imp_self, implies_true, tt_z, tg_2, rf_2_0, rf_2_1, rf_2_2, rf_2_3, rf_2_4, rf_2_5, rf_2_6, rf_2_7, rf_2_8, rf_2_9, k_puppetOf, pup_n0 hpu, pup_n1 hpu]
    refine ⟨_, rfl, ?_⟩
    simp (disch := omega) only [c_X11_drop, e_X11_drop_0, e_X11_drop_0n, e_X11_drop_1, e_X11_drop_2, e_X11_drop_3, e_X11_drop_6, e_X11_drop_9, e_X11_drop_12, e_X11_drop_13, e_X11_drop_13n, e_X11_drop_14, e_X11_drop_17, e_X11_drop_17n, e_X11_drop_18, e_X11_drop_19, e_X11_drop_20, e_X11_drop_21, e_X11_drop_24, e_X11_drop_25, e_X11_drop_26, e_X11_drop_26n, e_X11_drop_27, e_X11_drop_28, e_X11_drop_29, e_X11_drop_32, e_X11_drop_33, c_X11_isHold, e_X11_isHold_0, e_X11_isHold_1, e_X11_isHold_4, e_X11_isHold_7, e_X11_isHold_8, e_X11_isHold_9, e_X11_isHold_9n, e_X11_isHold_10, e_X11_isHold_11, e_X11_isHold_13, e_X11_isHold_16, e_X11_isHold_17, e_X11_isHold_18, e_X11_isHold_21, e_X11_isHold_24, e_X11_isHold_25, e_X11_isHold_28, e_X11_isHold_29, mNl_i, mNl_r, mNl_n, mNl_l, mNl_0, mRV_s, mRV_n, tl_s, tl_n, cs_0, cs_i, cs_r, cs_n, cs_l, Nat.reduceAdd, Nat.reduceLeDiff, true_and, and_true, eq_self_iff_true, if_true, if_false, Nat.lt_irrefl, s_lit, s_eq, s_le, s_lt, nI_add, pk_mul, s_in, s_cl, bI_n, bI_zn, not_true, not_false_eq_true, true_implies, false_implies, Nat.reduceEqDiff, Nat.reduceMul, Classical.not_not, imp_self, implies_true, tt_z, tg_329, k_isPuppet tt_z, hpu, true_or]
    exact rAll_same hR (fun _ _ _ => rfl) rfl rfl rfl
