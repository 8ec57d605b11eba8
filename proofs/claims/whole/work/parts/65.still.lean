/-! ===== bends laid aside and brought back; isStill ===== -/
def nbM (I : Nat → Nat → Int32) (p k : Nat) : Nat → Nat → Int32 := fun x j => if x = 338 ∧ j < k then I 330 (239 * p + (19 + j)) else I x j
def bbM (I : Nat → Nat → Int32) (p k : Nat) : Nat → Nat → Int32 := fun x j => if x = 330 ∧ 239 * p + 19 ≤ j ∧ j < 239 * p + 19 + k then I 338 (j - (239 * p + 19)) else I x j
section
variable {Q : mQo} {n : Nat} {I : Nat → Nat → Int32} {L : Nat → Nat → Int64} {p k x j : Nat}
theorem nb_y (h : j < k) : nbM I p k 338 j = I 330 (239 * p + (19 + j)) := by unfold nbM; rw [if_pos ⟨rfl, h⟩]
theorem nb_n (h : ¬ (x = 338 ∧ j < k)) : nbM I p k x j = I x j := by unfold nbM; rw [if_neg h]
theorem bb_y (h : j < k) : bbM I p k 330 (239 * p + (19 + j)) = I 338 j := by
  unfold bbM; rw [if_pos (by omega), show 239 * p + (19 + j) - (239 * p + 19) = j by omega]
theorem bb_n (h : ¬ (x = 330 ∧ 239 * p + 19 ≤ j ∧ j < 239 * p + 19 + k)) : bbM I p k x j = I x j := by unfold bbM; rw [if_neg h]
theorem nb_s : mUI (nbM I p k) 338 k (I 330 (239 * p + (19 + k))) = nbM I p (k + 1) := by
  funext x j
  by_cases hx : x = 338 ∧ j = k
  · rw [mUI_yes hx, hx.1, hx.2, nb_y (by omega)]
  · rw [mUI_no hx]
    unfold nbM
    by_cases e : x = 338 ∧ j < k
    · rw [if_pos e, if_pos (by omega)]
    · rw [if_neg e, if_neg (by omega)]
theorem bb_s : mUI (bbM I p k) 330 (239 * p + (19 + k)) (I 338 k) = bbM I p (k + 1) := by
  funext x j
  by_cases hx : x = 330 ∧ j = 239 * p + (19 + k)
  · rw [mUI_yes hx, hx.1, hx.2, bb_y (by omega)]
  · rw [mUI_no hx]
    unfold bbM
    by_cases e : x = 330 ∧ 239 * p + 19 ≤ j ∧ j < 239 * p + 19 + k
    · rw [if_pos e, if_pos (by omega)]
    · rw [if_neg e, if_neg (by omega)]
theorem nb_0 : nbM I p 0 = I := by funext x j; exact nb_n (by omega)
theorem bb_0 : bbM I p 0 = I := by funext x j; exact bb_n (by omega)
theorem l_note (hp : p < 2) : ∀ (d k : Nat), k + d = 6 → mWP tb_X11_noteBends Q 2 [some (.ref 329), some (.int (nI p)), some (.int (nI k))] [] (tt n, nbM I p k, L) = Q none (tt n, nbM I p 6, L) := by
  intro d
  induction d with
  | zero =>
    intro k hk
    have : k = 6 := by omega
    subst this
    simp (disch := omega) only [e_X11_noteBends_0, e_X11_noteBends_1, e_X11_noteBends_2, e_X11_noteBends_3, e_X11_noteBends_5, e_X11_noteBends_9, e_X11_noteBends_12, e_X11_noteBends_13, e_X11_noteBends_13n, e_X11_noteBends_14, e_X11_noteBends_15, e_X11_noteBends_17, e_X11_noteBends_18, e_X11_noteBends_19, e_X11_noteBends_22, e_X11_noteBends_23, e_X11_noteBends_26, e_X11_noteBends_29, mNl_i, mNl_r, mNl_n, mNl_l, mNl_0, mRV_s, mRV_n, tl_s, tl_n, cs_0, cs_i, cs_r, cs_n, cs_l, Nat.reduceAdd, Nat.reduceLeDiff, true_and, and_true, eq_self_iff_true, if_true, if_false, Nat.lt_irrefl, s_lit, s_eq, s_le, s_lt, nI_add, pk_mul, s_in, s_cl, bI_n, bI_zn, not_true, not_false_eq_true, true_implies, false_implies, Nat.reduceEqDiff, Nat.reduceMul, Classical.not_not, imp_self, implies_true, Nat.le_refl]
  | succ d ih =>
    intro k hk
    rw [e_X11_noteBends_2]
    simp (disch := omega) only [e_X11_noteBends_0, e_X11_noteBends_1, e_X11_noteBends_3, e_X11_noteBends_5, e_X11_noteBends_8, e_X11_noteBends_8n, e_X11_noteBends_9, e_X11_noteBends_12, e_X11_noteBends_13, e_X11_noteBends_13n, e_X11_noteBends_14, e_X11_noteBends_15, e_X11_noteBends_17, e_X11_noteBends_18, e_X11_noteBends_19, e_X11_noteBends_22, e_X11_noteBends_23, e_X11_noteBends_26, mNl_i, mNl_r, mNl_n, mNl_l, mNl_0, mRV_s, mRV_n, tl_s, tl_n, cs_0, cs_i, cs_r, cs_n, cs_l, Nat.reduceAdd, Nat.reduceLeDiff, true_and, and_true, eq_self_iff_true, if_true, if_false, Nat.lt_irrefl, s_lit, s_eq, s_le, s_lt, nI_add, pk_mul, s_in, s_cl, bI_n, bI_zn, not_true, not_false_eq_true, true_implies, false_implies, Nat.reduceEqDiff, Nat.reduceMul, Classical.not_not, imp_self, implies_true, tt_z, tg_329, rf_329_0, rf_329_1, rf_329_4, rf_329_5, rf_329_6, rf_329_7, rf_329_8, rf_329_9, rf_329_12, rf_329_13, tg_338, ln_338, k_get, nb_n, show (6 ≤ k) = False from eq_false (by omega), show k < 6 from by omega, show (2 ≤ 338) = True from eq_true (by decide)]
    rw [nb_s, ih (k + 1) (by omega)]
theorem k_noteB (hp : p < 2) : C_X11_noteBends [.ref 329, .int (nI p)] (tt n, I, L) Q = Q none (tt n, nbM I p 6, L) := by
  have h := l_note (Q := Q) (n := n) (I := I) (L := L) hp 6 0 (by omega)
  rw [nb_0] at h
  simp (disch := omega) only [c_X11_noteBends, e_X11_noteBends_0, e_X11_noteBends_1, mNl_i, mNl_r, mNl_n, mNl_l, mNl_0, mRV_s, mRV_n, tl_s, tl_n, cs_0, cs_i, cs_r, cs_n, cs_l, Nat.reduceAdd, Nat.reduceLeDiff, true_and, and_true, eq_self_iff_true, if_true, if_false, Nat.lt_irrefl, s_lit, s_eq, s_le, s_lt, nI_add, pk_mul, s_in, s_cl, bI_n, bI_zn, not_true, not_false_eq_true, true_implies, false_implies, Nat.reduceEqDiff, Nat.reduceMul, Classical.not_not, imp_self, implies_true, h]
theorem l_bring (hp : p < 2) : ∀ (d k : Nat), k + d = 6 → mWP tb_X11_bringBends Q 2 [some (.ref 329), some (.int (nI p)), some (.int (nI k))] [] (tt n, bbM I p k, L) = Q none (tt n, bbM I p 6, L) := by
  intro d
  induction d with
  | zero =>
    intro k hk
    have : k = 6 := by omega
    subst this
    simp (disch := omega) only [e_X11_bringBends_0, e_X11_bringBends_1, e_X11_bringBends_2, e_X11_bringBends_3, e_X11_bringBends_5, e_X11_bringBends_9, e_X11_bringBends_10, e_X11_bringBends_12, e_X11_bringBends_13, e_X11_bringBends_14, e_X11_bringBends_14n, e_X11_bringBends_15, e_X11_bringBends_18, e_X11_bringBends_19, e_X11_bringBends_20, e_X11_bringBends_23, e_X11_bringBends_26, e_X11_bringBends_29, mNl_i, mNl_r, mNl_n, mNl_l, mNl_0, mRV_s, mRV_n, tl_s, tl_n, cs_0, cs_i, cs_r, cs_n, cs_l, Nat.reduceAdd, Nat.reduceLeDiff, true_and, and_true, eq_self_iff_true, if_true, if_false, Nat.lt_irrefl, s_lit, s_eq, s_le, s_lt, nI_add, pk_mul, s_in, s_cl, bI_n, bI_zn, not_true, not_false_eq_true, true_implies, false_implies, Nat.reduceEqDiff, Nat.reduceMul, Classical.not_not, imp_self, implies_true, Nat.le_refl]
  | succ d ih =>
    intro k hk
    rw [e_X11_bringBends_2]
    simp (disch := omega) only [e_X11_bringBends_0, e_X11_bringBends_1, e_X11_bringBends_3, e_X11_bringBends_5, e_X11_bringBends_8, e_X11_bringBends_8n, e_X11_bringBends_9, e_X11_bringBends_10, e_X11_bringBends_12, e_X11_bringBends_13, e_X11_bringBends_14, e_X11_bringBends_14n, e_X11_bringBends_15, e_X11_bringBends_18, e_X11_bringBends_19, e_X11_bringBends_20, e_X11_bringBends_23, e_X11_bringBends_26, mNl_i, mNl_r, mNl_n, mNl_l, mNl_0, mRV_s, mRV_n, tl_s, tl_n, cs_0, cs_i, cs_r, cs_n, cs_l, Nat.reduceAdd, Nat.reduceLeDiff, true_and, and_true, eq_self_iff_true, if_true, if_false, Nat.lt_irrefl, s_lit, s_eq, s_le, s_lt, nI_add, pk_mul, s_in, s_cl, bI_n, bI_zn, not_true, not_false_eq_true, true_implies, false_implies, Nat.reduceEqDiff, Nat.reduceMul, Classical.not_not, imp_self, implies_true, tt_z, tg_329, rf_329_0, rf_329_1, rf_329_4, rf_329_5, rf_329_6, rf_329_7, rf_329_8, rf_329_9, rf_329_12, rf_329_13, tg_338, ln_338, k_put, bb_n, show (6 ≤ k) = False from eq_false (by omega), show k < 6 from by omega]
    rw [bb_s, ih (k + 1) (by omega)]
theorem k_bringB (hp : p < 2) : C_X11_bringBends [.ref 329, .int (nI p)] (tt n, I, L) Q = Q none (tt n, bbM I p 6, L) := by
  have h := l_bring (Q := Q) (n := n) (I := I) (L := L) hp 6 0 (by omega)
  rw [bb_0] at h
  simp (disch := omega) only [c_X11_bringBends, e_X11_bringBends_0, e_X11_bringBends_1, mNl_i, mNl_r, mNl_n, mNl_l, mNl_0, mRV_s, mRV_n, tl_s, tl_n, cs_0, cs_i, cs_r, cs_n, cs_l, Nat.reduceAdd, Nat.reduceLeDiff, true_and, and_true, eq_self_iff_true, if_true, if_false, Nat.lt_irrefl, s_lit, s_eq, s_le, s_lt, nI_add, pk_mul, s_in, s_cl, bI_n, bI_zn, not_true, not_false_eq_true, true_implies, false_implies, Nat.reduceEqDiff, Nat.reduceMul, Classical.not_not, imp_self, implies_true, h]
theorem mr_y {x z n j : Nat} (h : j < n) : mRow I x z n z j = I x j := by unfold mRow; rw [if_pos rfl, if_pos h]
theorem mr_n {x z n y j : Nat} (h : ¬ (y = z ∧ j < n)) : mRow I x z n y j = I y j := by
  unfold mRow
  by_cases h1 : y = z
  · rw [if_pos h1, if_neg (fun g => h ⟨h1, g⟩), h1]
  · rw [if_neg h1]
end
theorem op_isStill {n : Nat} {xs : Nat → Int32} (pu : Int32) : opOK n xs C_X10_isStill C_X11_isStill [.int pu] := by
  intro k I L hk hR
  obtain ⟨hl, ⟨kp, nx, hH⟩, hC, hT⟩ := id hR
  obtain ⟨⟨hkp, hnx⟩, ⟨e1, e2, e3⟩, -⟩ := id hH
  rcases pA_cases pu with ⟨p, a, hpa, rfl⟩ | hpu
  · obtain ⟨hp, ha1, ha2⟩ := pA_lt hpa
    obtain ⟨n1, q, m, tk, ps, h6⟩ := pA_rP hpa hl
    generalize hf : row I 330 (239 * p) = f at h6
    have hI : isF I p f := fun i _ => by rw [← hf]; rfl
    have ha : sPup (tt n) a := pA_sp hpa
    have hV := fInv_of h6
    have hA := hV.1
    have hn1 : n1 ≤ 6 := h6.1.1
    have hm : m ≤ 12 := hA.2.2.2.1
    have hpp := pA_pup hpa
    obtain ⟨t1, r0, r1, r2, r3, r4⟩ := ha.2.1
    obtain ⟨tL, w0, w1, w2, w3⟩ := ha.2.2.1
    obtain ⟨tS, -, -⟩ := ha.2.2.2.1
    obtain ⟨tC, -, -⟩ := ha.2.2.2.2.1
    obtain ⟨tH, y0, y1, y2, y3, y4, y5⟩ := ha.2.2.2.2.2.1
    obtain ⟨tG, g0, g1, g2, g3⟩ := ha.2.2.2.2.2.2.1
    obtain ⟨⟨s1, s2⟩, ⟨s3, s4⟩, ⟨s5, s6⟩, ⟨s7, s8⟩, -, -, -, -, ⟨s13, z13⟩, ⟨s14, z14⟩, ⟨s15, z15⟩, ⟨s16, z16⟩, ⟨s17, z17⟩, ⟨s18, z18⟩, ⟨s20, z20⟩, ⟨s21, z21⟩, ⟨s22, z22⟩, ⟨s23, z23⟩⟩ := ha.2.2.2.2.2.2.2
    have v1 : I (a + 1) 4 = nI n1 := h6.1.2.1
    have v2 : I 330 (239 * p + 0) = nI n1 := by rw [hI _ (by omega)]; exact hV.2.2.1
    have v5 : I (a + 12) 6 = nI m := h6.2.2.2.2.2.1.2.1
    have v6 : I 330 (239 * p + 55) = nI m := by rw [hI _ (by omega)]; exact hV.2.2.2.1
    have h6c : rP6 (blk (mRow I (a + 5) 327 6) a) f n1 q m tk ps := rP6_congr (fun off j hq => by have := pAll_lt hq; exact mr_n (by omega)) (fun _ _ => rfl) h6
    have hsc : rSin (mRow I (a + 5) 327 6) := fun j hj => by rw [mr_n (by omega), mr_n (by omega)]; exact hT.1 j hj
    simp (disch := omega) only [c_X10_isStill, e_X10_isStill_0, e_X10_isStill_0n, e_X10_isStill_1, e_X10_isStill_2, e_X10_isStill_5, e_X10_isStill_5n, e_X10_isStill_6, e_X10_isStill_6n, e_X10_isStill_7, e_X10_isStill_7n, e_X10_isStill_10, e_X10_isStill_13, e_X10_isStill_14, e_X10_isStill_14n, e_X10_isStill_15, e_X10_isStill_18, e_X10_isStill_21, e_X10_isStill_21n, e_X10_isStill_22, e_X10_isStill_25, e_X10_isStill_28, e_X10_isStill_28n, e_X10_isStill_29, e_X10_isStill_32, e_X10_isStill_32n, e_X10_isStill_33, e_X10_isStill_34, e_X10_isStill_37, e_X10_isStill_38, e_X10_isStill_38n, e_X10_isStill_39, e_X10_isStill_42, e_X10_isStill_42n, e_X10_isStill_43, e_X10_isStill_46, e_X10_isStill_49, e_X10_isStill_52, e_X10_isStill_53, e_X10_isStill_56, e_X10_isStill_57, e_X10_isStill_60, e_X10_isStill_61, mNl_i, mNl_r, mNl_n, mNl_l, mNl_0, mRV_s, mRV_n, tl_s, tl_n, cs_0, cs_i, cs_r, cs_n, cs_l, Nat.reduceAdd, Nat.reduceLeDiff, true_and, and_true, eq_self_iff_true, if_true, if_false, Nat.lt_irrefl, s_lit, s_eq, s_le, s_lt, nI_add, pk_mul, s_in, s_cl, bI_n, bI_zn, not_true, not_false_eq_true, true_implies, false_implies, Nat.reduceEqDiff, Nat.reduceMul, Classical.not_not, imp_self, implies_true, tt_z, tg_2, rf_2_0, rf_2_1, rf_2_2, rf_2_3, rf_2_4, rf_2_5, rf_2_6, rf_2_7, rf_2_8, rf_2_9, tg_314, k_pupA hpa, t1, r0, tL, w3, k_copyRow (t := tt n) (x := a + 5) (z := 327) (n := 6) s7 s8 tg_327 ln_327 (by omega) (by omega) (by decide)]
    refine s_settle (N := 1) ha (by omega) (by omega) hsc h6c (fun I1 L1 hF1 hs1 h61 => ?_)
    have l1 : L1 2 10 = L 2 10 := hF1.2 2 10 (by omega)
    have i1 : ∀ x j, ¬ (x = 327) → ¬ (315 < x ∧ x ≤ 324) → mRow I1 327 (a + 5) 6 x j = I x j := fun x j g1 g2 => by
      by_cases hx : x = a + 5 ∧ j < 6
      · rw [hx.1, mr_y hx.2, hF1.1 _ _ (by omega) (by omega), mr_y hx.2]
      · rw [mr_n hx, hF1.1 _ _ hx g2, mr_n (by omega)]
    have hs3 : rSin (mRow I1 327 (a + 5) 6) := fun j hj => by rw [i1 _ _ (by omega) (by omega), i1 _ _ (by omega) (by omega)]; exact hT.1 j hj
    have hI3 : isF (mRow I1 327 (a + 5) 6) p f := fun i hi => by rw [i1 _ _ (by omega) (by omega)]; exact hI i hi
    have kc := fun (Q : mQo) => k_copyRow (Q := Q) (t := tt n) (I := I1) (L := L1) (x := 327) (z := a + 5) (n := 6) tg_327 ln_327 s7 s8 (by omega) (by omega) (by decide)
    have hS3 : SN (nbM (mRow I1 327 (a + 5) 6) p 6) p f n1 q m := ⟨fun j hj => by rw [nb_n (by omega), nb_n (by omega)]; exact hs3 j hj, fun i hi => by rw [nb_n (by omega)]; exact hI3 i hi, hV⟩
    have fin : ∀ I2 L2, FM p (nbM (mRow I1 327 (a + 5) 6) p 6) L1 I2 L2 → rAll n xs (k + 1) (bbM I2 p 6) L2 := fun I2 L2 hF2 => by
      have i2 : ∀ x j, x ≠ 327 → x ≠ 337 → x ≠ 338 → ¬ (315 < x ∧ x ≤ 324) → bbM I2 p 6 x j = I x j := fun x j g1 g2 g3 g4 => by
        by_cases hx : x = 330 ∧ 239 * p + 19 ≤ j ∧ j < 239 * p + 19 + 6
        · obtain ⟨rfl, x2, x3⟩ := hx
          obtain ⟨i, rfl⟩ : ∃ i, j = 239 * p + (19 + i) := ⟨j - (239 * p + 19), by omega⟩
          rw [bb_y (by omega), hF2.1 _ _ (by omega) (by omega), nb_y (by omega), i1 _ _ (by omega) (by omega)]
        · rw [bb_n hx, hF2.1 _ _ (by omega) g2, nb_n (by omega), i1 _ _ g1 g4]
      refine rAll_same hR (fun x j h => i2 _ _ (by omega) (by omega) (by omega) (by omega)) (i2 _ _ (by omega) (by omega) (by omega) (by omega)) (i2 _ _ (by omega) (by omega) (by omega) (by omega)) ?_
      rw [hF2.2 _ _ (by omega) (by omega), l1]
    cases hst : stS f n1 q m with
    | none =>
      have hr : (rsS n1 q m 1 f).1 = 0 := by unfold rsS; rw [hst]
      rw [hr]
      simp (disch := omega) only [e_X10_isStill_0, e_X10_isStill_0n, e_X10_isStill_1, e_X10_isStill_2, e_X10_isStill_5, e_X10_isStill_5n, e_X10_isStill_6, e_X10_isStill_6n, e_X10_isStill_7, e_X10_isStill_7n, e_X10_isStill_10, e_X10_isStill_13, e_X10_isStill_14, e_X10_isStill_14n, e_X10_isStill_15, e_X10_isStill_18, e_X10_isStill_21, e_X10_isStill_21n, e_X10_isStill_22, e_X10_isStill_25, e_X10_isStill_28, e_X10_isStill_28n, e_X10_isStill_29, e_X10_isStill_32, e_X10_isStill_32n, e_X10_isStill_33, e_X10_isStill_34, e_X10_isStill_37, e_X10_isStill_38, e_X10_isStill_38n, e_X10_isStill_39, e_X10_isStill_42, e_X10_isStill_42n, e_X10_isStill_43, e_X10_isStill_46, e_X10_isStill_49, e_X10_isStill_52, e_X10_isStill_53, e_X10_isStill_56, e_X10_isStill_57, e_X10_isStill_60, e_X10_isStill_61, mNl_i, mNl_r, mNl_n, mNl_l, mNl_0, mRV_s, mRV_n, tl_s, tl_n, cs_0, cs_i, cs_r, cs_n, cs_l, Nat.reduceAdd, Nat.reduceLeDiff, true_and, and_true, eq_self_iff_true, if_true, if_false, Nat.lt_irrefl, s_lit, s_eq, s_le, s_lt, nI_add, pk_mul, s_in, s_cl, bI_n, bI_zn, not_true, not_false_eq_true, true_implies, false_implies, Nat.reduceEqDiff, Nat.reduceMul, Classical.not_not, imp_self, implies_true, tt_z, tg_2, rf_2_0, rf_2_1, rf_2_2, rf_2_3, rf_2_4, rf_2_5, rf_2_6, rf_2_7, rf_2_8, rf_2_9, t1, r0, tL, w3, kc]
      refine ⟨_, rfl, ?_⟩
      simp (disch := omega) only [c_X11_isStill, e_X11_isStill_0, e_X11_isStill_1, e_X11_isStill_4, e_X11_isStill_7, e_X11_isStill_10, e_X11_isStill_11, e_X11_isStill_11n, e_X11_isStill_12, e_X11_isStill_13, e_X11_isStill_16, e_X11_isStill_16n, e_X11_isStill_17, e_X11_isStill_18, e_X11_isStill_21, e_X11_isStill_22, e_X11_isStill_22n, e_X11_isStill_23, e_X11_isStill_24, e_X11_isStill_27, e_X11_isStill_28, e_X11_isStill_31, e_X11_isStill_32, e_X11_isStill_35, e_X11_isStill_36, mNl_i, mNl_r, mNl_n, mNl_l, mNl_0, mRV_s, mRV_n, tl_s, tl_n, cs_0, cs_i, cs_r, cs_n, cs_l, Nat.reduceAdd, Nat.reduceLeDiff, true_and, and_true, eq_self_iff_true, if_true, if_false, Nat.lt_irrefl, s_lit, s_eq, s_le, s_lt, nI_add, pk_mul, s_in, s_cl, bI_n, bI_zn, not_true, not_false_eq_true, true_implies, false_implies, Nat.reduceEqDiff, Nat.reduceMul, Classical.not_not, imp_self, implies_true, tt_z, tg_329, k_isPuppet tt_z, hpp, k_noteB hp]
      refine m_step hp hS3 (fun g I2 L2 hg hF2 hS2 => ?_) (fun I2 L2 hg hF2 hS2 => ?_)
      · rw [hst] at hg; cases hg
      · simp (disch := omega) only [e_X11_isStill_0, e_X11_isStill_1, e_X11_isStill_4, e_X11_isStill_7, e_X11_isStill_10, e_X11_isStill_11, e_X11_isStill_11n, e_X11_isStill_12, e_X11_isStill_13, e_X11_isStill_16, e_X11_isStill_16n, e_X11_isStill_17, e_X11_isStill_18, e_X11_isStill_21, e_X11_isStill_22, e_X11_isStill_22n, e_X11_isStill_23, e_X11_isStill_24, e_X11_isStill_27, e_X11_isStill_28, e_X11_isStill_31, e_X11_isStill_32, e_X11_isStill_35, e_X11_isStill_36, mNl_i, mNl_r, mNl_n, mNl_l, mNl_0, mRV_s, mRV_n, tl_s, tl_n, cs_0, cs_i, cs_r, cs_n, cs_l, Nat.reduceAdd, Nat.reduceLeDiff, true_and, and_true, eq_self_iff_true, if_true, if_false, Nat.lt_irrefl, s_lit, s_eq, s_le, s_lt, nI_add, pk_mul, s_in, s_cl, bI_n, bI_zn, not_true, not_false_eq_true, true_implies, false_implies, Nat.reduceEqDiff, Nat.reduceMul, Classical.not_not, imp_self, implies_true, tt_z, tg_329, k_bringB hp]
        exact fin I2 L2 hF2
    | some g =>
      have hr : (rsS n1 q m 1 f).1 = 1 := by unfold rsS; rw [hst]; rfl
      rw [hr]
      simp (disch := omega) only [e_X10_isStill_0, e_X10_isStill_0n, e_X10_isStill_1, e_X10_isStill_2, e_X10_isStill_5, e_X10_isStill_5n, e_X10_isStill_6, e_X10_isStill_6n, e_X10_isStill_7, e_X10_isStill_7n, e_X10_isStill_10, e_X10_isStill_13, e_X10_isStill_14, e_X10_isStill_14n, e_X10_isStill_15, e_X10_isStill_18, e_X10_isStill_21, e_X10_isStill_21n, e_X10_isStill_22, e_X10_isStill_25, e_X10_isStill_28, e_X10_isStill_28n, e_X10_isStill_29, e_X10_isStill_32, e_X10_isStill_32n, e_X10_isStill_33, e_X10_isStill_34, e_X10_isStill_37, e_X10_isStill_38, e_X10_isStill_38n, e_X10_isStill_39, e_X10_isStill_42, e_X10_isStill_42n, e_X10_isStill_43, e_X10_isStill_46, e_X10_isStill_49, e_X10_isStill_52, e_X10_isStill_53, e_X10_isStill_56, e_X10_isStill_57, e_X10_isStill_60, e_X10_isStill_61, mNl_i, mNl_r, mNl_n, mNl_l, mNl_0, mRV_s, mRV_n, tl_s, tl_n, cs_0, cs_i, cs_r, cs_n, cs_l, Nat.reduceAdd, Nat.reduceLeDiff, true_and, and_true, eq_self_iff_true, if_true, if_false, Nat.lt_irrefl, s_lit, s_eq, s_le, s_lt, nI_add, pk_mul, s_in, s_cl, bI_n, bI_zn, not_true, not_false_eq_true, true_implies, false_implies, Nat.reduceEqDiff, Nat.reduceMul, Classical.not_not, imp_self, implies_true, tt_z, tg_2, rf_2_0, rf_2_1, rf_2_2, rf_2_3, rf_2_4, rf_2_5, rf_2_6, rf_2_7, rf_2_8, rf_2_9, t1, r0, tL, w3, kc, show (1 = 0) = False from eq_false (by omega)]
      refine ⟨_, rfl, ?_⟩
      simp (disch := omega) only [c_X11_isStill, e_X11_isStill_0, e_X11_isStill_1, e_X11_isStill_4, e_X11_isStill_7, e_X11_isStill_10, e_X11_isStill_11, e_X11_isStill_11n, e_X11_isStill_12, e_X11_isStill_13, e_X11_isStill_16, e_X11_isStill_16n, e_X11_isStill_17, e_X11_isStill_18, e_X11_isStill_21, e_X11_isStill_22, e_X11_isStill_22n, e_X11_isStill_23, e_X11_isStill_24, e_X11_isStill_27, e_X11_isStill_28, e_X11_isStill_31, e_X11_isStill_32, e_X11_isStill_35, e_X11_isStill_36, mNl_i, mNl_r, mNl_n, mNl_l, mNl_0, mRV_s, mRV_n, tl_s, tl_n, cs_0, cs_i, cs_r, cs_n, cs_l, Nat.reduceAdd, Nat.reduceLeDiff, true_and, and_true, eq_self_iff_true, if_true, if_false, Nat.lt_irrefl, s_lit, s_eq, s_le, s_lt, nI_add, pk_mul, s_in, s_cl, bI_n, bI_zn, not_true, not_false_eq_true, true_implies, false_implies, Nat.reduceEqDiff, Nat.reduceMul, Classical.not_not, imp_self, implies_true, tt_z, tg_329, k_isPuppet tt_z, hpp, k_noteB hp]
      refine m_step hp hS3 (fun g I2 L2 hg hF2 hS2 => ?_) (fun I2 L2 hg hF2 hS2 => ?_)
      · simp (disch := omega) only [e_X11_isStill_0, e_X11_isStill_1, e_X11_isStill_4, e_X11_isStill_7, e_X11_isStill_10, e_X11_isStill_11, e_X11_isStill_11n, e_X11_isStill_12, e_X11_isStill_13, e_X11_isStill_16, e_X11_isStill_16n, e_X11_isStill_17, e_X11_isStill_18, e_X11_isStill_21, e_X11_isStill_22, e_X11_isStill_22n, e_X11_isStill_23, e_X11_isStill_24, e_X11_isStill_27, e_X11_isStill_28, e_X11_isStill_31, e_X11_isStill_32, e_X11_isStill_35, e_X11_isStill_36, mNl_i, mNl_r, mNl_n, mNl_l, mNl_0, mRV_s, mRV_n, tl_s, tl_n, cs_0, cs_i, cs_r, cs_n, cs_l, Nat.reduceAdd, Nat.reduceLeDiff, true_and, and_true, eq_self_iff_true, if_true, if_false, Nat.lt_irrefl, s_lit, s_eq, s_le, s_lt, nI_add, pk_mul, s_in, s_cl, bI_n, bI_zn, not_true, not_false_eq_true, true_implies, false_implies, Nat.reduceEqDiff, Nat.reduceMul, Classical.not_not, imp_self, implies_true, tt_z, tg_329, k_bringB hp, show (1 = 0) = False from eq_false (by omega)]
        exact fin I2 L2 hF2
      · rw [hst] at hg; cases hg
  · simp (disch := omega) only [c_X10_isStill, e_X10_isStill_0, e_X10_isStill_0n, e_X10_isStill_1, e_X10_isStill_2, e_X10_isStill_5, e_X10_isStill_5n, e_X10_isStill_6, e_X10_isStill_6n, e_X10_isStill_7, e_X10_isStill_7n, e_X10_isStill_10, e_X10_isStill_13, e_X10_isStill_14, e_X10_isStill_14n, e_X10_isStill_15, e_X10_isStill_18, e_X10_isStill_21, e_X10_isStill_21n, e_X10_isStill_22, e_X10_isStill_25, e_X10_isStill_28, e_X10_isStill_28n, e_X10_isStill_29, e_X10_isStill_32, e_X10_isStill_32n, e_X10_isStill_33, e_X10_isStill_34, e_X10_isStill_37, e_X10_isStill_38, e_X10_isStill_38n, e_X10_isStill_39, e_X10_isStill_42, e_X10_isStill_42n, e_X10_isStill_43, e_X10_isStill_46, e_X10_isStill_49, e_X10_isStill_52, e_X10_isStill_53, e_X10_isStill_56, e_X10_isStill_57, e_X10_isStill_60, e_X10_isStill_61, mNl_i, mNl_r, mNl_n, mNl_l, mNl_0, mRV_s, mRV_n, tl_s, tl_n, cs_0, cs_i, cs_r, cs_n, cs_l, Nat.reduceAdd, Nat.reduceLeDiff, true_and, and_true, eq_self_iff_true, if_true, if_false, Nat.lt_irrefl, s_lit, s_eq, s_le, s_lt, nI_add, pk_mul, s_in, s_cl, bI_n, bI_zn, not_true, not_false_eq_true, true_implies, false_implies, Nat.reduceEqDiff, Nat.reduceMul, Classical.not_not, imp_self, implies_true, tt_z, tg_2, rf_2_0, rf_2_1, rf_2_2, rf_2_3, rf_2_4, rf_2_5, rf_2_6, rf_2_7, rf_2_8, rf_2_9, k_puppetOf, pup_n0 hpu, pup_n1 hpu]
    refine ⟨_, rfl, ?_⟩
    simp (disch := omega) only [c_X11_isStill, e_X11_isStill_0, e_X11_isStill_1, e_X11_isStill_4, e_X11_isStill_7, e_X11_isStill_10, e_X11_isStill_11, e_X11_isStill_11n, e_X11_isStill_12, e_X11_isStill_13, e_X11_isStill_16, e_X11_isStill_16n, e_X11_isStill_17, e_X11_isStill_18, e_X11_isStill_21, e_X11_isStill_22, e_X11_isStill_22n, e_X11_isStill_23, e_X11_isStill_24, e_X11_isStill_27, e_X11_isStill_28, e_X11_isStill_31, e_X11_isStill_32, e_X11_isStill_35, e_X11_isStill_36, mNl_i, mNl_r, mNl_n, mNl_l, mNl_0, mRV_s, mRV_n, tl_s, tl_n, cs_0, cs_i, cs_r, cs_n, cs_l, Nat.reduceAdd, Nat.reduceLeDiff, true_and, and_true, eq_self_iff_true, if_true, if_false, Nat.lt_irrefl, s_lit, s_eq, s_le, s_lt, nI_add, pk_mul, s_in, s_cl, bI_n, bI_zn, not_true, not_false_eq_true, true_implies, false_implies, Nat.reduceEqDiff, Nat.reduceMul, Classical.not_not, imp_self, implies_true, tt_z, tg_329, k_isPuppet tt_z, hpu, true_or]
    exact rAll_same hR (fun _ _ _ => rfl) rfl rfl rfl
