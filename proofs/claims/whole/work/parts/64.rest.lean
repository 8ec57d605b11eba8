/-! ===== why, rest, isStill: promises 21, 22, 23 ===== -/
noncomputable def whF (f : Nat → Int32) : Nat → Int × Int64
  | 0 => (0, -9000000000000000005)
  | k + 1 => ifP ((whF f k).1 < exI f k) (exI f k, (nI k).toInt64) (whF f k)
section
variable {Q : mQo} {n : Nat} {I : Nat → Nat → Int32} {L : Nat → Nat → Int64} {f : Nat → Int32} {a p n1 q m tk ps : Nat}
theorem wh_t {k : Nat} (h : (whF f k).1 < exI f k) : whF f (k + 1) = (exI f k, (nI k).toInt64) := ifP_t h
theorem wh_f {k : Nat} (h : ¬ (whF f k).1 < exI f k) : whF f (k + 1) = whF f k := ifP_f h
theorem wh_b (hA : fAll f n1 m) : ∀ k, k ≤ m → 0 ≤ (whF f k).1 ∧ (whF f k).1 ≤ 10000000 := by
  intro k
  induction k with
  | zero => intro _; exact ⟨Int.le_refl 0, show (0 : Int) ≤ 10000000 by decide⟩
  | succ k ih =>
    intro hk
    by_cases h : (whF f k).1 < exI f k
    · rw [wh_t h]; exact ex_b hA (by omega)
    · rw [wh_f h]; exact ih (by omega)
theorem l_whC (ha : sPup (tt n) a) (h6 : rP6 (blk I a) f n1 q m tk ps) (hM : ldC I 294 f n1) (hD : bdC I 294 f) : ∀ (d k : Nat) (a1 a8 a9 : Option Value), k + d = m → mWP tb_X10_why Q 32 [some (.ref 2), a1, some (.ref a), some (.long (i6 (whF f k).1)), none, some (.long (whF f k).2), none, some (.int (nI k)), a8, a9] [] (tt n, I, L) = Q (some (.long (whF f m).2)) (tt n, I, L) := by
  have hA := fAll_of h6
  have hm := hA.2.2.2.1
  obtain ⟨t1, r0, r1, r2, r3, r4⟩ := ha.2.1
  have tH := ha.2.2.2.2.2.1.1
  have v5 : I (a + 12) 6 = nI m := h6.2.2.2.2.2.1.2.1
  intro d
  induction d with
  | zero =>
    intro k a1 a8 a9 hk
    have : k = m := by omega
    subst this
    simp (disch := omega) only [e_X10_why_0, e_X10_why_0n, e_X10_why_1, e_X10_why_2, e_X10_why_5, e_X10_why_5n, e_X10_why_6, e_X10_why_6n, e_X10_why_7, e_X10_why_7n, e_X10_why_10, e_X10_why_13, e_X10_why_14, e_X10_why_14n, e_X10_why_15, e_X10_why_18, e_X10_why_18n, e_X10_why_19, e_X10_why_22, e_X10_why_23, e_X10_why_24, e_X10_why_27, e_X10_why_29, e_X10_why_30, e_X10_why_32, e_X10_why_34, e_X10_why_34n, e_X10_why_35, e_X10_why_38, e_X10_why_41, e_X10_why_45, e_X10_why_48, e_X10_why_48n, e_X10_why_49, e_X10_why_52, e_X10_why_54, e_X10_why_54n, e_X10_why_55, e_X10_why_58, e_X10_why_58n, e_X10_why_59, e_X10_why_62, e_X10_why_64, e_X10_why_67, e_X10_why_70, e_X10_why_72, e_X10_why_74, e_X10_why_75, e_X10_why_76, e_X10_why_79, e_X10_why_81, e_X10_why_82, e_X10_why_84, e_X10_why_85, e_X10_why_87, e_X10_why_90, e_X10_why_93, e_X10_why_95, mNl_i, mNl_r, mNl_n, mNl_l, mNl_0, mRV_s, mRV_n, tl_s, tl_n, cs_0, cs_i, cs_r, cs_n, cs_l, Nat.reduceAdd, Nat.reduceLeDiff, true_and, and_true, eq_self_iff_true, if_true, if_false, Nat.lt_irrefl, s_lit, s_eq, s_le, s_lt, nI_add, pk_mul, s_in, s_cl, bI_n, bI_zn, not_true, not_false_eq_true, true_implies, false_implies, Nat.reduceEqDiff, Nat.reduceMul, Classical.not_not, imp_self, implies_true, t1, r3, tH, v5, Nat.le_refl]
  | succ d ih =>
    intro k a1 a8 a9 hk
    have hb := ex_b hA (show k < m by omega)
    have hw := wh_b hA k (by omega)
    rw [e_X10_why_32]
    by_cases hx : (whF f k).1 < exI f k
    · simp (disch := omega) only [e_X10_why_0, e_X10_why_0n, e_X10_why_1, e_X10_why_2, e_X10_why_5, e_X10_why_5n, e_X10_why_6, e_X10_why_6n, e_X10_why_7, e_X10_why_7n, e_X10_why_10, e_X10_why_13, e_X10_why_14, e_X10_why_14n, e_X10_why_15, e_X10_why_18, e_X10_why_18n, e_X10_why_19, e_X10_why_22, e_X10_why_23, e_X10_why_24, e_X10_why_27, e_X10_why_29, e_X10_why_30, e_X10_why_34, e_X10_why_34n, e_X10_why_35, e_X10_why_38, e_X10_why_41, e_X10_why_44, e_X10_why_44n, e_X10_why_45, e_X10_why_48, e_X10_why_48n, e_X10_why_49, e_X10_why_52, e_X10_why_54, e_X10_why_54n, e_X10_why_55, e_X10_why_58, e_X10_why_58n, e_X10_why_59, e_X10_why_62, e_X10_why_64, e_X10_why_67, e_X10_why_70, e_X10_why_72, e_X10_why_74, e_X10_why_75, e_X10_why_76, e_X10_why_79, e_X10_why_81, e_X10_why_82, e_X10_why_84, e_X10_why_85, e_X10_why_87, e_X10_why_90, e_X10_why_95, mNl_i, mNl_r, mNl_n, mNl_l, mNl_0, mRV_s, mRV_n, tl_s, tl_n, cs_0, cs_i, cs_r, cs_n, cs_l, Nat.reduceAdd, Nat.reduceLeDiff, true_and, and_true, eq_self_iff_true, if_true, if_false, Nat.lt_irrefl, s_lit, s_eq, s_le, s_lt, nI_add, pk_mul, s_in, s_cl, bI_n, bI_zn, not_true, not_false_eq_true, true_implies, false_implies, Nat.reduceEqDiff, Nat.reduceMul, Classical.not_not, imp_self, implies_true, tt_z, tg_2, rf_2_0, rf_2_1, rf_2_2, rf_2_3, rf_2_4, rf_2_5, rf_2_6, rf_2_7, rf_2_8, rf_2_9, tg_294, rf_294_0, rf_294_1, rf_294_2, rf_294_3, rf_294_4, rf_294_5, rf_294_6, rf_294_7, rf_294_8, t1, r3, tH, v5, k_farC ha sf_294 hA h6.2.2.2.2.2.1 hM hD (show k < m by omega), k_tooC ha sf_294 hA h6.2.2.2.2.2.1 hM (show k < m by omega), q_le, i6_le, show (exI f k ≤ (whF f k).1) = False from eq_false (by omega), show (m ≤ k) = False from eq_false (by omega)]
      have h := ih (k + 1) a1 (some (.long (i6 (exI f k)))) none (by omega)
      rw [wh_t hx] at h
      exact h
    · simp (disch := omega) only [e_X10_why_0, e_X10_why_0n, e_X10_why_1, e_X10_why_2, e_X10_why_5, e_X10_why_5n, e_X10_why_6, e_X10_why_6n, e_X10_why_7, e_X10_why_7n, e_X10_why_10, e_X10_why_13, e_X10_why_14, e_X10_why_14n, e_X10_why_15, e_X10_why_18, e_X10_why_18n, e_X10_why_19, e_X10_why_22, e_X10_why_23, e_X10_why_24, e_X10_why_27, e_X10_why_29, e_X10_why_30, e_X10_why_34, e_X10_why_34n, e_X10_why_35, e_X10_why_38, e_X10_why_41, e_X10_why_44, e_X10_why_44n, e_X10_why_45, e_X10_why_48, e_X10_why_48n, e_X10_why_49, e_X10_why_52, e_X10_why_54, e_X10_why_54n, e_X10_why_55, e_X10_why_58, e_X10_why_58n, e_X10_why_59, e_X10_why_62, e_X10_why_64, e_X10_why_67, e_X10_why_70, e_X10_why_72, e_X10_why_74, e_X10_why_75, e_X10_why_76, e_X10_why_79, e_X10_why_81, e_X10_why_82, e_X10_why_84, e_X10_why_85, e_X10_why_87, e_X10_why_90, e_X10_why_95, mNl_i, mNl_r, mNl_n, mNl_l, mNl_0, mRV_s, mRV_n, tl_s, tl_n, cs_0, cs_i, cs_r, cs_n, cs_l, Nat.reduceAdd, Nat.reduceLeDiff, true_and, and_true, eq_self_iff_true, if_true, if_false, Nat.lt_irrefl, s_lit, s_eq, s_le, s_lt, nI_add, pk_mul, s_in, s_cl, bI_n, bI_zn, not_true, not_false_eq_true, true_implies, false_implies, Nat.reduceEqDiff, Nat.reduceMul, Classical.not_not, imp_self, implies_true, tt_z, tg_2, rf_2_0, rf_2_1, rf_2_2, rf_2_3, rf_2_4, rf_2_5, rf_2_6, rf_2_7, rf_2_8, rf_2_9, tg_294, rf_294_0, rf_294_1, rf_294_2, rf_294_3, rf_294_4, rf_294_5, rf_294_6, rf_294_7, rf_294_8, t1, r3, tH, v5, k_farC ha sf_294 hA h6.2.2.2.2.2.1 hM hD (show k < m by omega), k_tooC ha sf_294 hA h6.2.2.2.2.2.1 hM (show k < m by omega), q_le, i6_le, show (exI f k ≤ (whF f k).1) = True from eq_true (by omega), show (m ≤ k) = False from eq_false (by omega)]
      have h := ih (k + 1) a1 (some (.long (i6 (exI f k)))) none (by omega)
      rw [wh_f hx] at h
      exact h
theorem l_whM (hp : p < 2) (hs : rSin I) (hI : isF I p f) (hA : fAll f n1 m) (hM : lwM I L f n1) (h55 : f 55 = nI m) : ∀ (d k : Nat), k + d = m → mWP tb_X11_why Q 26 [some (.ref 329), some (.int (nI p)), some (.long (i6 (whF f k).1)), none, some (.long (whF f k).2), none, some (.int (nI k))] [] (tt n, I, L) = Q (some (.long (whF f m).2)) (tt n, I, L) := by
  have hm := hA.2.2.2.1
  have c0 : I 330 (239 * p + 55) = nI m := by rw [hI _ (by omega)]; exact h55
  intro d
  induction d with
  | zero =>
    intro k hk
    have : k = m := by omega
    subst this
    simp (disch := omega) only [e_X11_why_0, e_X11_why_1, e_X11_why_4, e_X11_why_7, e_X11_why_10, e_X11_why_11, e_X11_why_11n, e_X11_why_12, e_X11_why_13, e_X11_why_16, e_X11_why_17, e_X11_why_18, e_X11_why_21, e_X11_why_23, e_X11_why_24, e_X11_why_26, e_X11_why_28, e_X11_why_28n, e_X11_why_29, e_X11_why_30, e_X11_why_32, e_X11_why_35, e_X11_why_39, e_X11_why_40, e_X11_why_42, e_X11_why_45, e_X11_why_46, e_X11_why_47, e_X11_why_50, e_X11_why_50n, e_X11_why_51, e_X11_why_52, e_X11_why_54, e_X11_why_57, e_X11_why_58, e_X11_why_60, e_X11_why_61, e_X11_why_63, e_X11_why_66, e_X11_why_69, e_X11_why_71, mNl_i, mNl_r, mNl_n, mNl_l, mNl_0, mRV_s, mRV_n, tl_s, tl_n, cs_0, cs_i, cs_r, cs_n, cs_l, Nat.reduceAdd, Nat.reduceLeDiff, true_and, and_true, eq_self_iff_true, if_true, if_false, Nat.lt_irrefl, s_lit, s_eq, s_le, s_lt, nI_add, pk_mul, s_in, s_cl, bI_n, bI_zn, not_true, not_false_eq_true, true_implies, false_implies, Nat.reduceEqDiff, Nat.reduceMul, Classical.not_not, imp_self, implies_true, tt_z, tg_329, k_get, c0, Nat.le_refl]
  | succ d ih =>
    intro k hk
    have hb := ex_b hA (show k < m by omega)
    have hw := wh_b hA k (by omega)
    rw [e_X11_why_26]
    by_cases hx : (whF f k).1 < exI f k
    · simp (disch := omega) only [e_X11_why_0, e_X11_why_1, e_X11_why_4, e_X11_why_7, e_X11_why_10, e_X11_why_11, e_X11_why_11n, e_X11_why_12, e_X11_why_13, e_X11_why_16, e_X11_why_17, e_X11_why_18, e_X11_why_21, e_X11_why_23, e_X11_why_24, e_X11_why_28, e_X11_why_28n, e_X11_why_29, e_X11_why_30, e_X11_why_32, e_X11_why_35, e_X11_why_38, e_X11_why_38n, e_X11_why_39, e_X11_why_40, e_X11_why_42, e_X11_why_45, e_X11_why_46, e_X11_why_47, e_X11_why_50, e_X11_why_50n, e_X11_why_51, e_X11_why_52, e_X11_why_54, e_X11_why_57, e_X11_why_58, e_X11_why_60, e_X11_why_61, e_X11_why_63, e_X11_why_66, e_X11_why_71, mNl_i, mNl_r, mNl_n, mNl_l, mNl_0, mRV_s, mRV_n, tl_s, tl_n, cs_0, cs_i, cs_r, cs_n, cs_l, Nat.reduceAdd, Nat.reduceLeDiff, true_and, and_true, eq_self_iff_true, if_true, if_false, Nat.lt_irrefl, s_lit, s_eq, s_le, s_lt, nI_add, pk_mul, s_in, s_cl, bI_n, bI_zn, not_true, not_false_eq_true, true_implies, false_implies, Nat.reduceEqDiff, Nat.reduceMul, Classical.not_not, imp_self, implies_true, tt_z, tg_329, k_get, c0, k_excM hp hs hI hA hM (show k < m by omega), q_le, i6_le, show (exI f k ≤ (whF f k).1) = False from eq_false (by omega), show (m ≤ k) = False from eq_false (by omega)]
      have h := ih (k + 1) (by omega)
      rw [wh_t hx] at h
      exact h
    · simp (disch := omega) only [e_X11_why_0, e_X11_why_1, e_X11_why_4, e_X11_why_7, e_X11_why_10, e_X11_why_11, e_X11_why_11n, e_X11_why_12, e_X11_why_13, e_X11_why_16, e_X11_why_17, e_X11_why_18, e_X11_why_21, e_X11_why_23, e_X11_why_24, e_X11_why_28, e_X11_why_28n, e_X11_why_29, e_X11_why_30, e_X11_why_32, e_X11_why_35, e_X11_why_38, e_X11_why_38n, e_X11_why_39, e_X11_why_40, e_X11_why_42, e_X11_why_45, e_X11_why_46, e_X11_why_47, e_X11_why_50, e_X11_why_50n, e_X11_why_51, e_X11_why_52, e_X11_why_54, e_X11_why_57, e_X11_why_58, e_X11_why_60, e_X11_why_61, e_X11_why_63, e_X11_why_66, e_X11_why_71, mNl_i, mNl_r, mNl_n, mNl_l, mNl_0, mRV_s, mRV_n, tl_s, tl_n, cs_0, cs_i, cs_r, cs_n, cs_l, Nat.reduceAdd, Nat.reduceLeDiff, true_and, and_true, eq_self_iff_true, if_true, if_false, Nat.lt_irrefl, s_lit, s_eq, s_le, s_lt, nI_add, pk_mul, s_in, s_cl, bI_n, bI_zn, not_true, not_false_eq_true, true_implies, false_implies, Nat.reduceEqDiff, Nat.reduceMul, Classical.not_not, imp_self, implies_true, tt_z, tg_329, k_get, c0, k_excM hp hs hI hA hM (show k < m by omega), q_le, i6_le, show (exI f k ≤ (whF f k).1) = True from eq_true (by omega), show (m ≤ k) = False from eq_false (by omega)]
      have h := ih (k + 1) (by omega)
      rw [wh_f hx] at h
      exact h
end
theorem op_why {n : Nat} {xs : Nat → Int32} (pu : Int32) : opOK n xs C_X10_why C_X11_why [.int pu] := by
  intro k I L hk hR
  obtain ⟨hl, ⟨kp, nx, hH⟩, hC, hT⟩ := id hR
  obtain ⟨⟨hkp, hnx⟩, ⟨e1, e2, e3⟩, -⟩ := id hH
  rcases pA_cases pu with ⟨p, a, hpa, rfl⟩ | hpu
  · obtain ⟨hp, ha1, ha2⟩ := pA_lt hpa
    obtain ⟨n1, q, m, tk, ps, h6⟩ := pA_rP hpa hl
    generalize hf : row I 330 (239 * p) = f at h6
    have hI : isF I p f := fun i _ => by rw [← hf]; rfl
    have ha : sPup (tt n) a := pA_sp hpa
    have hV := fInv_of h6
    have hA := hV.1
    have hn1 : n1 ≤ 6 := h6.1.1
    have hm : m ≤ 12 := hA.2.2.2.1
    have hpp := pA_pup hpa
    obtain ⟨t1, r0, r1, r2, r3, r4⟩ := ha.2.1
    obtain ⟨tL, w0, w1, w2, w3⟩ := ha.2.2.1
    obtain ⟨tS, -, -⟩ := ha.2.2.2.1
    obtain ⟨tC, -, -⟩ := ha.2.2.2.2.1
    obtain ⟨tH, y0, y1, y2, y3, y4, y5⟩ := ha.2.2.2.2.2.1
    obtain ⟨tG, g0, g1, g2, g3⟩ := ha.2.2.2.2.2.2.1
    obtain ⟨⟨s1, s2⟩, ⟨s3, s4⟩, ⟨s5, s6⟩, ⟨s7, s8⟩, -, -, -, -, ⟨s13, z13⟩, ⟨s14, z14⟩, ⟨s15, z15⟩, ⟨s16, z16⟩, ⟨s17, z17⟩, ⟨s18, z18⟩, ⟨s20, z20⟩, ⟨s21, z21⟩, ⟨s22, z22⟩, ⟨s23, z23⟩⟩ := ha.2.2.2.2.2.2.2
    have v1 : I (a + 1) 4 = nI n1 := h6.1.2.1
    have v2 : I 330 (239 * p + 0) = nI n1 := by rw [hI _ (by omega)]; exact hV.2.2.1
    have v5 : I (a + 12) 6 = nI m := h6.2.2.2.2.2.1.2.1
    have v6 : I 330 (239 * p + 55) = nI m := by rw [hI _ (by omega)]; exact hV.2.2.2.1
    have kl := fun (Q : mQo) => k_lay (Q := Q) (L := L) ha sf_294 (by omega) (by omega) hT.1 h6.1 h6.2.1 h6.2.2.2.1 h6.2.2.2.2.1
    have hsJ : rSin (laC I 294 f n1) := sin_la (by omega) (by omega) hT.1
    have hIJ : isF (laC I 294 f n1) p f := isF_la (by omega) hI
    have h6J : rP6 (blk (laC I 294 f n1) a) f n1 q m tk ps := rP6_congr (fun off j hp => by have := pAll_lt hp; exact la_ne (by omega)) (fun _ _ => rfl) h6
    have ldJ : ldC (laC I 294 f n1) 294 f n1 := ldC_of
    have bdJ : bdC (laC I 294 f n1) 294 f := bdC_la
    have nJ : ∀ x j, ¬ (294 < x ∧ x ≤ 303) → laC I 294 f n1 x j = I x j := fun x j h => la_ne h
    generalize laC I 294 f n1 = J at kl hsJ hIJ h6J ldJ bdJ nJ
    have u5 : J (a + 12) 6 = nI m := h6J.2.2.2.2.2.1.2.1
    have u6 : J 330 (239 * p + 55) = nI m := by rw [hIJ _ (by omega)]; exact hV.2.2.2.1
    have hsK : rSin (lyW J f n1) := sin_lw hsJ
    have hIK : isF (lyW J f n1) p f := isF_lw hIJ
    have kE := fun (Q : mQo) => l_whC (Q := Q) (L := L) ha h6J ldJ bdJ m 0 (some (.int (nI p))) none none (by omega)
    have kM := fun (Q : mQo) => l_whM (Q := Q) (n := n) (L := lyL L f n1) hp hsK hIK hA lwM_of hV.2.2.2.1 m 0 (by omega)
    have z0 : whF f 0 = (0, -9000000000000000005) := rfl
    rw [z0] at kE kM
    simp (disch := omega) only [c_X10_why, e_X10_why_0, e_X10_why_0n, e_X10_why_1, e_X10_why_2, e_X10_why_5, e_X10_why_5n, e_X10_why_6, e_X10_why_6n, e_X10_why_7, e_X10_why_7n, e_X10_why_10, e_X10_why_13, e_X10_why_14, e_X10_why_14n, e_X10_why_15, e_X10_why_18, e_X10_why_18n, e_X10_why_19, e_X10_why_22, e_X10_why_23, e_X10_why_24, e_X10_why_27, e_X10_why_29, e_X10_why_30, e_X10_why_34, e_X10_why_34n, e_X10_why_35, e_X10_why_38, e_X10_why_41, e_X10_why_44, e_X10_why_44n, e_X10_why_45, e_X10_why_48, e_X10_why_48n, e_X10_why_49, e_X10_why_52, e_X10_why_54, e_X10_why_54n, e_X10_why_55, e_X10_why_58, e_X10_why_58n, e_X10_why_59, e_X10_why_62, e_X10_why_64, e_X10_why_67, e_X10_why_70, e_X10_why_72, e_X10_why_74, e_X10_why_75, e_X10_why_76, e_X10_why_79, e_X10_why_81, e_X10_why_82, e_X10_why_84, e_X10_why_85, e_X10_why_87, e_X10_why_90, e_X10_why_93, e_X10_why_95, mNl_i, mNl_r, mNl_n, mNl_l, mNl_0, mRV_s, mRV_n, tl_s, tl_n, cs_0, cs_i, cs_r, cs_n, cs_l, Nat.reduceAdd, Nat.reduceLeDiff, true_and, and_true, eq_self_iff_true, if_true, if_false, Nat.lt_irrefl, s_lit, s_eq, s_le, s_lt, nI_add, pk_mul, s_in, s_cl, bI_n, bI_zn, not_true, not_false_eq_true, true_implies, false_implies, Nat.reduceEqDiff, Nat.reduceMul, Classical.not_not, imp_self, implies_true, tt_z, tg_2, rf_2_0, rf_2_1, rf_2_2, rf_2_3, rf_2_4, rf_2_5, rf_2_6, rf_2_7, rf_2_8, rf_2_9, tg_294, rf_294_0, rf_294_1, rf_294_2, rf_294_3, rf_294_4, rf_294_5, rf_294_6, rf_294_7, rf_294_8, k_pupA hpa, kl, i6_0, kE]
    refine ⟨_, rfl, ?_⟩
    simp (disch := omega) only [c_X11_why, e_X11_why_0, e_X11_why_1, e_X11_why_4, e_X11_why_7, e_X11_why_10, e_X11_why_11, e_X11_why_11n, e_X11_why_12, e_X11_why_13, e_X11_why_16, e_X11_why_17, e_X11_why_18, e_X11_why_21, e_X11_why_23, e_X11_why_24, e_X11_why_28, e_X11_why_28n, e_X11_why_29, e_X11_why_30, e_X11_why_32, e_X11_why_35, e_X11_why_38, e_X11_why_38n, e_X11_why_39, e_X11_why_40, e_X11_why_42, e_X11_why_45, e_X11_why_46, e_X11_why_47, e_X11_why_50, e_X11_why_50n, e_X11_why_51, e_X11_why_52, e_X11_why_54, e_X11_why_57, e_X11_why_58, e_X11_why_60, e_X11_why_61, e_X11_why_63, e_X11_why_66, e_X11_why_69, e_X11_why_71, mNl_i, mNl_r, mNl_n, mNl_l, mNl_0, mRV_s, mRV_n, tl_s, tl_n, cs_0, cs_i, cs_r, cs_n, cs_l, Nat.reduceAdd, Nat.reduceLeDiff, true_and, and_true, eq_self_iff_true, if_true, if_false, Nat.lt_irrefl, s_lit, s_eq, s_le, s_lt, nI_add, pk_mul, s_in, s_cl, bI_n, bI_zn, not_true, not_false_eq_true, true_implies, false_implies, Nat.reduceEqDiff, Nat.reduceMul, Classical.not_not, imp_self, implies_true, tt_z, tg_329, rf_329_0, rf_329_1, rf_329_4, rf_329_5, rf_329_6, rf_329_7, rf_329_8, rf_329_9, rf_329_12, rf_329_13, k_isPuppet tt_z, hpp, k_layM hp hsJ hIJ hV.2.2.1 hA.1, i6_0, kM]
    refine rAll_same hR (fun x j h => ?_) ?_ ?_ ?_
    all_goals (simp (disch := omega) only [lw_ne, nJ, ll_ne])
  · simp (disch := omega) only [c_X10_why, e_X10_why_0, e_X10_why_0n, e_X10_why_1, e_X10_why_2, e_X10_why_5, e_X10_why_5n, e_X10_why_6, e_X10_why_6n, e_X10_why_7, e_X10_why_7n, e_X10_why_10, e_X10_why_13, e_X10_why_14, e_X10_why_14n, e_X10_why_15, e_X10_why_18, e_X10_why_18n, e_X10_why_19, e_X10_why_22, e_X10_why_23, e_X10_why_24, e_X10_why_27, e_X10_why_29, e_X10_why_30, e_X10_why_32, e_X10_why_34, e_X10_why_34n, e_X10_why_35, e_X10_why_38, e_X10_why_41, e_X10_why_44, e_X10_why_44n, e_X10_why_45, e_X10_why_48, e_X10_why_48n, e_X10_why_49, e_X10_why_52, e_X10_why_54, e_X10_why_54n, e_X10_why_55, e_X10_why_58, e_X10_why_58n, e_X10_why_59, e_X10_why_62, e_X10_why_64, e_X10_why_67, e_X10_why_70, e_X10_why_72, e_X10_why_74, e_X10_why_75, e_X10_why_76, e_X10_why_79, e_X10_why_81, e_X10_why_82, e_X10_why_84, e_X10_why_85, e_X10_why_87, e_X10_why_90, e_X10_why_93, e_X10_why_95, mNl_i, mNl_r, mNl_n, mNl_l, mNl_0, mRV_s, mRV_n, tl_s, tl_n, cs_0, cs_i, cs_r, cs_n, cs_l, Nat.reduceAdd, Nat.reduceLeDiff, true_and, and_true, eq_self_iff_true, if_true, if_false, Nat.lt_irrefl, s_lit, s_eq, s_le, s_lt, nI_add, pk_mul, s_in, s_cl, bI_n, bI_zn, not_true, not_false_eq_true, true_implies, false_implies, Nat.reduceEqDiff, Nat.reduceMul, Classical.not_not, imp_self, implies_true, tt_z, tg_2, rf_2_0, rf_2_1, rf_2_2, rf_2_3, rf_2_4, rf_2_5, rf_2_6, rf_2_7, rf_2_8, rf_2_9, k_puppetOf, pup_n0 hpu, pup_n1 hpu]
    refine ⟨_, rfl, ?_⟩
    simp (disch := omega) only [c_X11_why, e_X11_why_0, e_X11_why_1, e_X11_why_4, e_X11_why_7, e_X11_why_10, e_X11_why_11, e_X11_why_11n, e_X11_why_12, e_X11_why_13, e_X11_why_16, e_X11_why_17, e_X11_why_18, e_X11_why_21, e_X11_why_23, e_X11_why_24, e_X11_why_26, e_X11_why_28, e_X11_why_28n, e_X11_why_29, e_X11_why_30, e_X11_why_32, e_X11_why_35, e_X11_why_38, e_X11_why_38n, e_X11_why_39, e_X11_why_40, e_X11_why_42, e_X11_why_45, e_X11_why_46, e_X11_why_47, e_X11_why_50, e_X11_why_50n, e_X11_why_51, e_X11_why_52, e_X11_why_54, e_X11_why_57, e_X11_why_58, e_X11_why_60, e_X11_why_61, e_X11_why_63, e_X11_why_66, e_X11_why_69, e_X11_why_71, mNl_i, mNl_r, mNl_n, mNl_l, mNl_0, mRV_s, mRV_n, tl_s, tl_n, cs_0, cs_i, cs_r, cs_n, cs_l, Nat.reduceAdd, Nat.reduceLeDiff, true_and, and_true, eq_self_iff_true, if_true, if_false, Nat.lt_irrefl, s_lit, s_eq, s_le, s_lt, nI_add, pk_mul, s_in, s_cl, bI_n, bI_zn, not_true, not_false_eq_true, true_implies, false_implies, Nat.reduceEqDiff, Nat.reduceMul, Classical.not_not, imp_self, implies_true, tt_z, tg_329, k_isPuppet tt_z, hpu, true_or]
    exact rAll_same hR (fun _ _ _ => rfl) rfl rfl rfl
/-- behind a kept call that may count changes of rest -/
theorem rAll_kept2 {n : Nat} {xs : Nat → Int32} {k : Nat} {I J M : Nat → Nat → Int32} {L L' : Nat → Nat → Int64} {kp nx : Nat} (hR : rAll n xs k I L) (hH : rH I kp nx) (hJ : ∀ x j, (51 ≤ x ∧ x < 294 ∨ x = 0 ∨ x = 1 ∨ x = 329 ∨ x = 330 ∨ x = 331 ∨ x = 332) → J x j = kpC I kp nx x j) (hM : ∀ x j, (x = 0 ∨ x = 1 ∨ 51 ≤ x ∧ x < 294 ∨ x = 329 ∧ j = 2 ∨ x = 331 ∨ x = 332) → M x j = kpM J kp x j) (hl : rL M) (hC : rC M L' (k + 1)) : rAll n xs (k + 1) M L' := by
  obtain ⟨⟨hkp, hnx⟩, ⟨e1, e2, e3⟩, -⟩ := id hH
  have hkc : ∀ j, kpM J kp 331 j = kpM I kp 331 j := kpM_congr (fun j => by rw [hJ _ _ (by omega), kpC_ne hnx (by omega)]) (fun j => by rw [hJ _ _ (by omega), kpC_ne hnx (by omega)])
  refine rAll_keep hR hH (fun x j h1 h2 => ?_) ?_ ?_ ?_ (fun j => ?_) hl hC (fun x j hx => ?_)
  · rw [hM _ _ (by omega), kpM_ne (by omega) (by omega), hJ _ _ (by omega), kpC_h (by omega)]
  · rw [hM _ _ (by omega), kpM_ne (by omega) (by omega), hJ _ _ (by omega), kpC_2]
  · rw [hM _ _ (by omega), kpM_ne (by omega) (by omega), hJ _ _ (by omega), kpC_3]
  · rw [hM _ _ (by omega), kpM_329 hkp]
  · rw [hM _ _ (by omega), hkc]
  · rw [hM _ _ (by omega), kpM_ne (by omega) (by omega), hJ _ _ (by omega), kpC_ne hnx (by omega)]
theorem sin_kc {I : Nat → Nat → Int32} {kp nx : Nat} (hnx : nx < 5) (hs : rSin I) : rSin (kpC I kp nx) := fun j hj => by rw [kpC_ne hnx (by omega), kpC_ne hnx (by omega)]; exact hs j hj
theorem sin_km {I : Nat → Nat → Int32} {kp : Nat} (hs : rSin I) : rSin (kpM I kp) := fun j hj => by rw [kpM_ne (by omega) (by omega), kpM_ne (by omega) (by omega)]; exact hs j hj
theorem isF_km {I : Nat → Nat → Int32} {kp p : Nat} {f : Nat → Int32} (hI : isF I p f) : isF (kpM I kp) p f := fun i hi => by rw [kpM_ne (by omega) (by omega)]; exact hI i hi
theorem op_rest {n : Nat} {xs : Nat → Int32} (pu nn : Int32) : opOK n xs C_X10_rest C_X11_rest [.int pu, .int nn] := by
  intro k I L hk hR
  obtain ⟨hl, ⟨kp, nx, hH⟩, hC, hT⟩ := id hR
  obtain ⟨⟨hkp, hnx⟩, ⟨e1, e2, e3⟩, -⟩ := id hH
  rcases pA_cases pu with ⟨p, a, hpa, rfl⟩ | hpu
  · obtain ⟨hp, ha1, ha2⟩ := pA_lt hpa
    obtain ⟨n1, q, m, tk, ps, h6⟩ := pA_rP hpa hl
    generalize hf : row I 330 (239 * p) = f at h6
    have hI : isF I p f := fun i _ => by rw [← hf]; rfl
    have ha : sPup (tt n) a := pA_sp hpa
    have hV := fInv_of h6
    have hA := hV.1
    have hn1 : n1 ≤ 6 := h6.1.1
    have hm : m ≤ 12 := hA.2.2.2.1
    have hpp := pA_pup hpa
    obtain ⟨t1, r0, r1, r2, r3, r4⟩ := ha.2.1
    obtain ⟨tL, w0, w1, w2, w3⟩ := ha.2.2.1
    obtain ⟨tS, -, -⟩ := ha.2.2.2.1
    obtain ⟨tC, -, -⟩ := ha.2.2.2.2.1
    obtain ⟨tH, y0, y1, y2, y3, y4, y5⟩ := ha.2.2.2.2.2.1
    obtain ⟨tG, g0, g1, g2, g3⟩ := ha.2.2.2.2.2.2.1
    obtain ⟨⟨s1, s2⟩, ⟨s3, s4⟩, ⟨s5, s6⟩, ⟨s7, s8⟩, -, -, -, -, ⟨s13, z13⟩, ⟨s14, z14⟩, ⟨s15, z15⟩, ⟨s16, z16⟩, ⟨s17, z17⟩, ⟨s18, z18⟩, ⟨s20, z20⟩, ⟨s21, z21⟩, ⟨s22, z22⟩, ⟨s23, z23⟩⟩ := ha.2.2.2.2.2.2.2
    have v1 : I (a + 1) 4 = nI n1 := h6.1.2.1
    have v2 : I 330 (239 * p + 0) = nI n1 := by rw [hI _ (by omega)]; exact hV.2.2.1
    have v5 : I (a + 12) 6 = nI m := h6.2.2.2.2.2.1.2.1
    have v6 : I 330 (239 * p + 55) = nI m := by rw [hI _ (by omega)]; exact hV.2.2.2.1
    by_cases hw : wi (nI 1) nn (nI 300)
    · have hw2 := hw
      obtain ⟨N, hN, rfl⟩ : ∃ N, N ≤ 300 ∧ nn = nI N := by
        have b1 := Int32.le_iff_toInt_le.mp hw2.1
        have b2 := Int32.le_iff_toInt_le.mp hw2.2
        rw [s_toI (by omega)] at b1 b2
        exact ⟨nn.toInt.toNat, by omega, Int32.toInt_inj.mp (by rw [s_toI (by omega)]; omega)⟩
      have h6c : rP6 (blk (kpC I kp nx) a) f n1 q m tk ps := rP6_congr (fun off j hq => by have := pAll_lt hq; exact kpC_ne hnx (by omega)) (fun _ _ => rfl) h6
      simp (disch := omega) only [c_X10_rest, e_X10_rest_0, e_X10_rest_0n, e_X10_rest_1, e_X10_rest_2, e_X10_rest_5, e_X10_rest_5n, e_X10_rest_6, e_X10_rest_6n, e_X10_rest_7, e_X10_rest_7n, e_X10_rest_10, e_X10_rest_11, e_X10_rest_12, e_X10_rest_15, e_X10_rest_18, e_X10_rest_21, e_X10_rest_24, e_X10_rest_25, e_X10_rest_25n, e_X10_rest_26, e_X10_rest_29, e_X10_rest_29n, e_X10_rest_30, e_X10_rest_33, e_X10_rest_33n, e_X10_rest_34, e_X10_rest_37, e_X10_rest_40, e_X10_rest_40n, e_X10_rest_41, e_X10_rest_44, e_X10_rest_44n, e_X10_rest_45, e_X10_rest_46, e_X10_rest_49, e_X10_rest_51, e_X10_rest_51n, e_X10_rest_52, e_X10_rest_52i, e_X10_rest_53, e_X10_rest_56, e_X10_rest_58, e_X10_rest_59, e_X10_rest_60, e_X10_rest_63, e_X10_rest_65, e_X10_rest_66, mNl_i, mNl_r, mNl_n, mNl_l, mNl_0, mRV_s, mRV_n, tl_s, tl_n, cs_0, cs_i, cs_r, cs_n, cs_l, Nat.reduceAdd, Nat.reduceLeDiff, true_and, and_true, eq_self_iff_true, if_true, if_false, Nat.lt_irrefl, s_lit, s_eq, s_le, s_lt, nI_add, pk_mul, s_in, s_cl, bI_n, bI_zn, not_true, not_false_eq_true, true_implies, false_implies, Nat.reduceEqDiff, Nat.reduceMul, Classical.not_not, imp_self, implies_true, tt_z, tg_2, rf_2_0, rf_2_1, rf_2_2, rf_2_3, rf_2_4, rf_2_5, rf_2_6, rf_2_7, rf_2_8, rf_2_9, tg_51, tg_314, k_pupA hpa, k_isWithin, hw, k_kpC hnx hkp e1 e2]
      refine s_settle ha (by omega) (by omega) (sin_kc hnx hT.1) h6c (fun I1 L1 hF1 hs1 h61 => ?_)
      have i1 : ∀ x j, ¬ (x = a + 5 ∧ j < 6) → ¬ (315 < x ∧ x ≤ 324) → I1 x j = kpC I kp nx x j := hF1.1
      have l1 : L1 2 10 = L 2 10 := hF1.2 2 10 (by omega)
      simp (disch := omega) only [e_X10_rest_0, e_X10_rest_0n, e_X10_rest_1, e_X10_rest_2, e_X10_rest_5, e_X10_rest_5n, e_X10_rest_6, e_X10_rest_6n, e_X10_rest_7, e_X10_rest_7n, e_X10_rest_10, e_X10_rest_11, e_X10_rest_12, e_X10_rest_15, e_X10_rest_18, e_X10_rest_21, e_X10_rest_24, e_X10_rest_25, e_X10_rest_25n, e_X10_rest_26, e_X10_rest_29, e_X10_rest_29n, e_X10_rest_30, e_X10_rest_33, e_X10_rest_33n, e_X10_rest_34, e_X10_rest_37, e_X10_rest_40, e_X10_rest_40n, e_X10_rest_41, e_X10_rest_44, e_X10_rest_44n, e_X10_rest_45, e_X10_rest_46, e_X10_rest_49, e_X10_rest_51, e_X10_rest_51n, e_X10_rest_52, e_X10_rest_52i, e_X10_rest_53, e_X10_rest_56, e_X10_rest_58, e_X10_rest_59, e_X10_rest_60, e_X10_rest_63, e_X10_rest_65, e_X10_rest_66, mNl_i, mNl_r, mNl_n, mNl_l, mNl_0, mRV_s, mRV_n, tl_s, tl_n, cs_0, cs_i, cs_r, cs_n, cs_l, Nat.reduceAdd, Nat.reduceLeDiff, true_and, and_true, eq_self_iff_true, if_true, if_false, Nat.lt_irrefl, s_lit, s_eq, s_le, s_lt, nI_add, pk_mul, s_in, s_cl, bI_n, bI_zn, not_true, not_false_eq_true, true_implies, false_implies, Nat.reduceEqDiff, Nat.reduceMul, Classical.not_not, imp_self, implies_true, tt_z, tg_2, rf_2_0, rf_2_1, rf_2_2, rf_2_3, rf_2_4, rf_2_5, rf_2_6, rf_2_7, rf_2_8, rf_2_9]
      refine ⟨_, rfl, ?_⟩
      have e3' : I1 329 2 = nI kp := by rw [i1 _ _ (by omega) (by omega), kpC_ne hnx (by omega)]; exact e3
      have j330 : ∀ i, I1 330 i = I 330 i := fun i => by rw [i1 _ _ (by omega) (by omega), kpC_ne hnx (by omega)]
      have hS1 : SN (kpM I1 kp) p f n1 q m := ⟨sin_km hs1, isF_km (fun i hi => by rw [j330]; exact hI i hi), hV⟩
      simp (disch := omega) only [c_X11_rest, e_X11_rest_0, e_X11_rest_1, e_X11_rest_4, e_X11_rest_7, e_X11_rest_8, e_X11_rest_9, e_X11_rest_12, e_X11_rest_15, e_X11_rest_18, e_X11_rest_21, e_X11_rest_22, e_X11_rest_22n, e_X11_rest_23, e_X11_rest_26, e_X11_rest_26n, e_X11_rest_27, e_X11_rest_28, e_X11_rest_29, e_X11_rest_32, e_X11_rest_33, e_X11_rest_33n, e_X11_rest_34, e_X11_rest_34i, e_X11_rest_35, e_X11_rest_38, e_X11_rest_39, e_X11_rest_40, e_X11_rest_43, e_X11_rest_44, e_X11_rest_45, mNl_i, mNl_r, mNl_n, mNl_l, mNl_0, mRV_s, mRV_n, tl_s, tl_n, cs_0, cs_i, cs_r, cs_n, cs_l, Nat.reduceAdd, Nat.reduceLeDiff, true_and, and_true, eq_self_iff_true, if_true, if_false, Nat.lt_irrefl, s_lit, s_eq, s_le, s_lt, nI_add, pk_mul, s_in, s_cl, bI_n, bI_zn, not_true, not_false_eq_true, true_implies, false_implies, Nat.reduceEqDiff, Nat.reduceMul, Classical.not_not, imp_self, implies_true, tt_z, tg_329, k_isPuppet tt_z, hpp, k_isIn, hw, k_keepM hkp e3']
      refine s_restM hp (by omega) hS1 (fun I2 L2 hF2 hS2 => ?_)
      have i2 : ∀ x j, ¬ (x = 330 ∧ 239 * p + 19 ≤ j ∧ j < 239 * p + 25) → x ≠ 337 → I2 x j = kpM I1 kp x j := hF2.1
      simp (disch := omega) only [e_X11_rest_0, e_X11_rest_1, e_X11_rest_4, e_X11_rest_7, e_X11_rest_8, e_X11_rest_9, e_X11_rest_12, e_X11_rest_15, e_X11_rest_18, e_X11_rest_21, e_X11_rest_22, e_X11_rest_22n, e_X11_rest_23, e_X11_rest_26, e_X11_rest_26n, e_X11_rest_27, e_X11_rest_28, e_X11_rest_29, e_X11_rest_32, e_X11_rest_33, e_X11_rest_33n, e_X11_rest_34, e_X11_rest_34i, e_X11_rest_35, e_X11_rest_38, e_X11_rest_39, e_X11_rest_40, e_X11_rest_43, e_X11_rest_44, e_X11_rest_45, mNl_i, mNl_r, mNl_n, mNl_l, mNl_0, mRV_s, mRV_n, tl_s, tl_n, cs_0, cs_i, cs_r, cs_n, cs_l, Nat.reduceAdd, Nat.reduceLeDiff, true_and, and_true, eq_self_iff_true, if_true, if_false, Nat.lt_irrefl, s_lit, s_eq, s_le, s_lt, nI_add, pk_mul, s_in, s_cl, bI_n, bI_zn, not_true, not_false_eq_true, true_implies, false_implies, Nat.reduceEqDiff, Nat.reduceMul, Classical.not_not, imp_self, implies_true, tt_z, tg_329]
      have hrl := rsS_le (n1 := n1) (q := q) (m := m) N f
      generalize rsS n1 q m N f = R at h61 hS2 hrl hF2 ⊢
      have m3 : I2 329 3 = I 329 3 := by rw [i2 _ _ (by omega) (by omega), kpM_ne (by omega) (by omega), i1 _ _ (by omega) (by omega), kpC_ne hnx (by omega)]
      refine rAll_kept2 hR hH (J := I1) (fun x j h => i1 _ _ (by omega) (by omega)) (fun x j h => by rw [mUI_no (by omega), i2 _ _ (by omega) (by omega)]) (pA_rL hpa hl ⟨n1, q, m, tk, ps, rP6_congr (fun off j hq => ?_) (fun i hi => ?_) h61⟩ (fun x j g1 g2 g3 => ?_) (fun j g1 g2 => ?_)) ?_
      · have := pAll_lt hq
        show mUI I2 329 3 _ (a + off) j = I1 (a + off) j
        rw [mUI_no (by omega), i2 _ _ (by omega) (by omega), kpM_ne (by omega) (by omega)]
      · show mUI I2 329 3 _ 330 (239 * p + i) = _
        rw [mUI_no (by omega)]; exact hS2.2.1 i hi
      · rw [mUI_no (by omega), i2 _ _ (by omega) (by omega), kpM_ne (by omega) (by omega), i1 _ _ (by omega) (by omega), kpC_ne hnx (by omega)]
      · rw [mUI_no (by omega), i2 _ _ (by omega) (by omega), kpM_ne (by omega) (by omega), j330]
      · obtain ⟨r, c1, c2, c3⟩ := hC
        refine ⟨r + R.1, by omega, ?_, ?_⟩
        · rw [mUI_yes ⟨rfl, rfl⟩, m3, c2, nI_add]
        · rw [hF2.2 2 10 (by omega) (by omega), mUL_yes ⟨rfl, rfl⟩, l1, c3, nI_l6 (by omega), nI_l6 (by omega), nI_l6 (by omega), i6_add]
          congr 1
    · simp (disch := omega) only [c_X10_rest, e_X10_rest_0, e_X10_rest_0n, e_X10_rest_1, e_X10_rest_2, e_X10_rest_5, e_X10_rest_5n, e_X10_rest_6, e_X10_rest_6n, e_X10_rest_7, e_X10_rest_7n, e_X10_rest_10, e_X10_rest_11, e_X10_rest_12, e_X10_rest_15, e_X10_rest_18, e_X10_rest_21, e_X10_rest_24, e_X10_rest_25, e_X10_rest_25n, e_X10_rest_26, e_X10_rest_29, e_X10_rest_29n, e_X10_rest_30, e_X10_rest_33, e_X10_rest_33n, e_X10_rest_34, e_X10_rest_37, e_X10_rest_40, e_X10_rest_40n, e_X10_rest_41, e_X10_rest_44, e_X10_rest_44n, e_X10_rest_45, e_X10_rest_46, e_X10_rest_49, e_X10_rest_51, e_X10_rest_51n, e_X10_rest_52, e_X10_rest_52i, e_X10_rest_53, e_X10_rest_56, e_X10_rest_58, e_X10_rest_59, e_X10_rest_60, e_X10_rest_63, e_X10_rest_65, e_X10_rest_66, mNl_i, mNl_r, mNl_n, mNl_l, mNl_0, mRV_s, mRV_n, tl_s, tl_n, cs_0, cs_i, cs_r, cs_n, cs_l, Nat.reduceAdd, Nat.reduceLeDiff, true_and, and_true, eq_self_iff_true, if_true, if_false, Nat.lt_irrefl, s_lit, s_eq, s_le, s_lt, nI_add, pk_mul, s_in, s_cl, bI_n, bI_zn, not_true, not_false_eq_true, true_implies, false_implies, Nat.reduceEqDiff, Nat.reduceMul, Classical.not_not, imp_self, implies_true, tt_z, tg_2, rf_2_0, rf_2_1, rf_2_2, rf_2_3, rf_2_4, rf_2_5, rf_2_6, rf_2_7, rf_2_8, rf_2_9, k_pupA hpa, k_isWithin, hw]
      refine ⟨_, rfl, ?_⟩
      simp (disch := omega) only [c_X11_rest, e_X11_rest_0, e_X11_rest_1, e_X11_rest_4, e_X11_rest_7, e_X11_rest_8, e_X11_rest_9, e_X11_rest_12, e_X11_rest_15, e_X11_rest_18, e_X11_rest_21, e_X11_rest_22, e_X11_rest_22n, e_X11_rest_23, e_X11_rest_26, e_X11_rest_26n, e_X11_rest_27, e_X11_rest_28, e_X11_rest_29, e_X11_rest_32, e_X11_rest_33, e_X11_rest_33n, e_X11_rest_34, e_X11_rest_34i, e_X11_rest_35, e_X11_rest_38, e_X11_rest_39, e_X11_rest_40, e_X11_rest_43, e_X11_rest_44, e_X11_rest_45, mNl_i, mNl_r, mNl_n, mNl_l, mNl_0, mRV_s, mRV_n, tl_s, tl_n, cs_0, cs_i, cs_r, cs_n, cs_l, Nat.reduceAdd, Nat.reduceLeDiff, true_and, and_true, eq_self_iff_true, if_true, if_false, Nat.lt_irrefl, s_lit, s_eq, s_le, s_lt, nI_add, pk_mul, s_in, s_cl, bI_n, bI_zn, not_true, not_false_eq_true, true_implies, false_implies, Nat.reduceEqDiff, Nat.reduceMul, Classical.not_not, imp_self, implies_true, tt_z, tg_329, k_isPuppet tt_z, hpp, k_isIn, hw]
      exact rAll_same hR (fun _ _ _ => rfl) rfl rfl rfl
  · simp (disch := omega) only [c_X10_rest, e_X10_rest_0, e_X10_rest_0n, e_X10_rest_1, e_X10_rest_2, e_X10_rest_5, e_X10_rest_5n, e_X10_rest_6, e_X10_rest_6n, e_X10_rest_7, e_X10_rest_7n, e_X10_rest_10, e_X10_rest_11, e_X10_rest_12, e_X10_rest_15, e_X10_rest_18, e_X10_rest_21, e_X10_rest_24, e_X10_rest_25, e_X10_rest_25n, e_X10_rest_26, e_X10_rest_29, e_X10_rest_29n, e_X10_rest_30, e_X10_rest_33, e_X10_rest_33n, e_X10_rest_34, e_X10_rest_37, e_X10_rest_40, e_X10_rest_40n, e_X10_rest_41, e_X10_rest_44, e_X10_rest_44n, e_X10_rest_45, e_X10_rest_46, e_X10_rest_49, e_X10_rest_51, e_X10_rest_51n, e_X10_rest_52, e_X10_rest_52i, e_X10_rest_53, e_X10_rest_56, e_X10_rest_58, e_X10_rest_59, e_X10_rest_60, e_X10_rest_63, e_X10_rest_65, e_X10_rest_66, mNl_i, mNl_r, mNl_n, mNl_l, mNl_0, mRV_s, mRV_n, tl_s, tl_n, cs_0, cs_i, cs_r, cs_n, cs_l, Nat.reduceAdd, Nat.reduceLeDiff, true_and, and_true, eq_self_iff_true, if_true, if_false, Nat.lt_irrefl, s_lit, s_eq, s_le, s_lt, nI_add, pk_mul, s_in, s_cl, bI_n, bI_zn, not_true, not_false_eq_true, true_implies, false_implies, Nat.reduceEqDiff, Nat.reduceMul, Classical.not_not, imp_self, implies_true, tt_z, tg_2, rf_2_0, rf_2_1, rf_2_2, rf_2_3, rf_2_4, rf_2_5, rf_2_6, rf_2_7, rf_2_8, rf_2_9, k_puppetOf, pup_n0 hpu, pup_n1 hpu]
    refine ⟨_, rfl, ?_⟩
    simp (disch := omega) only [c_X11_rest, e_X11_rest_0, e_X11_rest_1, e_X11_rest_4, e_X11_rest_7, e_X11_rest_8, e_X11_rest_9, e_X11_rest_12, e_X11_rest_15, e_X11_rest_18, e_X11_rest_21, e_X11_rest_22, e_X11_rest_22n, e_X11_rest_23, e_X11_rest_26, e_X11_rest_26n, e_X11_rest_27, e_X11_rest_28, e_X11_rest_29, e_X11_rest_32, e_X11_rest_33, e_X11_rest_33n, e_X11_rest_34, e_X11_rest_34i, e_X11_rest_35, e_X11_rest_38, e_X11_rest_39, e_X11_rest_40, e_X11_rest_43, e_X11_rest_44, e_X11_rest_45, mNl_i, mNl_r, mNl_n, mNl_l, mNl_0, mRV_s, mRV_n, tl_s, tl_n, cs_0, cs_i, cs_r, cs_n, cs_l, Nat.reduceAdd, Nat.reduceLeDiff, true_and, and_true, eq_self_iff_true, if_true, if_false, Nat.lt_irrefl, s_lit, s_eq, s_le, s_lt, nI_add, pk_mul, s_in, s_cl, bI_n, bI_zn, not_true, not_false_eq_true, true_implies, false_implies, Nat.reduceEqDiff, Nat.reduceMul, Classical.not_not, imp_self, implies_true, tt_z, tg_329, k_isPuppet tt_z, hpu, true_or]
    exact rAll_same hR (fun _ _ _ => rfl) rfl rfl rfl
