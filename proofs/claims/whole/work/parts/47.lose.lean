/-! lose: promise 3 -/
def loC (a : Nat) (v : Int32) : Nat → Nat → (Nat → Nat → Int32) → Nat × (Nat → Nat → Int32)
  | 0, m, I => (m, I)
  | i + 1, m, I => if I (a + 15) i = v then loC a v i (m - 1) (rmC I a i m) else loC a v i m I
def loM (b : Nat) (v : Int32) : Nat → Nat → (Nat → Nat → Int32) → Nat × (Nat → Nat → Int32)
  | 0, m, I => (m, I)
  | i + 1, m, I => if I 330 (b + (56 + 6 * i + 1)) = v then loM b v i (m - 1) (dpM I b i m) else loM b v i m I
theorem n_dec {i : Nat} : nI i + -nI 1 = nI i - nI 1 := (Int32.sub_eq_add_neg _ _).symm
section
variable {Q : mQo} {n : Nat} {L : Nat → Nat → Int64}
theorem l_all {t : mTT} {a : Nat} {v : Int32} (hz : mZr t = t) (ha : sPup t a) : ∀ (i m : Nat) (I : Nat → Nat → Int32), i ≤ m → m ≤ 12 → I (a + 12) 6 = nI m → mWP tb_X4_removeAllOn Q 7 [some (.ref (a + 12)), some (.int v), some (.int (nI i - nI 1))] [] (t, I, L) = Q none (t, (loC a v i m I).2, L) := by
  obtain ⟨-, -, -, -, -, ⟨b0, b1, b2, b3, b4, b5, b6⟩, -, -, -, -, -, -, -, -, -, -, -, ⟨s1, s2⟩, -⟩ := id ha
  intro i
  induction i with
  | zero =>
    intro m I hi hm hI
    simp (disch := omega) only [e_X4_removeAllOn_7, e_X4_removeAllOn_8, e_X4_removeAllOn_32, mNl_i, mNl_r, mNl_n, mNl_l, mNl_0, mRV_s, mRV_n, tl_s, tl_n, cs_0, cs_i, cs_r, cs_n, cs_l, Nat.reduceAdd, Nat.reduceLeDiff, true_and, and_true, eq_self_iff_true, if_true, if_false, Nat.lt_irrefl, s_lit, s_eq, s_le, s_lt, nI_add, pk_mul, s_in, s_cl, bI_n, bI_zn, not_true, not_false_eq_true, true_implies, false_implies, Nat.reduceEqDiff, Nat.reduceMul, Classical.not_not, imp_self, implies_true, show (nI 0 - nI 1 < nI 0) = True from eq_true (by decide), loC]
  | succ i ih =>
    intro m I hi hm hI
    have e : nI (i + 1) - nI 1 = nI i := s_sub (by omega)
    rw [e, e_X4_removeAllOn_7]
    by_cases h : I (a + 15) i = v
    · simp (disch := omega) only [e_X4_removeAllOn_0, e_X4_removeAllOn_0n, e_X4_removeAllOn_1, e_X4_removeAllOn_4, e_X4_removeAllOn_5, e_X4_removeAllOn_6, e_X4_removeAllOn_8, e_X4_removeAllOn_11, e_X4_removeAllOn_11n, e_X4_removeAllOn_12, e_X4_removeAllOn_15, e_X4_removeAllOn_16, e_X4_removeAllOn_17, e_X4_removeAllOn_18, e_X4_removeAllOn_21, e_X4_removeAllOn_21n, e_X4_removeAllOn_22, e_X4_removeAllOn_23, e_X4_removeAllOn_26, e_X4_removeAllOn_29, mNl_i, mNl_r, mNl_n, mNl_l, mNl_0, mRV_s, mRV_n, tl_s, tl_n, cs_0, cs_i, cs_r, cs_n, cs_l, Nat.reduceAdd, Nat.reduceLeDiff, true_and, and_true, eq_self_iff_true, if_true, if_false, Nat.lt_irrefl, s_lit, s_eq, s_le, s_lt, nI_add, pk_mul, s_in, s_cl, bI_n, bI_zn, not_true, not_false_eq_true, true_implies, false_implies, Nat.reduceEqDiff, Nat.reduceMul, Classical.not_not, imp_self, implies_true, hz, b0, b1, b2, b3, b4, b5, b6, s1, s2, h, k_remove hz ha hm hI (show i < m by omega), n_dec, show (i < 0) = False from eq_false (by omega), show i < 12 from by omega, loC]
      rw [ih (m - 1) _ (by omega) (by omega) rmC_6]
    · simp (disch := omega) only [e_X4_removeAllOn_0, e_X4_removeAllOn_0n, e_X4_removeAllOn_1, e_X4_removeAllOn_4, e_X4_removeAllOn_5, e_X4_removeAllOn_6, e_X4_removeAllOn_8, e_X4_removeAllOn_11, e_X4_removeAllOn_11n, e_X4_removeAllOn_12, e_X4_removeAllOn_15, e_X4_removeAllOn_16, e_X4_removeAllOn_17, e_X4_removeAllOn_18, e_X4_removeAllOn_21, e_X4_removeAllOn_21n, e_X4_removeAllOn_22, e_X4_removeAllOn_23, e_X4_removeAllOn_26, e_X4_removeAllOn_29, mNl_i, mNl_r, mNl_n, mNl_l, mNl_0, mRV_s, mRV_n, tl_s, tl_n, cs_0, cs_i, cs_r, cs_n, cs_l, Nat.reduceAdd, Nat.reduceLeDiff, true_and, and_true, eq_self_iff_true, if_true, if_false, Nat.lt_irrefl, s_lit, s_eq, s_le, s_lt, nI_add, pk_mul, s_in, s_cl, bI_n, bI_zn, not_true, not_false_eq_true, true_implies, false_implies, Nat.reduceEqDiff, Nat.reduceMul, Classical.not_not, imp_self, implies_true, hz, b0, b1, b2, b3, b4, b5, b6, s1, s2, h, n_dec, show (i < 0) = False from eq_false (by omega), show i < 12 from by omega, loC]
      rw [ih m _ (by omega) (by omega) hI]
theorem l_lose {p : Nat} {v : Int32} (hp : p < 2) : ∀ (i m : Nat) (I : Nat → Nat → Int32), i ≤ m → m ≤ 12 → I 330 (239 * p + 55) = nI m → mWP tb_X11_lose Q 42 [some (.ref 329), some (.int (nI p)), some (.int v), some (.int (nI i - nI 1))] [] (tt n, I, L) = mWP tb_X11_lose Q 69 [some (.ref 329), some (.int (nI p)), some (.int v), some (.int (nI 0 - nI 1))] [] (tt n, (loM (239 * p) v i m I).2, L) := by
  intro i
  induction i with
  | zero =>
    intro m I hi hm hI
    simp (disch := omega) only [e_X11_lose_42, e_X11_lose_43, mNl_i, mNl_r, mNl_n, mNl_l, mNl_0, mRV_s, mRV_n, tl_s, tl_n, cs_0, cs_i, cs_r, cs_n, cs_l, Nat.reduceAdd, Nat.reduceLeDiff, true_and, and_true, eq_self_iff_true, if_true, if_false, Nat.lt_irrefl, s_lit, s_eq, s_le, s_lt, nI_add, pk_mul, s_in, s_cl, bI_n, bI_zn, not_true, not_false_eq_true, true_implies, false_implies, Nat.reduceEqDiff, Nat.reduceMul, Classical.not_not, imp_self, implies_true, show (nI 0 - nI 1 < nI 0) = True from eq_true (by decide), loM]
  | succ i ih =>
    intro m I hi hm hI
    have e : nI (i + 1) - nI 1 = nI i := s_sub (by omega)
    rw [e, e_X11_lose_42]
    by_cases h : I 330 (239 * p + (56 + 6 * i + 1)) = v
    · have h' : ofM I p i 1 = v := h
      simp (disch := omega) only [e_X11_lose_0, e_X11_lose_1, e_X11_lose_4, e_X11_lose_7, e_X11_lose_10, e_X11_lose_11, e_X11_lose_11n, e_X11_lose_12, e_X11_lose_13, e_X11_lose_14, e_X11_lose_17, e_X11_lose_18, e_X11_lose_19, e_X11_lose_20, e_X11_lose_21, e_X11_lose_24, e_X11_lose_27, e_X11_lose_28, e_X11_lose_28n, e_X11_lose_29, e_X11_lose_32, e_X11_lose_32n, e_X11_lose_33, e_X11_lose_34, e_X11_lose_36, e_X11_lose_39, e_X11_lose_40, e_X11_lose_41, e_X11_lose_43, e_X11_lose_46, e_X11_lose_46n, e_X11_lose_47, e_X11_lose_48, e_X11_lose_49, e_X11_lose_50, e_X11_lose_53, e_X11_lose_54, e_X11_lose_57, e_X11_lose_57n, e_X11_lose_58, e_X11_lose_59, e_X11_lose_60, e_X11_lose_63, e_X11_lose_66, e_X11_lose_70, e_X11_lose_71, e_X11_lose_72, e_X11_lose_73, e_X11_lose_76, e_X11_lose_76n, e_X11_lose_77, e_X11_lose_78, e_X11_lose_81, e_X11_lose_82, e_X11_lose_85, e_X11_lose_85n, e_X11_lose_86, e_X11_lose_87, e_X11_lose_88, e_X11_lose_89, e_X11_lose_90, e_X11_lose_93, e_X11_lose_94, mNl_i, mNl_r, mNl_n, mNl_l, mNl_0, mRV_s, mRV_n, tl_s, tl_n, cs_0, cs_i, cs_r, cs_n, cs_l, Nat.reduceAdd, Nat.reduceLeDiff, true_and, and_true, eq_self_iff_true, if_true, if_false, Nat.lt_irrefl, s_lit, s_eq, s_le, s_lt, nI_add, pk_mul, s_in, s_cl, bI_n, bI_zn, not_true, not_false_eq_true, true_implies, false_implies, Nat.reduceEqDiff, Nat.reduceMul, Classical.not_not, imp_self, implies_true, tt_z, tg_329, k_of, h', h, k_dropHold hp hI (show i < m by omega) hm, n_dec, show (i < 0) = False from eq_false (by omega), loM]
      rw [ih (m - 1) _ (by omega) (by omega) dpM_6]
    · have h' : ¬ ofM I p i 1 = v := h
      simp (disch := omega) only [e_X11_lose_0, e_X11_lose_1, e_X11_lose_4, e_X11_lose_7, e_X11_lose_10, e_X11_lose_11, e_X11_lose_11n, e_X11_lose_12, e_X11_lose_13, e_X11_lose_14, e_X11_lose_17, e_X11_lose_18, e_X11_lose_19, e_X11_lose_20, e_X11_lose_21, e_X11_lose_24, e_X11_lose_27, e_X11_lose_28, e_X11_lose_28n, e_X11_lose_29, e_X11_lose_32, e_X11_lose_32n, e_X11_lose_33, e_X11_lose_34, e_X11_lose_36, e_X11_lose_39, e_X11_lose_40, e_X11_lose_41, e_X11_lose_43, e_X11_lose_46, e_X11_lose_46n, e_X11_lose_47, e_X11_lose_48, e_X11_lose_49, e_X11_lose_50, e_X11_lose_53, e_X11_lose_54, e_X11_lose_57, e_X11_lose_57n, e_X11_lose_58, e_X11_lose_59, e_X11_lose_60, e_X11_lose_63, e_X11_lose_66, e_X11_lose_70, e_X11_lose_71, e_X11_lose_72, e_X11_lose_73, e_X11_lose_76, e_X11_lose_76n, e_X11_lose_77, e_X11_lose_78, e_X11_lose_81, e_X11_lose_82, e_X11_lose_85, e_X11_lose_85n, e_X11_lose_86, e_X11_lose_87, e_X11_lose_88, e_X11_lose_89, e_X11_lose_90, e_X11_lose_93, e_X11_lose_94, mNl_i, mNl_r, mNl_n, mNl_l, mNl_0, mRV_s, mRV_n, tl_s, tl_n, cs_0, cs_i, cs_r, cs_n, cs_l, Nat.reduceAdd, Nat.reduceLeDiff, true_and, and_true, eq_self_iff_true, if_true, if_false, Nat.lt_irrefl, s_lit, s_eq, s_le, s_lt, nI_add, pk_mul, s_in, s_cl, bI_n, bI_zn, not_true, not_false_eq_true, true_implies, false_implies, Nat.reduceEqDiff, Nat.reduceMul, Classical.not_not, imp_self, implies_true, tt_z, tg_329, k_of, h', h, n_dec, show (i < 0) = False from eq_false (by omega), loM]
      rw [ih m _ (by omega) (by omega) hI]
end
theorem loC_ne {a : Nat} {v : Int32} {y k : Nat} (h : ¬ (y = a + 12 ∧ k = 6 ∨ a + 13 ≤ y ∧ y ≤ a + 18)) : ∀ (i m : Nat) (I : Nat → Nat → Int32), (loC a v i m I).2 y k = I y k := by
  intro i
  induction i with
  | zero => intro m I; rfl
  | succ i ih =>
    intro m I
    unfold loC
    by_cases e : I (a + 15) i = v
    · rw [if_pos e, ih, rmC_ne (by omega)]
    · rw [if_neg e, ih]
theorem loM_ne {b : Nat} {v : Int32} {y k : Nat} (h : ¬ (y = 330 ∧ b + 55 ≤ k ∧ k < b + 122)) : ∀ (i m : Nat) (I : Nat → Nat → Int32), (loM b v i m I).2 y k = I y k := by
  intro i
  induction i with
  | zero => intro m I; rfl
  | succ i ih =>
    intro m I
    unfold loM
    by_cases e : I 330 (b + (56 + 6 * i + 1)) = v
    · rw [if_pos e, ih, dpM_ne (by omega)]
    · rw [if_neg e, ih]
theorem lo_rel {a b n q tk ps : Nat} {v : Int32} : ∀ (i m : Nat) (I J : Nat → Nat → Int32), i ≤ m → rP6 (blk I a) (row J 330 b) n q m tk ps → (∀ h, i ≤ h → h < m → row J 330 b (57 + 6 * h) ≠ v) → ∃ m', rP6 (blk (loC a v i m I).2 a) (row (loM b v i m J).2 330 b) n q m' tk ps ∧ ∀ h, h < m' → row (loM b v i m J).2 330 b (57 + 6 * h) ≠ v := by
  intro i
  induction i with
  | zero => intro m I J hi hP hv; exact ⟨m, hP, fun h hh => hv h (by omega) hh⟩
  | succ i ih =>
    intro m I J hi hP hv
    have hm := hP.2.2.2.2.2.1.1
    have e1 : I (a + 15) i = J 330 (b + (57 + 6 * i)) := (hP.2.2.2.2.2.1.2.2.2 i (by omega)).1.2.1
    have e2 : J 330 (b + (56 + 6 * i + 1)) = J 330 (b + (57 + 6 * i)) := by congr 1; omega
    unfold loC loM
    rw [e1, e2]
    by_cases e : J 330 (b + (57 + 6 * i)) = v
    · rw [if_pos e, if_pos e]
      refine ih (m - 1) _ _ (by omega) (rP_drop hP (show i < m by omega) (fun off k hq hn => ?_) rmC_6 (fun off k h1 h2 h3 => ?_) (fun k hk hn => ?_) dpM_6 (fun k h1 h2 => ?_)) (fun h h1 h2 => ?_)
      · exact rmC_ne (by omega)
      · exact rmC_s (by omega)
      · exact dpM_ne (by omega)
      · exact (dpM_s (by omega)).trans (congrArg (J 330) (Nat.add_assoc b k 6))
      · have g : row (dpM J b i m) 330 b (57 + 6 * h) = row J 330 b (57 + 6 * (h + 1)) := (dpM_s (by omega)).trans (congrArg (J 330) (by omega))
        rw [g]
        exact hv (h + 1) (by omega) (by omega)
    · rw [if_neg e, if_neg e]
      refine ih m _ _ (by omega) hP (fun h h1 h2 => ?_)
      by_cases g : h = i
      · subst g; exact e
      · exact hv h (by omega) h2
