/-! ===== both ways to a root ===== -/
theorem nw_hi {S g r : Int} (h0 : 0 ≤ r) (h1 : r * r ≤ S) (h2 : S < (r + 1) * (r + 1)) (hg : r < g) : S / g ≤ r ∧ 0 ≤ S / g := by
  have hg0 : 0 < g := by omega
  have hS : 0 ≤ S := Int.le_trans (Int.mul_nonneg h0 h0) h1
  refine ⟨?_, Int.ediv_nonneg hS (by omega)⟩
  have : S / g < r + 1 := Int.ediv_lt_of_lt_mul hg0 (Int.lt_of_lt_of_le h2 (Int.mul_le_mul_of_nonneg_left (show r + 1 ≤ g by omega) (by omega)))
  omega
/-- a guess is never below the root -/
theorem nw_lo {S g r : Int} (h0 : 0 ≤ r) (h1 : r * r ≤ S) (hg : 0 < g) : r ≤ (g + S / g) / 2 := by
  have h3 : g * (S / g) + S % g = S := Int.mul_ediv_add_emod S g
  have h4 : S % g < g := Int.emod_lt_of_pos S hg
  have h6 : (g + S / g) / 2 = (g + S / g) / 2 := rfl
  refine Int.not_lt.mp (fun h => ?_)
  have h7 : g + S / g + 1 ≤ 2 * r := by omega
  -- S < g (S/g + 1) ≤ g (2 r - 1 - g), and (r - g)² ≥ 0
  generalize hq : S / g = q at *
  have h8 : g * (q + 1) ≤ g * (2 * r - g) := Int.mul_le_mul_of_nonneg_left (by omega) (by omega)
  have h9 : 0 ≤ (r - g) * (r - g) := by
    rcases Int.le_total 0 (r - g) with z | z
    · exact Int.mul_nonneg z z
    · exact Int.mul_nonneg_of_nonpos_of_nonpos z z
  simp only [Int.sub_mul, Int.mul_sub, Int.mul_add] at h8 h9
  have e1 : g * r = r * g := Int.mul_comm g r
  have e2 : g * (2 * r) = 2 * (r * g) := by rw [← Int.mul_assoc, Int.mul_comm g 2, Int.mul_assoc, e1]
  omega
theorem nw_st {S g r : Int} (h0 : 0 ≤ r) (h1 : r * r ≤ S) (hg : 0 < g) (hr : r ≤ g) (h : ¬ (g + S / g) / 2 < g) (h2 : S < (r + 1) * (r + 1)) : g = r := by
  rcases Int.lt_or_eq_of_le hr with z | z
  · exfalso
    have := nw_hi h0 h1 h2 z
    omega
  · exact z.symm
theorem sq_nn (x : Int) : 0 ≤ x * x := by
  rcases Int.le_total 0 x with z | z
  · exact Int.mul_nonneg z z
  · exact Int.mul_nonneg_of_nonpos_of_nonpos z z
theorem sq_b {x B : Int} (h1 : -B ≤ x) (h2 : x ≤ B) : x * x ≤ B * B := (mul_b h1 h2 h1 h2).2
theorem nw_g {w v : Int} (h1 : 0 ≤ v) (h2 : v ≤ w) : w * w + v * v ≤ (w + (v + 1) / 2) * (w + (v + 1) / 2) := by
  generalize hq : (v + 1) / 2 = q
  have h3 : v ≤ 2 * q := by omega
  have h4 : w * v ≤ w * (2 * q) := Int.mul_le_mul_of_nonneg_left h3 (by omega)
  have h5 : v * v ≤ w * v := Int.mul_le_mul_of_nonneg_right h2 h1
  have h6 : 0 ≤ q * q := sq_nn q
  have h7 : w * (2 * q) = 2 * (w * q) := by rw [← Int.mul_assoc, Int.mul_comm w 2, Int.mul_assoc]
  have h8 : q * w = w * q := Int.mul_comm q w
  simp only [Int.add_mul, Int.mul_add]
  omega
section
variable {Q : mQo} {t : mTT} {I : Nat → Nat → Int32} {L : Nat → Nat → Int64}
theorem k_square {x y : Int} : C_X10_squareOf [.long (i6 x), .long (i6 y)] (t, I, L) Q = Q (some (.long (i6 (x * x + y * y)))) (t, I, L) := by
  simp only [c_X10_squareOf, e_X10_squareOf_0, e_X10_squareOf_1, e_X10_squareOf_2, e_X10_squareOf_3, e_X10_squareOf_4, e_X10_squareOf_5, e_X10_squareOf_6, e_X10_squareOf_7, mNl_i, mNl_r, mNl_n, mNl_l, mNl_0, mRV_s, mRV_n, tl_s, tl_n, cs_0, cs_i, cs_r, cs_n, cs_l, Nat.reduceAdd, Nat.reduceLeDiff, true_and, and_true, eq_self_iff_true, if_true, if_false, i6_mul, i6_add]
theorem k_squareM {x y : Int} : C_X11_square [.long (i6 x), .long (i6 y)] (t, I, L) Q = Q (some (.long (i6 (x * x + y * y)))) (t, I, L) := by
  simp only [c_X11_square, e_X11_square_0, e_X11_square_1, e_X11_square_2, e_X11_square_3, e_X11_square_4, e_X11_square_5, e_X11_square_6, e_X11_square_7, mNl_i, mNl_r, mNl_n, mNl_l, mNl_0, mRV_s, mRV_n, tl_s, tl_n, cs_0, cs_i, cs_r, cs_n, cs_l, Nat.reduceAdd, Nat.reduceLeDiff, true_and, and_true, eq_self_iff_true, if_true, if_false, i6_mul, i6_add]
theorem sq_lt {a b : Int} (h0 : 0 ≤ a) (h : a * a < b * b) (hb : 0 ≤ b) : a < b := by
  refine Int.not_le.mp (fun z => ?_)
  have := Int.mul_le_mul z z hb h0
  omega
/-- the end of distance: the guess is the root's floor -/
theorem l_dend {S r : Int} {a0 a1 a2 a3 a4 a5 a6 a7 a9 a11 a12 a13 a14 : Option Value} (h0 : 0 ≤ r) (h1 : r * r ≤ S) (h2 : S < (r + 1) * (r + 1)) (hS : S < 1000000000000000000) : mWP tb_X10_distance Q 98 [a0, a1, a2, a3, a4, a5, a6, a7, some (.long (i6 S)), a9, some (.long (i6 r)), a11, a12, a13, a14] [] (t, I, L) = Q (some (.long (i6 (cr S)))) (t, I, L) := by
  have hrr : 0 ≤ r * r := sq_nn r
  rw [fl_cr h0 h1 h2]
  by_cases h : r * r < S
  · rw [if_pos h]
    simp (disch := omega) only [e_X10_distance_0, e_X10_distance_1, e_X10_distance_4, e_X10_distance_5, e_X10_distance_8, e_X10_distance_11, e_X10_distance_13, e_X10_distance_14, e_X10_distance_17, e_X10_distance_18, e_X10_distance_21, e_X10_distance_24, e_X10_distance_26, e_X10_distance_27, e_X10_distance_28, e_X10_distance_31, e_X10_distance_33, e_X10_distance_35, e_X10_distance_37, e_X10_distance_38, e_X10_distance_39, e_X10_distance_42, e_X10_distance_43, e_X10_distance_44, e_X10_distance_46, e_X10_distance_47, e_X10_distance_51, e_X10_distance_53, e_X10_distance_56, e_X10_distance_58, e_X10_distance_59, e_X10_distance_60, e_X10_distance_63, e_X10_distance_65, e_X10_distance_67, e_X10_distance_69, e_X10_distance_70, e_X10_distance_71, e_X10_distance_74, e_X10_distance_75, e_X10_distance_77, e_X10_distance_79, e_X10_distance_81, e_X10_distance_82, e_X10_distance_85, e_X10_distance_88, e_X10_distance_90, e_X10_distance_92, e_X10_distance_95, e_X10_distance_98, e_X10_distance_100, e_X10_distance_102, e_X10_distance_103, e_X10_distance_105, e_X10_distance_106, e_X10_distance_109, e_X10_distance_111, e_X10_distance_112, e_X10_distance_113, e_X10_distance_116, e_X10_distance_118, mNl_i, mNl_r, mNl_n, mNl_l, mNl_0, mRV_s, mRV_n, tl_s, tl_n, cs_0, cs_i, cs_r, cs_n, cs_l, Nat.reduceAdd, Nat.reduceLeDiff, true_and, and_true, eq_self_iff_true, if_true, if_false, Nat.lt_irrefl, s_lit, s_eq, s_le, s_lt, nI_add, pk_mul, s_in, s_cl, bI_n, bI_zn, not_true, not_false_eq_true, true_implies, false_implies, Nat.reduceEqDiff, Nat.reduceMul, Classical.not_not, imp_self, implies_true, i6_mul, q_ge, i6_le, i6_1, i6_add, show (S ≤ r * r) = False from eq_false (by omega)]
  · rw [if_neg h]
    simp (disch := omega) only [e_X10_distance_0, e_X10_distance_1, e_X10_distance_4, e_X10_distance_5, e_X10_distance_8, e_X10_distance_11, e_X10_distance_13, e_X10_distance_14, e_X10_distance_17, e_X10_distance_18, e_X10_distance_21, e_X10_distance_24, e_X10_distance_26, e_X10_distance_27, e_X10_distance_28, e_X10_distance_31, e_X10_distance_33, e_X10_distance_35, e_X10_distance_37, e_X10_distance_38, e_X10_distance_39, e_X10_distance_42, e_X10_distance_43, e_X10_distance_44, e_X10_distance_46, e_X10_distance_47, e_X10_distance_51, e_X10_distance_53, e_X10_distance_56, e_X10_distance_58, e_X10_distance_59, e_X10_distance_60, e_X10_distance_63, e_X10_distance_65, e_X10_distance_67, e_X10_distance_69, e_X10_distance_70, e_X10_distance_71, e_X10_distance_74, e_X10_distance_75, e_X10_distance_77, e_X10_distance_79, e_X10_distance_81, e_X10_distance_82, e_X10_distance_85, e_X10_distance_88, e_X10_distance_90, e_X10_distance_92, e_X10_distance_95, e_X10_distance_98, e_X10_distance_100, e_X10_distance_102, e_X10_distance_103, e_X10_distance_105, e_X10_distance_106, e_X10_distance_109, e_X10_distance_111, e_X10_distance_112, e_X10_distance_113, e_X10_distance_116, e_X10_distance_118, mNl_i, mNl_r, mNl_n, mNl_l, mNl_0, mRV_s, mRV_n, tl_s, tl_n, cs_0, cs_i, cs_r, cs_n, cs_l, Nat.reduceAdd, Nat.reduceLeDiff, true_and, and_true, eq_self_iff_true, if_true, if_false, Nat.lt_irrefl, s_lit, s_eq, s_le, s_lt, nI_add, pk_mul, s_in, s_cl, bI_n, bI_zn, not_true, not_false_eq_true, true_implies, false_implies, Nat.reduceEqDiff, Nat.reduceMul, Classical.not_not, imp_self, implies_true, i6_mul, q_ge, i6_le, i6_1, i6_add, show (S ≤ r * r) = True from eq_true (by omega)]
theorem l_dist {S r : Int} {a0 a1 a2 a3 a4 a5 a6 a7 : Option Value} (h0 : 0 < r) (h1 : r * r ≤ S) (h2 : S < (r + 1) * (r + 1)) (hS : S < 1000000000000000000) : ∀ (d i : Nat) (g : Int) (a13 a14 : Option Value), i + d = 64 → r ≤ g → g < 1000000000000000000 → g - r < (2 : Int) ^ d → mWP tb_X10_distance Q 49 [a0, a1, a2, a3, a4, a5, a6, a7, some (.long (i6 S)), none, some (.long (i6 g)), none, some (.int (nI i)), a13, a14] [] (t, I, L) = Q (some (.long (i6 (cr S)))) (t, I, L) := by
  intro d
  induction d with
  | zero =>
    intro i g a13 a14 hi hr hg hd
    have e : g = r := by simp only [Int.pow_zero] at hd; omega
    subst e
    have hi : i = 64 := by omega
    subst hi
    simp (disch := omega) only [e_X10_distance_49, e_X10_distance_51, e_X10_distance_53, mNl_i, mNl_r, mNl_n, mNl_l, mNl_0, mRV_s, mRV_n, tl_s, tl_n, cs_0, cs_i, cs_r, cs_n, cs_l, Nat.reduceAdd, Nat.reduceLeDiff, true_and, and_true, eq_self_iff_true, if_true, if_false, Nat.lt_irrefl, s_lit, s_eq, s_le, s_lt, nI_add, pk_mul, s_in, s_cl, bI_n, bI_zn, not_true, not_false_eq_true, true_implies, false_implies, Nat.reduceEqDiff, Nat.reduceMul, Classical.not_not, imp_self, implies_true, Nat.le_refl]
    exact l_dend (by omega) h1 h2 hS
  | succ d ih =>
    intro i g a13 a14 hi hr hg hd
    have hS0 : 0 ≤ S := Int.le_trans (sq_nn r) h1
    have g0 : 0 < g := by omega
    have hq := nw_lo (S := S) (g := g) (by omega) h1 g0
    have hq0 : 0 ≤ S / g := Int.ediv_nonneg hS0 (by omega)
    have hqS : S / g ≤ S := Int.ediv_le_self g hS0
    have ne0 : (i6 g = i6 0) = False := by rw [i6_eq (by omega) (by omega) (by omega) (by omega)]; exact eq_false (by omega)
    have ne2 : (i6 2 = i6 0) = False := by rw [i6_eq (by omega) (by omega) (by omega) (by omega)]; exact eq_false (by omega)
    rw [e_X10_distance_49]
    by_cases h : (g + S / g) / 2 < g
    · simp (disch := omega) only [e_X10_distance_0, e_X10_distance_1, e_X10_distance_4, e_X10_distance_5, e_X10_distance_8, e_X10_distance_11, e_X10_distance_13, e_X10_distance_14, e_X10_distance_17, e_X10_distance_18, e_X10_distance_21, e_X10_distance_24, e_X10_distance_26, e_X10_distance_27, e_X10_distance_28, e_X10_distance_31, e_X10_distance_33, e_X10_distance_35, e_X10_distance_37, e_X10_distance_38, e_X10_distance_39, e_X10_distance_42, e_X10_distance_43, e_X10_distance_44, e_X10_distance_46, e_X10_distance_47, e_X10_distance_51, e_X10_distance_53, e_X10_distance_56, e_X10_distance_58, e_X10_distance_59, e_X10_distance_60, e_X10_distance_63, e_X10_distance_65, e_X10_distance_67, e_X10_distance_69, e_X10_distance_70, e_X10_distance_71, e_X10_distance_74, e_X10_distance_75, e_X10_distance_77, e_X10_distance_79, e_X10_distance_81, e_X10_distance_82, e_X10_distance_85, e_X10_distance_88, e_X10_distance_90, e_X10_distance_92, e_X10_distance_95, e_X10_distance_100, e_X10_distance_102, e_X10_distance_103, e_X10_distance_105, e_X10_distance_106, e_X10_distance_109, e_X10_distance_111, e_X10_distance_112, e_X10_distance_113, e_X10_distance_116, e_X10_distance_118, mNl_i, mNl_r, mNl_n, mNl_l, mNl_0, mRV_s, mRV_n, tl_s, tl_n, cs_0, cs_i, cs_r, cs_n, cs_l, Nat.reduceAdd, Nat.reduceLeDiff, true_and, and_true, eq_self_iff_true, if_true, if_false, Nat.lt_irrefl, s_lit, s_eq, s_le, s_lt, nI_add, pk_mul, s_in, s_cl, bI_n, bI_zn, not_true, not_false_eq_true, true_implies, false_implies, Nat.reduceEqDiff, Nat.reduceMul, Classical.not_not, imp_self, implies_true, i6_0, i6_2, q_le, q_lt, i6_le, i6_lt, i6_div, i6_add, ne0, ne2, h, show (64 ≤ i) = False from eq_false (by omega), show (g ≤ 0) = False from eq_false (by omega)]
      refine ih (i + 1) _ _ _ (by omega) hq (by omega) ?_
      rcases Int.lt_or_eq_of_le hr with z | z
      · have := nw_hi (by omega) h1 h2 z
        have e2 : (2 : Int) ^ (d + 1) = 2 ^ d * 2 := Int.pow_succ 2 d
        omega
      · exfalso; omega
    · have e := nw_st (by omega) h1 g0 hr h h2
      subst e
      simp (disch := omega) only [e_X10_distance_0, e_X10_distance_1, e_X10_distance_4, e_X10_distance_5, e_X10_distance_8, e_X10_distance_11, e_X10_distance_13, e_X10_distance_14, e_X10_distance_17, e_X10_distance_18, e_X10_distance_21, e_X10_distance_24, e_X10_distance_26, e_X10_distance_27, e_X10_distance_28, e_X10_distance_31, e_X10_distance_33, e_X10_distance_35, e_X10_distance_37, e_X10_distance_38, e_X10_distance_39, e_X10_distance_42, e_X10_distance_43, e_X10_distance_44, e_X10_distance_46, e_X10_distance_47, e_X10_distance_51, e_X10_distance_53, e_X10_distance_56, e_X10_distance_58, e_X10_distance_59, e_X10_distance_60, e_X10_distance_63, e_X10_distance_65, e_X10_distance_67, e_X10_distance_69, e_X10_distance_70, e_X10_distance_71, e_X10_distance_74, e_X10_distance_75, e_X10_distance_77, e_X10_distance_79, e_X10_distance_81, e_X10_distance_82, e_X10_distance_85, e_X10_distance_88, e_X10_distance_90, e_X10_distance_92, e_X10_distance_95, e_X10_distance_100, e_X10_distance_102, e_X10_distance_103, e_X10_distance_105, e_X10_distance_106, e_X10_distance_109, e_X10_distance_111, e_X10_distance_112, e_X10_distance_113, e_X10_distance_116, e_X10_distance_118, mNl_i, mNl_r, mNl_n, mNl_l, mNl_0, mRV_s, mRV_n, tl_s, tl_n, cs_0, cs_i, cs_r, cs_n, cs_l, Nat.reduceAdd, Nat.reduceLeDiff, true_and, and_true, eq_self_iff_true, if_true, if_false, Nat.lt_irrefl, s_lit, s_eq, s_le, s_lt, nI_add, pk_mul, s_in, s_cl, bI_n, bI_zn, not_true, not_false_eq_true, true_implies, false_implies, Nat.reduceEqDiff, Nat.reduceMul, Classical.not_not, imp_self, implies_true, i6_0, i6_2, q_le, q_lt, i6_le, i6_lt, i6_div, i6_add, ne0, ne2, h, show (64 ≤ i) = False from eq_false (by omega), show (g ≤ 0) = False from eq_false (by omega)]
      exact l_dend (by omega) h1 h2 hS
def mxI (x y : Int) : Int := if y < x then x else y
def mnI (x y : Int) : Int := if y < x then y else x
def abI (x : Int) : Int := if 0 < x then x else -x
theorem i6_ab {x : Int} (h1 : -1000000000000000000 ≤ x) (h2 : x < 1000000000000000000) : (if i6 0 < i6 x then i6 x else -i6 x) = i6 (abI x) := by
  unfold abI
  by_cases h : 0 < x
  · rw [if_pos (by rw [i6_lt (by omega) (by omega) (by omega) (by omega)]; exact h), if_pos h]
  · rw [if_neg (by rw [i6_lt (by omega) (by omega) (by omega) (by omega)]; exact h), if_neg h, i6_neg]
theorem i6_mx {x y : Int} (h1 : -1000000000000000000 ≤ x) (h2 : x ≤ 1000000000000000000) (h3 : -1000000000000000000 ≤ y) (h4 : y ≤ 1000000000000000000) : (if i6 y < i6 x then i6 x else i6 y) = i6 (mxI x y) := by
  unfold mxI
  by_cases h : y < x
  · rw [if_pos (by rw [i6_lt (by omega) (by omega) (by omega) (by omega)]; exact h), if_pos h]
  · rw [if_neg (by rw [i6_lt (by omega) (by omega) (by omega) (by omega)]; exact h), if_neg h]
theorem i6_mn {x y : Int} (h1 : -1000000000000000000 ≤ x) (h2 : x ≤ 1000000000000000000) (h3 : -1000000000000000000 ≤ y) (h4 : y ≤ 1000000000000000000) : (if i6 y < i6 x then i6 y else i6 x) = i6 (mnI x y) := by
  unfold mnI
  by_cases h : y < x
  · rw [if_pos (by rw [i6_lt (by omega) (by omega) (by omega) (by omega)]; exact h), if_pos h]
  · rw [if_neg (by rw [i6_lt (by omega) (by omega) (by omega) (by omega)]; exact h), if_neg h]
theorem ab_b {x B : Int} (h1 : -B ≤ x) (h2 : x ≤ B) : 0 ≤ abI x ∧ abI x ≤ B := by unfold abI; split <;> omega
theorem ab_sq (x : Int) : abI x * abI x = x * x := by
  unfold abI; split
  · rfl
  · rw [Int.neg_mul_neg]
theorem mx_b {x y B : Int} (h1 : 0 ≤ x ∧ x ≤ B) (h2 : 0 ≤ y ∧ y ≤ B) : (0 ≤ mxI x y ∧ mxI x y ≤ B) ∧ (0 ≤ mnI x y ∧ mnI x y ≤ B) ∧ mnI x y ≤ mxI x y ∧ mxI x y * mxI x y + mnI x y * mnI x y = x * x + y * y := by
  unfold mxI mnI; split
  · exact ⟨h1, h2, by omega, rfl⟩
  · exact ⟨h2, h1, by omega, Int.add_comm _ _⟩
theorem k_dist {x y : Int} (hx1 : -100000000 ≤ x) (hx2 : x ≤ 100000000) (hy1 : -100000000 ≤ y) (hy2 : y ≤ 100000000) (hz : mZr t = t) : C_X10_distance [.long (i6 x), .long (i6 y)] (t, I, L) Q = Q (some (.long (i6 (cr (x * x + y * y))))) (t, I, L) := by
  have bx := ab_b hx1 hx2
  have bY := ab_b hy1 hy2
  obtain ⟨b1, b2, b3, b4⟩ := mx_b bx bY
  rw [ab_sq, ab_sq] at b4
  have s1 : 0 ≤ x * x := sq_nn x
  have s2 : 0 ≤ y * y := sq_nn y
  have s3 : x * x ≤ 100000000 * 100000000 := sq_b hx1 hx2
  have s4 : y * y ≤ 100000000 * 100000000 := sq_b hy1 hy2
  obtain ⟨r, r0, r1, r2⟩ := flI_ex (show 0 ≤ x * x + y * y by omega)
  have hG := nw_g b2.1 b3
  rw [b4] at hG
  generalize hw : mxI (abI x) (abI y) = w at *
  generalize hv : mnI (abI x) (abI y) = v at *
  generalize hS : x * x + y * y = S at *
  have hgr : r ≤ w + (v + 1) / 2 := by
    refine Int.not_lt.mp (fun z => ?_)
    have hlt : (w + (v + 1) / 2) * (w + (v + 1) / 2) < r * r := by
      have z0 : 0 ≤ w + (v + 1) / 2 := by omega
      have z1 : (w + (v + 1) / 2) * (w + (v + 1) / 2) ≤ r * (w + (v + 1) / 2) := Int.mul_le_mul_of_nonneg_right (by omega) z0
      have z2 : r * (w + (v + 1) / 2) < r * r := Int.mul_lt_mul_of_pos_left z (by omega)
      omega
    omega
  have ne2 : (i6 2 = i6 0) = False := by rw [i6_eq (by omega) (by omega) (by omega) (by omega)]; exact eq_false (by omega)
  have x1 := i6_ab (x := x) (by omega) (by omega)
  have x2 := i6_ab (x := y) (by omega) (by omega)
  have x3 := i6_mx (x := abI x) (y := abI y) (by omega) (by omega) (by omega) (by omega)
  have x4 := i6_mn (x := abI x) (y := abI y) (by omega) (by omega) (by omega) (by omega)
  rw [hw] at x3
  rw [hv] at x4
  by_cases hr : r = 0
  · subst hr
    have hw0 : x * x + y * y = 0 := by rw [hS]; simp only [Int.zero_add, Int.mul_one] at r2; omega
    have hgz : w + (v + 1) / 2 = 0 := by
      have : w * w + v * v = 0 := by omega
      have w2 : 0 ≤ w * w := sq_nn w
      have v2 : 0 ≤ v * v := sq_nn v
      have hw1 : ¬ 1 ≤ w := fun z => by have := Int.mul_le_mul z z (by omega) (by omega : (0:Int) ≤ w); omega
      have hv1 : ¬ 1 ≤ v := fun z => by have := Int.mul_le_mul z z (by omega) (by omega : (0:Int) ≤ v); omega
      omega
    simp (disch := omega) only [c_X10_distance, e_X10_distance_0, e_X10_distance_1, e_X10_distance_4, e_X10_distance_5, e_X10_distance_8, e_X10_distance_11, e_X10_distance_13, e_X10_distance_14, e_X10_distance_17, e_X10_distance_18, e_X10_distance_21, e_X10_distance_24, e_X10_distance_26, e_X10_distance_27, e_X10_distance_28, e_X10_distance_31, e_X10_distance_33, e_X10_distance_35, e_X10_distance_37, e_X10_distance_38, e_X10_distance_39, e_X10_distance_42, e_X10_distance_43, e_X10_distance_44, e_X10_distance_46, e_X10_distance_47, e_X10_distance_49, e_X10_distance_51, e_X10_distance_53, e_X10_distance_56, e_X10_distance_58, e_X10_distance_59, e_X10_distance_60, e_X10_distance_65, e_X10_distance_67, e_X10_distance_69, e_X10_distance_70, e_X10_distance_71, e_X10_distance_74, e_X10_distance_75, e_X10_distance_77, e_X10_distance_79, e_X10_distance_81, e_X10_distance_82, e_X10_distance_85, e_X10_distance_88, e_X10_distance_90, e_X10_distance_92, e_X10_distance_95, e_X10_distance_100, e_X10_distance_102, e_X10_distance_103, e_X10_distance_105, e_X10_distance_106, e_X10_distance_109, e_X10_distance_111, e_X10_distance_112, e_X10_distance_113, e_X10_distance_116, e_X10_distance_118, mNl_i, mNl_r, mNl_n, mNl_l, mNl_0, mRV_s, mRV_n, tl_s, tl_n, cs_0, cs_i, cs_r, cs_n, cs_l, Nat.reduceAdd, Nat.reduceLeDiff, true_and, and_true, eq_self_iff_true, if_true, if_false, Nat.lt_irrefl, s_lit, s_eq, s_le, s_lt, nI_add, pk_mul, s_in, s_cl, bI_n, bI_zn, not_true, not_false_eq_true, true_implies, false_implies, Nat.reduceEqDiff, Nat.reduceMul, Classical.not_not, imp_self, implies_true, hz, k_square, hS, i6_0, i6_1, i6_2, x1, x2, x3, x4, i6_add, i6_div, ne2, hgz, q_le, i6_le, Int.le_refl, show (64 ≤ 0) = False from eq_false (by omega)]
    exact l_dend (by omega) r1 r2 (by omega)
  · simp (disch := omega) only [c_X10_distance, e_X10_distance_0, e_X10_distance_1, e_X10_distance_4, e_X10_distance_5, e_X10_distance_8, e_X10_distance_11, e_X10_distance_13, e_X10_distance_14, e_X10_distance_17, e_X10_distance_18, e_X10_distance_21, e_X10_distance_24, e_X10_distance_26, e_X10_distance_27, e_X10_distance_28, e_X10_distance_31, e_X10_distance_33, e_X10_distance_35, e_X10_distance_37, e_X10_distance_38, e_X10_distance_39, e_X10_distance_42, e_X10_distance_43, e_X10_distance_44, e_X10_distance_46, e_X10_distance_47, e_X10_distance_51, e_X10_distance_53, e_X10_distance_56, e_X10_distance_58, e_X10_distance_59, e_X10_distance_60, e_X10_distance_63, e_X10_distance_65, e_X10_distance_67, e_X10_distance_69, e_X10_distance_70, e_X10_distance_71, e_X10_distance_74, e_X10_distance_75, e_X10_distance_77, e_X10_distance_79, e_X10_distance_81, e_X10_distance_82, e_X10_distance_85, e_X10_distance_88, e_X10_distance_90, e_X10_distance_92, e_X10_distance_95, e_X10_distance_98, e_X10_distance_100, e_X10_distance_102, e_X10_distance_103, e_X10_distance_105, e_X10_distance_106, e_X10_distance_109, e_X10_distance_111, e_X10_distance_112, e_X10_distance_113, e_X10_distance_116, e_X10_distance_118, mNl_i, mNl_r, mNl_n, mNl_l, mNl_0, mRV_s, mRV_n, tl_s, tl_n, cs_0, cs_i, cs_r, cs_n, cs_l, Nat.reduceAdd, Nat.reduceLeDiff, true_and, and_true, eq_self_iff_true, if_true, if_false, Nat.lt_irrefl, s_lit, s_eq, s_le, s_lt, nI_add, pk_mul, s_in, s_cl, bI_n, bI_zn, not_true, not_false_eq_true, true_implies, false_implies, Nat.reduceEqDiff, Nat.reduceMul, Classical.not_not, imp_self, implies_true, hz, k_square, hS, i6_0, i6_1, i6_2, x1, x2, x3, x4, i6_add, i6_div, ne2]
    have p64 : (2 : Int) ^ 64 = 18446744073709551616 := by decide
    exact l_dist (by omega) r1 r2 (by omega) 64 0 _ _ _ (by omega) hgr (by omega) (by rw [p64]; omega)
theorem l_root {S : Int} (h0 : 0 ≤ S) (hS : S < 1000000000000000000) : ∀ (d : Nat) (lo hi : Int) (a6 a7 : Option Value), 0 ≤ lo → lo ≤ hi → hi ≤ 2000000000 → S ≤ hi * hi → (lo = 0 ∨ (lo - 1) * (lo - 1) < S) → hi - lo < (2 : Int) ^ d → mWP tb_X11_root Q 7 [some (.long (i6 S)), none, some (.long (i6 lo)), none, some (.long (i6 hi)), none, a6, a7] [] (t, I, L) = Q (some (.long (i6 (cr S)))) (t, I, L) := by
  intro d
  induction d with
  | zero =>
    intro lo hi a6 a7 h1 h2 h3 h4 h5 h6
    have e : hi = lo := by simp only [Int.pow_zero] at h6; omega
    subst e
    rw [cr_eq ⟨h1, h4, h5⟩]
    simp (disch := omega) only [e_X11_root_0, e_X11_root_1, e_X11_root_2, e_X11_root_5, e_X11_root_7, e_X11_root_8, e_X11_root_10, e_X11_root_11, e_X11_root_15, e_X11_root_17, e_X11_root_18, e_X11_root_21, e_X11_root_22, e_X11_root_24, e_X11_root_26, e_X11_root_28, e_X11_root_29, e_X11_root_30, e_X11_root_31, e_X11_root_34, e_X11_root_36, e_X11_root_38, e_X11_root_41, e_X11_root_43, e_X11_root_44, e_X11_root_45, e_X11_root_46, e_X11_root_49, e_X11_root_50, mNl_i, mNl_r, mNl_n, mNl_l, mNl_0, mRV_s, mRV_n, tl_s, tl_n, cs_0, cs_i, cs_r, cs_n, cs_l, Nat.reduceAdd, Nat.reduceLeDiff, true_and, and_true, eq_self_iff_true, if_true, if_false, Nat.lt_irrefl, s_lit, s_eq, s_le, s_lt, nI_add, pk_mul, s_in, s_cl, bI_n, bI_zn, not_true, not_false_eq_true, true_implies, false_implies, Nat.reduceEqDiff, Nat.reduceMul, Classical.not_not, imp_self, implies_true, q_ge, i6_le, Int.le_refl]
  | succ d ih =>
    intro lo hi a6 a7 h1 h2 h3 h4 h5 h6
    by_cases e : hi = lo
    · subst e
      rw [cr_eq ⟨h1, h4, h5⟩]
      simp (disch := omega) only [e_X11_root_0, e_X11_root_1, e_X11_root_2, e_X11_root_5, e_X11_root_7, e_X11_root_8, e_X11_root_10, e_X11_root_11, e_X11_root_15, e_X11_root_17, e_X11_root_18, e_X11_root_21, e_X11_root_22, e_X11_root_24, e_X11_root_26, e_X11_root_28, e_X11_root_29, e_X11_root_30, e_X11_root_31, e_X11_root_34, e_X11_root_36, e_X11_root_38, e_X11_root_41, e_X11_root_43, e_X11_root_44, e_X11_root_45, e_X11_root_46, e_X11_root_49, e_X11_root_50, mNl_i, mNl_r, mNl_n, mNl_l, mNl_0, mRV_s, mRV_n, tl_s, tl_n, cs_0, cs_i, cs_r, cs_n, cs_l, Nat.reduceAdd, Nat.reduceLeDiff, true_and, and_true, eq_self_iff_true, if_true, if_false, Nat.lt_irrefl, s_lit, s_eq, s_le, s_lt, nI_add, pk_mul, s_in, s_cl, bI_n, bI_zn, not_true, not_false_eq_true, true_implies, false_implies, Nat.reduceEqDiff, Nat.reduceMul, Classical.not_not, imp_self, implies_true, q_ge, i6_le, Int.le_refl]
    · have ne2 : (i6 2 = i6 0) = False := by rw [i6_eq (by omega) (by omega) (by omega) (by omega)]; exact eq_false (by omega)
      have e2 : (2 : Int) ^ (d + 1) = 2 ^ d * 2 := Int.pow_succ 2 d
      have hm0 : lo ≤ (lo + hi) / 2 := by omega
      have hm1 : (lo + hi) / 2 < hi := by omega
      have mm : (lo + hi) / 2 * ((lo + hi) / 2) ≤ 2000000000 * 2000000000 := sq_b (by omega) (by omega)
      have m0 : 0 ≤ (lo + hi) / 2 * ((lo + hi) / 2) := sq_nn _
      rw [e_X11_root_7]
      by_cases h : (lo + hi) / 2 * ((lo + hi) / 2) < S
      · simp (disch := omega) only [e_X11_root_0, e_X11_root_1, e_X11_root_2, e_X11_root_5, e_X11_root_8, e_X11_root_10, e_X11_root_11, e_X11_root_14, e_X11_root_15, e_X11_root_17, e_X11_root_18, e_X11_root_21, e_X11_root_22, e_X11_root_24, e_X11_root_26, e_X11_root_28, e_X11_root_29, e_X11_root_30, e_X11_root_31, e_X11_root_34, e_X11_root_36, e_X11_root_38, e_X11_root_41, e_X11_root_43, e_X11_root_44, e_X11_root_45, e_X11_root_46, e_X11_root_50, mNl_i, mNl_r, mNl_n, mNl_l, mNl_0, mRV_s, mRV_n, tl_s, tl_n, cs_0, cs_i, cs_r, cs_n, cs_l, Nat.reduceAdd, Nat.reduceLeDiff, true_and, and_true, eq_self_iff_true, if_true, if_false, Nat.lt_irrefl, s_lit, s_eq, s_le, s_lt, nI_add, pk_mul, s_in, s_cl, bI_n, bI_zn, not_true, not_false_eq_true, true_implies, false_implies, Nat.reduceEqDiff, Nat.reduceMul, Classical.not_not, imp_self, implies_true, q_ge, q_lt, i6_0, i6_1, i6_2, i6_le, i6_lt, i6_add, i6_mul, i6_div, ne2, h, show (hi ≤ lo) = False from eq_false (by omega)]
        refine ih _ _ _ _ (by omega) (by omega) h3 h4 (Or.inr ?_) (by omega)
        rw [show (lo + hi) / 2 + 1 - 1 = (lo + hi) / 2 by omega]; exact h
      · simp (disch := omega) only [e_X11_root_0, e_X11_root_1, e_X11_root_2, e_X11_root_5, e_X11_root_8, e_X11_root_10, e_X11_root_11, e_X11_root_14, e_X11_root_15, e_X11_root_17, e_X11_root_18, e_X11_root_21, e_X11_root_22, e_X11_root_24, e_X11_root_26, e_X11_root_28, e_X11_root_29, e_X11_root_30, e_X11_root_31, e_X11_root_34, e_X11_root_36, e_X11_root_38, e_X11_root_41, e_X11_root_43, e_X11_root_44, e_X11_root_45, e_X11_root_46, e_X11_root_50, mNl_i, mNl_r, mNl_n, mNl_l, mNl_0, mRV_s, mRV_n, tl_s, tl_n, cs_0, cs_i, cs_r, cs_n, cs_l, Nat.reduceAdd, Nat.reduceLeDiff, true_and, and_true, eq_self_iff_true, if_true, if_false, Nat.lt_irrefl, s_lit, s_eq, s_le, s_lt, nI_add, pk_mul, s_in, s_cl, bI_n, bI_zn, not_true, not_false_eq_true, true_implies, false_implies, Nat.reduceEqDiff, Nat.reduceMul, Classical.not_not, imp_self, implies_true, q_ge, q_lt, i6_0, i6_1, i6_2, i6_le, i6_lt, i6_add, i6_mul, i6_div, ne2, h, show (hi ≤ lo) = False from eq_false (by omega)]
        exact ih _ _ _ _ h1 (by omega) (by omega) (by omega) h5 (by omega)
theorem k_root {S : Int} (h0 : 0 ≤ S) (hS : S < 1000000000000000000) : C_X11_root [.long (i6 S)] (t, I, L) Q = Q (some (.long (i6 (cr S)))) (t, I, L) := by
  simp (disch := omega) only [c_X11_root, e_X11_root_0, e_X11_root_1, e_X11_root_2, e_X11_root_5, e_X11_root_8, e_X11_root_10, e_X11_root_11, e_X11_root_14, e_X11_root_15, e_X11_root_17, e_X11_root_18, e_X11_root_21, e_X11_root_22, e_X11_root_24, e_X11_root_26, e_X11_root_28, e_X11_root_29, e_X11_root_30, e_X11_root_31, e_X11_root_34, e_X11_root_36, e_X11_root_38, e_X11_root_41, e_X11_root_43, e_X11_root_44, e_X11_root_45, e_X11_root_46, e_X11_root_49, e_X11_root_50, mNl_i, mNl_r, mNl_n, mNl_l, mNl_0, mRV_s, mRV_n, tl_s, tl_n, cs_0, cs_i, cs_r, cs_n, cs_l, Nat.reduceAdd, Nat.reduceLeDiff, true_and, and_true, eq_self_iff_true, if_true, if_false, Nat.lt_irrefl, s_lit, s_eq, s_le, s_lt, nI_add, pk_mul, s_in, s_cl, bI_n, bI_zn, not_true, not_false_eq_true, true_implies, false_implies, Nat.reduceEqDiff, Nat.reduceMul, Classical.not_not, imp_self, implies_true, i6_0, i6_2e9]
  exact l_root h0 hS 31 0 2000000000 _ _ (by omega) (by omega) (by omega) (by omega) (Or.inl rfl) (by decide)
end
