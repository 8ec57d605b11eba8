/-! ===== mirror: promise 33 ===== -/
def rwM (I : Nat → Nat → Int32) (p : Nat) (g : Nat → Int32) : Nat → Nat → Int32 := fun x j => if x = 330 ∧ 239 * p ≤ j ∧ j < 239 * p + 239 then g (j - 239 * p) else I x j
def uR (g : Nat → Int32) (w : Nat) (v : Int32) : Nat → Int32 := fun i => if i = w then v else g i
section
variable {I : Nat → Nat → Int32} {p w i : Nat} {g : Nat → Int32} {v : Int32}
theorem rw_y (h : w < 239) : rwM I p g 330 (239 * p + w) = g w := by
  unfold rwM; rw [if_pos (by omega), show 239 * p + w - 239 * p = w by omega]
theorem rw_n {x j : Nat} (h : ¬ (x = 330 ∧ 239 * p ≤ j ∧ j < 239 * p + 239)) : rwM I p g x j = I x j := by unfold rwM; rw [if_neg h]
theorem uR_y : uR g w v w = v := by unfold uR; rw [if_pos rfl]
theorem uR_n (h : i ≠ w) : uR g w v i = g i := by unfold uR; rw [if_neg h]
theorem rw_u (h : w < 239) : mUI (rwM I p g) 330 (239 * p + w) v = rwM I p (uR g w v) := by
  funext x j
  by_cases hx : x = 330 ∧ j = 239 * p + w
  · rw [mUI_yes hx, hx.1, hx.2, rw_y h, uR_y]
  · rw [mUI_no hx]
    unfold rwM
    by_cases e : x = 330 ∧ 239 * p ≤ j ∧ j < 239 * p + 239
    · rw [if_pos e, if_pos e, uR_n (by omega)]
    · rw [if_neg e, if_neg e]
theorem rw_i (hI : isF I p g) : rwM I p g = I := by
  funext x j
  by_cases e : x = 330 ∧ 239 * p ≤ j ∧ j < 239 * p + 239
  · obtain ⟨rfl, e1, e2⟩ := e
    obtain ⟨w, rfl⟩ : ∃ w, j = 239 * p + w := ⟨j - 239 * p, by omega⟩
    rw [rw_y (by omega), hI w (by omega)]
  · rw [rw_n e]
end
def mrA (g : Nat → Int32) (k : Nat) : Nat → Int32 := fun i => if 43 ≤ i ∧ i < 55 ∧ (i - 43) % 2 = 0 ∧ (i - 43) / 2 < k then -g i else if 19 ≤ i ∧ i < 25 ∧ i - 19 < k then -g i else if 28 ≤ i ∧ i < 40 ∧ (i - 28) / 2 < k then (if (i - 28) % 2 = 0 then -g (i + 1) else -g (i - 1)) else g i
def mrB (g : Nat → Int32) (t : Nat) : Nat → Int32 := fun i => if 130 ≤ i ∧ i < 166 ∧ (i - 130) / 3 < t ∧ (i - 130) % 3 ≠ 1 then -g i else if 167 ≤ i ∧ i < 167 + 6 * t then -g i else g i
def mrC (h : Nat → Int32) (t k : Nat) : Nat → Int32 := fun i => if 167 + 6 * t ≤ i ∧ i < 167 + 6 * t + k then -h i else h i
theorem mrA_n {g : Nat → Int32} {k i : Nat} (h : ¬ (43 ≤ i ∧ i < 55 ∧ (i - 43) % 2 = 0 ∧ (i - 43) / 2 < k)) (h' : ¬ (19 ≤ i ∧ i < 25 ∧ i - 19 < k)) (h'' : ¬ (28 ≤ i ∧ i < 40 ∧ (i - 28) / 2 < k)) : mrA g k i = g i := by unfold mrA; rw [if_neg h, if_neg h', if_neg h'']
theorem mrA_s {g : Nat → Int32} {k : Nat} (hk : k < 6) {v1 v2 v3 v4 : Int32} (h1 : v1 = -g (43 + 2 * k)) (h2 : v2 = -g (19 + k)) (h3 : v3 = -g (29 + 2 * k)) (h4 : v4 = -g (28 + 2 * k)) : uR (uR (uR (uR (mrA g k) (43 + 2 * k) v1) (19 + k) v2) (28 + 2 * k) v3) (29 + 2 * k) v4 = mrA g (k + 1) := by
  funext i
  by_cases e4 : i = 29 + 2 * k
  · rw [e4, uR_y, h4]
    unfold mrA
    rw [if_neg (by omega), if_neg (by omega), if_pos (by omega), if_neg (by omega), show 29 + 2 * k - 1 = 28 + 2 * k by omega]
  rw [uR_n e4]
  by_cases e3 : i = 28 + 2 * k
  · rw [e3, uR_y, h3]
    unfold mrA
    rw [if_neg (by omega), if_neg (by omega), if_pos (by omega), if_pos (by omega), show 28 + 2 * k + 1 = 29 + 2 * k by omega]
  rw [uR_n e3]
  by_cases e2 : i = 19 + k
  · rw [e2, uR_y, h2]
    unfold mrA
    rw [if_neg (by omega), if_pos (by omega)]
  rw [uR_n e2]
  by_cases e1 : i = 43 + 2 * k
  · rw [e1, uR_y, h1]
    unfold mrA
    rw [if_pos (by omega)]
  rw [uR_n e1]
  unfold mrA
  by_cases c1 : 43 ≤ i ∧ i < 55 ∧ (i - 43) % 2 = 0 ∧ (i - 43) / 2 < k
  · rw [if_pos c1, if_pos (show 43 ≤ i ∧ i < 55 ∧ (i - 43) % 2 = 0 ∧ (i - 43) / 2 < k + 1 by omega)]
  · rw [if_neg c1, if_neg (show ¬ (43 ≤ i ∧ i < 55 ∧ (i - 43) % 2 = 0 ∧ (i - 43) / 2 < k + 1) by omega)]
    by_cases c2 : 19 ≤ i ∧ i < 25 ∧ i - 19 < k
    · rw [if_pos c2, if_pos (show 19 ≤ i ∧ i < 25 ∧ i - 19 < k + 1 by omega)]
    · rw [if_neg c2, if_neg (show ¬ (19 ≤ i ∧ i < 25 ∧ i - 19 < k + 1) by omega)]
      by_cases c3 : 28 ≤ i ∧ i < 40 ∧ (i - 28) / 2 < k
      · rw [if_pos c3, if_pos (show 28 ≤ i ∧ i < 40 ∧ (i - 28) / 2 < k + 1 by omega)]
      · rw [if_neg c3, if_neg (show ¬ (28 ≤ i ∧ i < 40 ∧ (i - 28) / 2 < k + 1) by omega)]
theorem mrA_0 {g : Nat → Int32} : mrA g 0 = g := by funext i; exact mrA_n (by omega) (by omega) (by omega)
theorem mrC_s {h : Nat → Int32} {t k : Nat} {v : Int32} (hv : v = -h (167 + 6 * t + k)) : uR (mrC h t k) (167 + 6 * t + k) v = mrC h t (k + 1) := by
  funext i
  by_cases e : i = 167 + 6 * t + k
  · rw [e, uR_y, hv]; unfold mrC; rw [if_pos (by omega)]
  · rw [uR_n e]
    unfold mrC
    by_cases c : 167 + 6 * t ≤ i ∧ i < 167 + 6 * t + k
    · rw [if_pos c, if_pos (by omega)]
    · rw [if_neg c, if_neg (by omega)]
theorem mrC_n {h : Nat → Int32} {t k i : Nat} (hi : ¬ (167 + 6 * t ≤ i ∧ i < 167 + 6 * t + k)) : mrC h t k i = h i := by unfold mrC; rw [if_neg hi]
theorem mrC_0 {h : Nat → Int32} {t : Nat} : mrC h t 0 = h := by funext i; exact mrC_n (by omega)
theorem mrB_n {g : Nat → Int32} {t i : Nat} (h : ¬ (130 ≤ i ∧ i < 166 ∧ (i - 130) / 3 < t ∧ (i - 130) % 3 ≠ 1)) (h' : ¬ (167 ≤ i ∧ i < 167 + 6 * t)) : mrB g t i = g i := by unfold mrB; rw [if_neg h, if_neg h']
theorem mrB_0 {g : Nat → Int32} : mrB g 0 = g := by funext i; exact mrB_n (by omega) (by omega)
theorem mrB_s {g : Nat → Int32} {t : Nat} (ht : t < 12) {v1 v2 : Int32} (h1 : v1 = -g (130 + 3 * t)) (h2 : v2 = -g (132 + 3 * t)) : mrC (uR (uR (mrB g t) (130 + 3 * t) v1) (132 + 3 * t) v2) t 6 = mrB g (t + 1) := by
  funext i
  by_cases c : 167 + 6 * t ≤ i ∧ i < 167 + 6 * t + 6
  · unfold mrC
    rw [if_pos c, uR_n (by omega), uR_n (by omega), mrB_n (by omega) (by omega)]
    unfold mrB
    rw [if_neg (by omega), if_pos (by omega)]
  · rw [mrC_n c]
    by_cases e2 : i = 132 + 3 * t
    · rw [e2, uR_y, h2]
      unfold mrB
      rw [if_pos (by omega)]
    rw [uR_n e2]
    by_cases e1 : i = 130 + 3 * t
    · rw [e1, uR_y, h1]
      unfold mrB
      rw [if_pos (by omega)]
    rw [uR_n e1]
    unfold mrB
    by_cases c1 : 130 ≤ i ∧ i < 166 ∧ (i - 130) / 3 < t ∧ (i - 130) % 3 ≠ 1
    · rw [if_pos c1, if_pos (show 130 ≤ i ∧ i < 166 ∧ (i - 130) / 3 < t + 1 ∧ (i - 130) % 3 ≠ 1 by omega)]
    · rw [if_neg c1, if_neg (show ¬ (130 ≤ i ∧ i < 166 ∧ (i - 130) / 3 < t + 1 ∧ (i - 130) % 3 ≠ 1) by omega)]
      by_cases c2 : 167 ≤ i ∧ i < 167 + 6 * t
      · rw [if_pos c2, if_pos (show 167 ≤ i ∧ i < 167 + 6 * (t + 1) by omega)]
      · rw [if_neg c2, if_neg (show ¬ (167 ≤ i ∧ i < 167 + 6 * (t + 1)) by omega)]
section
variable {Q : mQo} {n : Nat} {I : Nat → Nat → Int32} {L : Nat → Nat → Int64} {p : Nat} {g : Nat → Int32}
theorem k_turnR {w : Nat} (hp : p < 2) (hw : w < 239) : C_X11_turn [.ref 329, .int (nI p), .int (nI w)] (tt n, rwM I p g, L) Q = Q none (tt n, rwM I p (uR g w (-g w)), L) := by
  rw [k_turn (by omega), rw_y hw, rw_u hw]
theorem k_getR {w : Nat} (hp : p < 2) (hw : w < 239) : C_X11_get [.ref 329, .int (nI p), .int (nI w)] (tt n, rwM I p g, L) Q = Q (some (.int (g w))) (tt n, rwM I p g, L) := by
  rw [k_get (by omega), rw_y hw]
theorem k_putR {w : Nat} {v : Int32} (hp : p < 2) (hw : w < 239) : C_X11_put [.ref 329, .int (nI p), .int (nI w), .int v] (tt n, rwM I p g, L) Q = Q none (tt n, rwM I p (uR g w v), L) := by
  rw [k_put (by omega), rw_u hw]
theorem l_mi1 (hp : p < 2) : ∀ (d k : Nat) (a3 : Option Value), k + d = 6 → ∃ a3', mWP tb_X11_mirror Q 50 [some (.ref 329), some (.int (nI p)), some (.int (nI k)), a3] [] (tt n, rwM I p (mrA g k), L) = mWP tb_X11_mirror Q 134 [some (.ref 329), some (.int (nI p)), some (.int (nI 6)), a3'] [] (tt n, rwM I p (mrA g 6), L) := by
  intro d
  induction d with
  | zero =>
    intro k a3 hk
    have : k = 6 := by omega
    subst this
    refine ⟨a3, ?_⟩
    simp (disch := omega) only [e_X11_mirror_50, e_X11_mirror_51, e_X11_mirror_53, mNl_i, mNl_r, mNl_n, mNl_l, mNl_0, mRV_s, mRV_n, tl_s, tl_n, cs_0, cs_i, cs_r, cs_n, cs_l, Nat.reduceAdd, Nat.reduceLeDiff, true_and, and_true, eq_self_iff_true, if_true, if_false, Nat.lt_irrefl, s_lit, s_eq, s_le, s_lt, nI_add, pk_mul, s_in, s_cl, bI_n, bI_zn, not_true, not_false_eq_true, true_implies, false_implies, Nat.reduceEqDiff, Nat.reduceMul, Classical.not_not, imp_self, implies_true, Nat.le_refl]
  | succ d ih =>
    intro k a3 hk
    obtain ⟨a3', h⟩ := ih (k + 1) (some (.int (mrA g k (28 + 2 * k)))) (by omega)
    refine ⟨a3', ?_⟩
    rw [← h, e_X11_mirror_50]
    have e : 28 + 2 * k + 1 = 29 + 2 * k := by omega
    simp (disch := omega) only [e_X11_mirror_0, e_X11_mirror_1, e_X11_mirror_4, e_X11_mirror_7, e_X11_mirror_10, e_X11_mirror_11, e_X11_mirror_11n, e_X11_mirror_12, e_X11_mirror_13, e_X11_mirror_16, e_X11_mirror_19, e_X11_mirror_22, e_X11_mirror_23, e_X11_mirror_23n, e_X11_mirror_24, e_X11_mirror_27, e_X11_mirror_27n, e_X11_mirror_28, e_X11_mirror_29, e_X11_mirror_31, e_X11_mirror_34, e_X11_mirror_34n, e_X11_mirror_35, e_X11_mirror_36, e_X11_mirror_38, e_X11_mirror_41, e_X11_mirror_41n, e_X11_mirror_42, e_X11_mirror_43, e_X11_mirror_45, e_X11_mirror_48, e_X11_mirror_49, e_X11_mirror_51, e_X11_mirror_53, e_X11_mirror_56, e_X11_mirror_56n, e_X11_mirror_57, e_X11_mirror_58, e_X11_mirror_60, e_X11_mirror_61, e_X11_mirror_62, e_X11_mirror_63, e_X11_mirror_64, e_X11_mirror_67, e_X11_mirror_67n, e_X11_mirror_68, e_X11_mirror_69, e_X11_mirror_71, e_X11_mirror_72, e_X11_mirror_73, e_X11_mirror_76, e_X11_mirror_76n, e_X11_mirror_77, e_X11_mirror_78, e_X11_mirror_80, e_X11_mirror_81, e_X11_mirror_82, e_X11_mirror_83, e_X11_mirror_84, e_X11_mirror_87, e_X11_mirror_88, e_X11_mirror_88n, e_X11_mirror_89, e_X11_mirror_90, e_X11_mirror_92, e_X11_mirror_93, e_X11_mirror_94, e_X11_mirror_95, e_X11_mirror_96, e_X11_mirror_96n, e_X11_mirror_97, e_X11_mirror_98, e_X11_mirror_100, e_X11_mirror_101, e_X11_mirror_102, e_X11_mirror_103, e_X11_mirror_104, e_X11_mirror_105, e_X11_mirror_106, e_X11_mirror_109, e_X11_mirror_110, e_X11_mirror_113, e_X11_mirror_113n, e_X11_mirror_114, e_X11_mirror_115, e_X11_mirror_117, e_X11_mirror_118, e_X11_mirror_119, e_X11_mirror_120, e_X11_mirror_121, e_X11_mirror_122, e_X11_mirror_123, e_X11_mirror_124, e_X11_mirror_125, e_X11_mirror_128, e_X11_mirror_131, e_X11_mirror_135, e_X11_mirror_136, e_X11_mirror_137, e_X11_mirror_139, e_X11_mirror_142, e_X11_mirror_142n, e_X11_mirror_143, e_X11_mirror_144, e_X11_mirror_147, e_X11_mirror_148, e_X11_mirror_149, e_X11_mirror_150, e_X11_mirror_151, e_X11_mirror_154, e_X11_mirror_154n, e_X11_mirror_155, e_X11_mirror_156, e_X11_mirror_159, e_X11_mirror_160, e_X11_mirror_161, e_X11_mirror_162, e_X11_mirror_163, e_X11_mirror_164, e_X11_mirror_165, e_X11_mirror_168, e_X11_mirror_169, e_X11_mirror_170, e_X11_mirror_171, e_X11_mirror_173, e_X11_mirror_176, e_X11_mirror_176n, e_X11_mirror_177, e_X11_mirror_178, e_X11_mirror_181, e_X11_mirror_183, e_X11_mirror_184, e_X11_mirror_185, e_X11_mirror_186, e_X11_mirror_187, e_X11_mirror_188, e_X11_mirror_191, e_X11_mirror_194, e_X11_mirror_197, e_X11_mirror_200, e_X11_mirror_203, e_X11_mirror_203n, e_X11_mirror_204, e_X11_mirror_205, e_X11_mirror_208, e_X11_mirror_209, e_X11_mirror_209n, e_X11_mirror_210, e_X11_mirror_211, e_X11_mirror_214, e_X11_mirror_217, e_X11_mirror_218, e_X11_mirror_221, e_X11_mirror_222, mNl_i, mNl_r, mNl_n, mNl_l, mNl_0, mRV_s, mRV_n, tl_s, tl_n, cs_0, cs_i, cs_r, cs_n, cs_l, Nat.reduceAdd, Nat.reduceLeDiff, true_and, and_true, eq_self_iff_true, if_true, if_false, Nat.lt_irrefl, s_lit, s_eq, s_le, s_lt, nI_add, pk_mul, s_in, s_cl, bI_n, bI_zn, not_true, not_false_eq_true, true_implies, false_implies, Nat.reduceEqDiff, Nat.reduceMul, Classical.not_not, imp_self, implies_true, tt_z, tg_329, k_turnR hp, k_getR hp, k_putR hp, uR_n, e, show (6 ≤ k) = False from eq_false (by omega)]
    rw [mrA_s (by omega)]
    · rw [mrA_n (by omega) (by omega) (by omega)]
    · rw [mrA_n (by omega) (by omega) (by omega)]
    · rw [mrA_n (by omega) (by omega) (by omega)]
    · rw [mrA_n (by omega) (by omega) (by omega)]
theorem l_mi3 {t : Nat} (hp : p < 2) (ht : t < 12) : ∀ (d k : Nat), k + d = 6 → mWP tb_X11_mirror Q 170 [some (.ref 329), some (.int (nI p)), some (.int (nI t)), some (.int (nI k))] [] (tt n, rwM I p (mrC g t k), L) = mWP tb_X11_mirror Q 197 [some (.ref 329), some (.int (nI p)), some (.int (nI t)), some (.int (nI 6))] [] (tt n, rwM I p (mrC g t 6), L) := by
  intro d
  induction d with
  | zero =>
    intro k hk
    have : k = 6 := by omega
    subst this
    simp (disch := omega) only [e_X11_mirror_170, e_X11_mirror_171, e_X11_mirror_173, mNl_i, mNl_r, mNl_n, mNl_l, mNl_0, mRV_s, mRV_n, tl_s, tl_n, cs_0, cs_i, cs_r, cs_n, cs_l, Nat.reduceAdd, Nat.reduceLeDiff, true_and, and_true, eq_self_iff_true, if_true, if_false, Nat.lt_irrefl, s_lit, s_eq, s_le, s_lt, nI_add, pk_mul, s_in, s_cl, bI_n, bI_zn, not_true, not_false_eq_true, true_implies, false_implies, Nat.reduceEqDiff, Nat.reduceMul, Classical.not_not, imp_self, implies_true, Nat.le_refl]
  | succ d ih =>
    intro k hk
    rw [← ih (k + 1) (by omega), e_X11_mirror_170]
    simp (disch := omega) only [e_X11_mirror_0, e_X11_mirror_1, e_X11_mirror_4, e_X11_mirror_7, e_X11_mirror_10, e_X11_mirror_11, e_X11_mirror_11n, e_X11_mirror_12, e_X11_mirror_13, e_X11_mirror_16, e_X11_mirror_19, e_X11_mirror_22, e_X11_mirror_23, e_X11_mirror_23n, e_X11_mirror_24, e_X11_mirror_27, e_X11_mirror_27n, e_X11_mirror_28, e_X11_mirror_29, e_X11_mirror_31, e_X11_mirror_34, e_X11_mirror_34n, e_X11_mirror_35, e_X11_mirror_36, e_X11_mirror_38, e_X11_mirror_41, e_X11_mirror_41n, e_X11_mirror_42, e_X11_mirror_43, e_X11_mirror_45, e_X11_mirror_48, e_X11_mirror_49, e_X11_mirror_50, e_X11_mirror_51, e_X11_mirror_53, e_X11_mirror_56, e_X11_mirror_56n, e_X11_mirror_57, e_X11_mirror_58, e_X11_mirror_60, e_X11_mirror_61, e_X11_mirror_62, e_X11_mirror_63, e_X11_mirror_64, e_X11_mirror_67, e_X11_mirror_67n, e_X11_mirror_68, e_X11_mirror_69, e_X11_mirror_71, e_X11_mirror_72, e_X11_mirror_73, e_X11_mirror_76, e_X11_mirror_76n, e_X11_mirror_77, e_X11_mirror_78, e_X11_mirror_80, e_X11_mirror_81, e_X11_mirror_82, e_X11_mirror_83, e_X11_mirror_84, e_X11_mirror_87, e_X11_mirror_88, e_X11_mirror_88n, e_X11_mirror_89, e_X11_mirror_90, e_X11_mirror_92, e_X11_mirror_93, e_X11_mirror_94, e_X11_mirror_95, e_X11_mirror_96, e_X11_mirror_96n, e_X11_mirror_97, e_X11_mirror_98, e_X11_mirror_100, e_X11_mirror_101, e_X11_mirror_102, e_X11_mirror_103, e_X11_mirror_104, e_X11_mirror_105, e_X11_mirror_106, e_X11_mirror_109, e_X11_mirror_110, e_X11_mirror_113, e_X11_mirror_113n, e_X11_mirror_114, e_X11_mirror_115, e_X11_mirror_117, e_X11_mirror_118, e_X11_mirror_119, e_X11_mirror_120, e_X11_mirror_121, e_X11_mirror_122, e_X11_mirror_123, e_X11_mirror_124, e_X11_mirror_125, e_X11_mirror_128, e_X11_mirror_131, e_X11_mirror_134, e_X11_mirror_135, e_X11_mirror_136, e_X11_mirror_137, e_X11_mirror_139, e_X11_mirror_142, e_X11_mirror_142n, e_X11_mirror_143, e_X11_mirror_144, e_X11_mirror_147, e_X11_mirror_148, e_X11_mirror_149, e_X11_mirror_150, e_X11_mirror_151, e_X11_mirror_154, e_X11_mirror_154n, e_X11_mirror_155, e_X11_mirror_156, e_X11_mirror_159, e_X11_mirror_160, e_X11_mirror_161, e_X11_mirror_162, e_X11_mirror_163, e_X11_mirror_164, e_X11_mirror_165, e_X11_mirror_168, e_X11_mirror_169, e_X11_mirror_171, e_X11_mirror_173, e_X11_mirror_176, e_X11_mirror_176n, e_X11_mirror_177, e_X11_mirror_178, e_X11_mirror_181, e_X11_mirror_183, e_X11_mirror_184, e_X11_mirror_185, e_X11_mirror_186, e_X11_mirror_187, e_X11_mirror_188, e_X11_mirror_191, e_X11_mirror_194, e_X11_mirror_200, e_X11_mirror_203, e_X11_mirror_203n, e_X11_mirror_204, e_X11_mirror_205, e_X11_mirror_208, e_X11_mirror_209, e_X11_mirror_209n, e_X11_mirror_210, e_X11_mirror_211, e_X11_mirror_214, e_X11_mirror_217, e_X11_mirror_218, e_X11_mirror_221, e_X11_mirror_222, mNl_i, mNl_r, mNl_n, mNl_l, mNl_0, mRV_s, mRV_n, tl_s, tl_n, cs_0, cs_i, cs_r, cs_n, cs_l, Nat.reduceAdd, Nat.reduceLeDiff, true_and, and_true, eq_self_iff_true, if_true, if_false, Nat.lt_irrefl, s_lit, s_eq, s_le, s_lt, nI_add, pk_mul, s_in, s_cl, bI_n, bI_zn, not_true, not_false_eq_true, true_implies, false_implies, Nat.reduceEqDiff, Nat.reduceMul, Classical.not_not, imp_self, implies_true, tt_z, tg_329, k_turnR hp, show (6 ≤ k) = False from eq_false (by omega)]
    rw [mrC_s]
    rw [mrC_n (by omega)]
theorem l_mi2 (hp : p < 2) : ∀ (d t : Nat) (a3 : Option Value), t + d = 12 → ∃ a3', mWP tb_X11_mirror Q 136 [some (.ref 329), some (.int (nI p)), some (.int (nI t)), a3] [] (tt n, rwM I p (mrB g t), L) = mWP tb_X11_mirror Q 203 [some (.ref 329), some (.int (nI p)), some (.int (nI 12)), a3'] [] (tt n, rwM I p (mrB g 12), L) := by
  intro d
  induction d with
  | zero =>
    intro t a3 ht
    have : t = 12 := by omega
    subst this
    refine ⟨a3, ?_⟩
    simp (disch := omega) only [e_X11_mirror_136, e_X11_mirror_137, e_X11_mirror_139, mNl_i, mNl_r, mNl_n, mNl_l, mNl_0, mRV_s, mRV_n, tl_s, tl_n, cs_0, cs_i, cs_r, cs_n, cs_l, Nat.reduceAdd, Nat.reduceLeDiff, true_and, and_true, eq_self_iff_true, if_true, if_false, Nat.lt_irrefl, s_lit, s_eq, s_le, s_lt, nI_add, pk_mul, s_in, s_cl, bI_n, bI_zn, not_true, not_false_eq_true, true_implies, false_implies, Nat.reduceEqDiff, Nat.reduceMul, Classical.not_not, imp_self, implies_true, Nat.le_refl]
  | succ d ih =>
    intro t a3 ht
    obtain ⟨a3', h⟩ := ih (t + 1) (some (.int (nI 6))) (by omega)
    refine ⟨a3', ?_⟩
    rw [← h, e_X11_mirror_136]
    have k3 := fun (Q : mQo) (g : Nat → Int32) => l_mi3 (Q := Q) (n := n) (I := I) (L := L) (g := g) hp (show t < 12 by omega) 6 0 (by omega)
    simp only [mrC_0] at k3
    have e : 130 + 3 * t + 2 = 132 + 3 * t := by omega
    simp (disch := omega) only [e_X11_mirror_0, e_X11_mirror_1, e_X11_mirror_4, e_X11_mirror_7, e_X11_mirror_10, e_X11_mirror_11, e_X11_mirror_11n, e_X11_mirror_12, e_X11_mirror_13, e_X11_mirror_16, e_X11_mirror_19, e_X11_mirror_22, e_X11_mirror_23, e_X11_mirror_23n, e_X11_mirror_24, e_X11_mirror_27, e_X11_mirror_27n, e_X11_mirror_28, e_X11_mirror_29, e_X11_mirror_31, e_X11_mirror_34, e_X11_mirror_34n, e_X11_mirror_35, e_X11_mirror_36, e_X11_mirror_38, e_X11_mirror_41, e_X11_mirror_41n, e_X11_mirror_42, e_X11_mirror_43, e_X11_mirror_45, e_X11_mirror_48, e_X11_mirror_49, e_X11_mirror_50, e_X11_mirror_51, e_X11_mirror_53, e_X11_mirror_56, e_X11_mirror_56n, e_X11_mirror_57, e_X11_mirror_58, e_X11_mirror_60, e_X11_mirror_61, e_X11_mirror_62, e_X11_mirror_63, e_X11_mirror_64, e_X11_mirror_67, e_X11_mirror_67n, e_X11_mirror_68, e_X11_mirror_69, e_X11_mirror_71, e_X11_mirror_72, e_X11_mirror_73, e_X11_mirror_76, e_X11_mirror_76n, e_X11_mirror_77, e_X11_mirror_78, e_X11_mirror_80, e_X11_mirror_81, e_X11_mirror_82, e_X11_mirror_83, e_X11_mirror_84, e_X11_mirror_87, e_X11_mirror_88, e_X11_mirror_88n, e_X11_mirror_89, e_X11_mirror_90, e_X11_mirror_92, e_X11_mirror_93, e_X11_mirror_94, e_X11_mirror_95, e_X11_mirror_96, e_X11_mirror_96n, e_X11_mirror_97, e_X11_mirror_98, e_X11_mirror_100, e_X11_mirror_101, e_X11_mirror_102, e_X11_mirror_103, e_X11_mirror_104, e_X11_mirror_105, e_X11_mirror_106, e_X11_mirror_109, e_X11_mirror_110, e_X11_mirror_113, e_X11_mirror_113n, e_X11_mirror_114, e_X11_mirror_115, e_X11_mirror_117, e_X11_mirror_118, e_X11_mirror_119, e_X11_mirror_120, e_X11_mirror_121, e_X11_mirror_122, e_X11_mirror_123, e_X11_mirror_124, e_X11_mirror_125, e_X11_mirror_128, e_X11_mirror_131, e_X11_mirror_134, e_X11_mirror_135, e_X11_mirror_137, e_X11_mirror_139, e_X11_mirror_142, e_X11_mirror_142n, e_X11_mirror_143, e_X11_mirror_144, e_X11_mirror_147, e_X11_mirror_148, e_X11_mirror_149, e_X11_mirror_150, e_X11_mirror_151, e_X11_mirror_154, e_X11_mirror_154n, e_X11_mirror_155, e_X11_mirror_156, e_X11_mirror_159, e_X11_mirror_160, e_X11_mirror_161, e_X11_mirror_162, e_X11_mirror_163, e_X11_mirror_164, e_X11_mirror_165, e_X11_mirror_168, e_X11_mirror_169, e_X11_mirror_171, e_X11_mirror_173, e_X11_mirror_176, e_X11_mirror_176n, e_X11_mirror_177, e_X11_mirror_178, e_X11_mirror_181, e_X11_mirror_183, e_X11_mirror_184, e_X11_mirror_185, e_X11_mirror_186, e_X11_mirror_187, e_X11_mirror_188, e_X11_mirror_191, e_X11_mirror_194, e_X11_mirror_197, e_X11_mirror_200, e_X11_mirror_204, e_X11_mirror_205, e_X11_mirror_208, e_X11_mirror_209, e_X11_mirror_209n, e_X11_mirror_210, e_X11_mirror_211, e_X11_mirror_214, e_X11_mirror_217, e_X11_mirror_218, e_X11_mirror_221, e_X11_mirror_222, mNl_i, mNl_r, mNl_n, mNl_l, mNl_0, mRV_s, mRV_n, tl_s, tl_n, cs_0, cs_i, cs_r, cs_n, cs_l, Nat.reduceAdd, Nat.reduceLeDiff, true_and, and_true, eq_self_iff_true, if_true, if_false, Nat.lt_irrefl, s_lit, s_eq, s_le, s_lt, nI_add, pk_mul, s_in, s_cl, bI_n, bI_zn, not_true, not_false_eq_true, true_implies, false_implies, Nat.reduceEqDiff, Nat.reduceMul, Classical.not_not, imp_self, implies_true, tt_z, tg_329, k_turnR hp, e, uR_n, k3, show (12 ≤ t) = False from eq_false (by omega)]
    rw [mrB_s (by omega)]
    · rw [mrB_n (by omega) (by omega)]
    · rw [mrB_n (by omega) (by omega)]
end
/-- the mirrored row -/
def mrF (f : Nat → Int32) : Nat → Int32 := uR (mrB (mrA (uR (uR (uR f 25 (-f 25)) 40 (-f 40)) 42 (-f 42)) 6) 12) 128 (nI 1 - f 128)
/-! the first side's loops -/
def tsC (I : Nat → Nat → Int32) (o N : Nat) : Nat → Nat → Int32 := fun x j => if x = o ∧ j < N then -I x j else I x j
def toC (I : Nat → Nat → Int32) (a N : Nat) : Nat → Nat → Int32 := fun x j => if x = a + 7 ∧ j < N then -I (a + 8) j else if x = a + 8 ∧ j < N then -I (a + 7) j else I x j
theorem ts_y {I : Nat → Nat → Int32} {o N j : Nat} (h : j < N) : tsC I o N o j = -I o j := by unfold tsC; rw [if_pos ⟨rfl, h⟩]
theorem ts_n {I : Nat → Nat → Int32} {o N x j : Nat} (h : ¬ (x = o ∧ j < N)) : tsC I o N x j = I x j := by unfold tsC; rw [if_neg h]
theorem ts_s {I : Nat → Nat → Int32} {o k : Nat} : mUI (tsC I o k) o k (-I o k) = tsC I o (k + 1) := by
  funext x j
  by_cases e : x = o ∧ j = k
  · rw [mUI_yes e, e.1, e.2, ts_y (by omega)]
  · rw [mUI_no e]
    unfold tsC
    by_cases c : x = o ∧ j < k
    · rw [if_pos c, if_pos (by omega)]
    · rw [if_neg c, if_neg (by omega)]
theorem ts_0 {I : Nat → Nat → Int32} {o : Nat} : tsC I o 0 = I := by funext x j; exact ts_n (by omega)
theorem to_7 {I : Nat → Nat → Int32} {a N j : Nat} (h : j < N) : toC I a N (a + 7) j = -I (a + 8) j := by unfold toC; rw [if_pos ⟨rfl, h⟩]
theorem to_8 {I : Nat → Nat → Int32} {a N j : Nat} (h : j < N) : toC I a N (a + 8) j = -I (a + 7) j := by unfold toC; rw [if_neg (by omega), if_pos ⟨rfl, h⟩]
theorem to_n {I : Nat → Nat → Int32} {a N x j : Nat} (h : ¬ ((x = a + 7 ∨ x = a + 8) ∧ j < N)) : toC I a N x j = I x j := by unfold toC; rw [if_neg (by omega), if_neg (by omega)]
theorem to_s {I : Nat → Nat → Int32} {a k : Nat} : mUI (mUI (toC I a k) (a + 7) k (-I (a + 8) k)) (a + 8) k (-I (a + 7) k) = toC I a (k + 1) := by
  funext x j
  by_cases e8 : x = a + 8 ∧ j = k
  · rw [mUI_yes e8, e8.1, e8.2, to_8 (by omega)]
  · rw [mUI_no e8]
    by_cases e7 : x = a + 7 ∧ j = k
    · rw [mUI_yes e7, e7.1, e7.2, to_7 (by omega)]
    · rw [mUI_no e7]
      unfold toC
      by_cases c : x = a + 7 ∧ j < k
      · rw [if_pos c, if_pos (show x = a + 7 ∧ j < k + 1 by omega)]
      · rw [if_neg c, if_neg (show ¬ (x = a + 7 ∧ j < k + 1) by omega)]
        by_cases d : x = a + 8 ∧ j < k
        · rw [if_pos d, if_pos (show x = a + 8 ∧ j < k + 1 by omega)]
        · rw [if_neg d, if_neg (show ¬ (x = a + 8 ∧ j < k + 1) by omega)]
theorem to_0 {I : Nat → Nat → Int32} {a : Nat} : toC I a 0 = I := by funext x j; exact to_n (by omega)
section
variable {Q : mQo} {n : Nat} {I : Nat → Nat → Int32} {L : Nat → Nat → Int64}
theorem l_ts {o len N : Nat} {cn : Int32} (h1 : mTg (tt n) o = 0) (h2 : mLn (tt n) o = len) (h3 : 2 ≤ o) (hl : len ≤ 100) (hN : N ≤ len) (hc : ∀ k, k ≤ 100 → (cn ≤ nI k) = ¬ k < N) : ∀ (d k : Nat), k + d = N → mWP tb_X10_turnSigns Q 2 [some (.ref o), some (.int cn), some (.int (nI k))] [] (tt n, tsC I o k, L) = Q none (tt n, tsC I o N, L) := by
  have h0 : mTg (tt n) o ≤ 2 := by omega
  have hl2 : (Int32.ofNat len : Int32) = nI len := rfl
  intro d
  induction d with
  | zero =>
    intro k hk
    have : k = N := by omega
    subst this
    simp (disch := omega) only [e_X10_turnSigns_0, e_X10_turnSigns_1, e_X10_turnSigns_2, e_X10_turnSigns_3, e_X10_turnSigns_4, e_X10_turnSigns_8, e_X10_turnSigns_8n, e_X10_turnSigns_9, e_X10_turnSigns_10, e_X10_turnSigns_13, e_X10_turnSigns_13n, e_X10_turnSigns_14, e_X10_turnSigns_15, e_X10_turnSigns_15n, e_X10_turnSigns_16, e_X10_turnSigns_17, e_X10_turnSigns_18, e_X10_turnSigns_19, e_X10_turnSigns_20, e_X10_turnSigns_23, e_X10_turnSigns_26, mNl_i, mNl_r, mNl_n, mNl_l, mNl_0, mRV_s, mRV_n, tl_s, tl_n, cs_0, cs_i, cs_r, cs_n, cs_l, Nat.reduceAdd, Nat.reduceLeDiff, true_and, and_true, eq_self_iff_true, if_true, if_false, Nat.lt_irrefl, s_lit, s_eq, s_le, s_lt, nI_add, pk_mul, s_in, s_cl, bI_n, bI_zn, not_true, not_false_eq_true, true_implies, false_implies, Nat.reduceEqDiff, Nat.reduceMul, Classical.not_not, imp_self, implies_true, hc, Nat.lt_irrefl]
  | succ d ih =>
    intro k hk
    rw [e_X10_turnSigns_2]
    simp (disch := omega) only [e_X10_turnSigns_0, e_X10_turnSigns_1, e_X10_turnSigns_3, e_X10_turnSigns_4, e_X10_turnSigns_7, e_X10_turnSigns_8, e_X10_turnSigns_8n, e_X10_turnSigns_9, e_X10_turnSigns_10, e_X10_turnSigns_13, e_X10_turnSigns_13n, e_X10_turnSigns_14, e_X10_turnSigns_15, e_X10_turnSigns_15n, e_X10_turnSigns_16, e_X10_turnSigns_17, e_X10_turnSigns_18, e_X10_turnSigns_19, e_X10_turnSigns_20, e_X10_turnSigns_23, mNl_i, mNl_r, mNl_n, mNl_l, mNl_0, mRV_s, mRV_n, tl_s, tl_n, cs_0, cs_i, cs_r, cs_n, cs_l, Nat.reduceAdd, Nat.reduceLeDiff, true_and, and_true, eq_self_iff_true, if_true, if_false, Nat.lt_irrefl, s_lit, s_eq, s_le, s_lt, nI_add, pk_mul, s_in, s_cl, bI_n, bI_zn, not_true, not_false_eq_true, true_implies, false_implies, Nat.reduceEqDiff, Nat.reduceMul, Classical.not_not, imp_self, implies_true, hc, h0, h1, h2, hl2, h3, ts_n, show (k < N) = True from eq_true (by omega), show (len ≤ k) = False from eq_false (by omega), show k < len from by omega, show (0 ≤ 2) = True from eq_true (by omega)]
    rw [ts_s, ih (k + 1) (by omega)]
theorem k_ts {o len N : Nat} {cn : Int32} (h1 : mTg (tt n) o = 0) (h2 : mLn (tt n) o = len) (h3 : 2 ≤ o) (hl : len ≤ 100) (hN : N ≤ len) (hc : ∀ k, k ≤ 100 → (cn ≤ nI k) = ¬ k < N) : C_X10_turnSigns [.ref o, .int cn] (tt n, I, L) Q = Q none (tt n, tsC I o N, L) := by
  have h := l_ts (Q := Q) (I := I) (L := L) h1 h2 h3 hl hN hc N 0 (by omega)
  rw [ts_0] at h
  simp (disch := omega) only [c_X10_turnSigns, e_X10_turnSigns_0, e_X10_turnSigns_1, mNl_i, mNl_r, mNl_n, mNl_l, mNl_0, mRV_s, mRV_n, tl_s, tl_n, cs_0, cs_i, cs_r, cs_n, cs_l, Nat.reduceAdd, Nat.reduceLeDiff, true_and, and_true, eq_self_iff_true, if_true, if_false, Nat.lt_irrefl, s_lit, s_eq, s_le, s_lt, nI_add, pk_mul, s_in, s_cl, bI_n, bI_zn, not_true, not_false_eq_true, true_implies, false_implies, Nat.reduceEqDiff, Nat.reduceMul, Classical.not_not, imp_self, implies_true, h]
theorem l_am {o len N : Nat} {cn v : Int32} (h1 : mTg (tt n) o = 0) (h2 : mLn (tt n) o = len) (hl : len ≤ 100) (hN : N ≤ len) (hc : ∀ k, k ≤ 100 → (cn ≤ nI k) = ¬ k < N) : ∀ (d k : Nat), k + d = N → mWP tb_X10_isAmong Q 2 [some (.int v), some (.ref o), some (.int cn), some (.int (nI k))] [] (tt n, I, L) = Q (some (.int (bI (∃ j, k ≤ j ∧ j < N ∧ I o j = v)))) (tt n, I, L) := by
  have h0 : mTg (tt n) o ≤ 2 := by omega
  have hl2 : (Int32.ofNat len : Int32) = nI len := rfl
  intro d
  induction d with
  | zero =>
    intro k hk
    have : k = N := by omega
    subst this
    rw [bI_f (by rintro ⟨j, g1, g2, -⟩; omega)]
    simp (disch := omega) only [e_X10_isAmong_0, e_X10_isAmong_1, e_X10_isAmong_2, e_X10_isAmong_3, e_X10_isAmong_4, e_X10_isAmong_8, e_X10_isAmong_8n, e_X10_isAmong_9, e_X10_isAmong_10, e_X10_isAmong_13, e_X10_isAmong_13n, e_X10_isAmong_14, e_X10_isAmong_15, e_X10_isAmong_16, e_X10_isAmong_17, e_X10_isAmong_20, e_X10_isAmong_21, e_X10_isAmong_22, e_X10_isAmong_25, e_X10_isAmong_28, e_X10_isAmong_29, mNl_i, mNl_r, mNl_n, mNl_l, mNl_0, mRV_s, mRV_n, tl_s, tl_n, cs_0, cs_i, cs_r, cs_n, cs_l, Nat.reduceAdd, Nat.reduceLeDiff, true_and, and_true, eq_self_iff_true, if_true, if_false, Nat.lt_irrefl, s_lit, s_eq, s_le, s_lt, nI_add, pk_mul, s_in, s_cl, bI_n, bI_zn, not_true, not_false_eq_true, true_implies, false_implies, Nat.reduceEqDiff, Nat.reduceMul, Classical.not_not, imp_self, implies_true, hc, Nat.lt_irrefl, true_or]
  | succ d ih =>
    intro k hk
    rw [e_X10_isAmong_2]
    by_cases hv : I o k = v
    · rw [bI_t ⟨k, Nat.le_refl k, by omega, hv⟩]
      simp (disch := omega) only [e_X10_isAmong_0, e_X10_isAmong_1, e_X10_isAmong_3, e_X10_isAmong_4, e_X10_isAmong_7, e_X10_isAmong_8, e_X10_isAmong_8n, e_X10_isAmong_9, e_X10_isAmong_10, e_X10_isAmong_13, e_X10_isAmong_13n, e_X10_isAmong_14, e_X10_isAmong_15, e_X10_isAmong_16, e_X10_isAmong_17, e_X10_isAmong_20, e_X10_isAmong_21, e_X10_isAmong_22, e_X10_isAmong_25, e_X10_isAmong_29, mNl_i, mNl_r, mNl_n, mNl_l, mNl_0, mRV_s, mRV_n, tl_s, tl_n, cs_0, cs_i, cs_r, cs_n, cs_l, Nat.reduceAdd, Nat.reduceLeDiff, true_and, and_true, eq_self_iff_true, if_true, if_false, Nat.lt_irrefl, s_lit, s_eq, s_le, s_lt, nI_add, pk_mul, s_in, s_cl, bI_n, bI_zn, not_true, not_false_eq_true, true_implies, false_implies, Nat.reduceEqDiff, Nat.reduceMul, Classical.not_not, imp_self, implies_true, hc, h0, h1, h2, hl2, hv, show (k < N) = True from eq_true (by omega), show (len ≤ k) = False from eq_false (by omega), show k < len from by omega, show (0 ≤ 2) = True from eq_true (by omega), or_true, true_or]
    · simp (disch := omega) only [e_X10_isAmong_0, e_X10_isAmong_1, e_X10_isAmong_3, e_X10_isAmong_4, e_X10_isAmong_7, e_X10_isAmong_8, e_X10_isAmong_8n, e_X10_isAmong_9, e_X10_isAmong_10, e_X10_isAmong_13, e_X10_isAmong_13n, e_X10_isAmong_14, e_X10_isAmong_15, e_X10_isAmong_16, e_X10_isAmong_17, e_X10_isAmong_20, e_X10_isAmong_21, e_X10_isAmong_22, e_X10_isAmong_25, e_X10_isAmong_29, mNl_i, mNl_r, mNl_n, mNl_l, mNl_0, mRV_s, mRV_n, tl_s, tl_n, cs_0, cs_i, cs_r, cs_n, cs_l, Nat.reduceAdd, Nat.reduceLeDiff, true_and, and_true, eq_self_iff_true, if_true, if_false, Nat.lt_irrefl, s_lit, s_eq, s_le, s_lt, nI_add, pk_mul, s_in, s_cl, bI_n, bI_zn, not_true, not_false_eq_true, true_implies, false_implies, Nat.reduceEqDiff, Nat.reduceMul, Classical.not_not, imp_self, implies_true, hc, h0, h1, h2, hl2, hv, show (k < N) = True from eq_true (by omega), show (len ≤ k) = False from eq_false (by omega), show k < len from by omega, show (0 ≤ 2) = True from eq_true (by omega), or_true, true_or]
      rw [ih (k + 1) (by omega)]
      have e : (∃ j, k + 1 ≤ j ∧ j < N ∧ I o j = v) = (∃ j, k ≤ j ∧ j < N ∧ I o j = v) := by
        refine propext ⟨fun ⟨j, g1, g2, g3⟩ => ⟨j, by omega, g2, g3⟩, fun ⟨j, g1, g2, g3⟩ => ?_⟩
        rcases Nat.eq_or_lt_of_le g1 with z | z
        · subst z; exact absurd g3 hv
        · exact ⟨j, z, g2, g3⟩
      rw [e]
theorem k_am {o len N : Nat} {cn v : Int32} (h1 : mTg (tt n) o = 0) (h2 : mLn (tt n) o = len) (hl : len ≤ 100) (hN : N ≤ len) (hc : ∀ k, k ≤ 100 → (cn ≤ nI k) = ¬ k < N) : C_X10_isAmong [.int v, .ref o, .int cn] (tt n, I, L) Q = Q (some (.int (bI (∃ j, 0 ≤ j ∧ j < N ∧ I o j = v)))) (tt n, I, L) := by
  have h := l_am (Q := Q) (I := I) (L := L) (v := v) h1 h2 hl hN hc N 0 (by omega)
  simp (disch := omega) only [c_X10_isAmong, e_X10_isAmong_0, e_X10_isAmong_1, mNl_i, mNl_r, mNl_n, mNl_l, mNl_0, mRV_s, mRV_n, tl_s, tl_n, cs_0, cs_i, cs_r, cs_n, cs_l, Nat.reduceAdd, Nat.reduceLeDiff, true_and, and_true, eq_self_iff_true, if_true, if_false, Nat.lt_irrefl, s_lit, s_eq, s_le, s_lt, nI_add, pk_mul, s_in, s_cl, bI_n, bI_zn, not_true, not_false_eq_true, true_implies, false_implies, Nat.reduceEqDiff, Nat.reduceMul, Classical.not_not, imp_self, implies_true, h]
theorem l_to {a q : Nat} {f : Nat → Int32} (ha : sPup (tt n) a) (hS : f 27 = -1 ∧ q = 0 ∨ f 27 = nI q ∧ q ≤ 6) (hc : I (a + 6) 2 = f 27) : ∀ (d k : Nat) (a2 : Option Value), k + d = q → mWP tb_X9_turnOver Q 2 [some (.ref (a + 6)), some (.int (nI k)), a2] [] (tt n, toC I a k, L) = Q none (tt n, toC I a q, L) := by
  have a0 := ha.1
  obtain ⟨t6, r0, mrA⟩ := ha.2.2.2.1
  obtain ⟨-, -, -, -, ⟨s1, s2⟩, ⟨s3, s4⟩, -⟩ := ha.2.2.2.2.2.2.2
  have hq : q ≤ 6 := by rcases hS with ⟨-, z⟩ | ⟨-, z⟩ <;> omega
  intro d
  induction d with
  | zero =>
    intro k a2 hk
    have : k = q := by omega
    subst this
    simp (disch := omega) only [e_X9_turnOver_0, e_X9_turnOver_1, e_X9_turnOver_2, e_X9_turnOver_3, e_X9_turnOver_3n, e_X9_turnOver_4, e_X9_turnOver_7, e_X9_turnOver_11, e_X9_turnOver_14, e_X9_turnOver_15, e_X9_turnOver_16, e_X9_turnOver_17, e_X9_turnOver_17n, e_X9_turnOver_18, e_X9_turnOver_21, e_X9_turnOver_22, e_X9_turnOver_22n, e_X9_turnOver_23, e_X9_turnOver_26, e_X9_turnOver_27, e_X9_turnOver_28, e_X9_turnOver_29, e_X9_turnOver_30, e_X9_turnOver_30n, e_X9_turnOver_31, e_X9_turnOver_34, e_X9_turnOver_35, e_X9_turnOver_36, e_X9_turnOver_37, e_X9_turnOver_38, e_X9_turnOver_41, e_X9_turnOver_44, mNl_i, mNl_r, mNl_n, mNl_l, mNl_0, mRV_s, mRV_n, tl_s, tl_n, cs_0, cs_i, cs_r, cs_n, cs_l, Nat.reduceAdd, Nat.reduceLeDiff, true_and, and_true, eq_self_iff_true, if_true, if_false, Nat.lt_irrefl, s_lit, s_eq, s_le, s_lt, nI_add, pk_mul, s_in, s_cl, bI_n, bI_zn, not_true, not_false_eq_true, true_implies, false_implies, Nat.reduceEqDiff, Nat.reduceMul, Classical.not_not, imp_self, implies_true, t6, to_n, hc, pairs_le hS (show k < 2147483648 by omega), Nat.lt_irrefl]
  | succ d ih =>
    intro k a2 hk
    rw [e_X9_turnOver_2]
    simp (disch := omega) only [e_X9_turnOver_0, e_X9_turnOver_1, e_X9_turnOver_3, e_X9_turnOver_3n, e_X9_turnOver_4, e_X9_turnOver_7, e_X9_turnOver_10, e_X9_turnOver_10n, e_X9_turnOver_11, e_X9_turnOver_14, e_X9_turnOver_15, e_X9_turnOver_16, e_X9_turnOver_17, e_X9_turnOver_17n, e_X9_turnOver_18, e_X9_turnOver_21, e_X9_turnOver_22, e_X9_turnOver_22n, e_X9_turnOver_23, e_X9_turnOver_26, e_X9_turnOver_27, e_X9_turnOver_28, e_X9_turnOver_29, e_X9_turnOver_30, e_X9_turnOver_30n, e_X9_turnOver_31, e_X9_turnOver_34, e_X9_turnOver_35, e_X9_turnOver_36, e_X9_turnOver_37, e_X9_turnOver_38, e_X9_turnOver_41, mNl_i, mNl_r, mNl_n, mNl_l, mNl_0, mRV_s, mRV_n, tl_s, tl_n, cs_0, cs_i, cs_r, cs_n, cs_l, Nat.reduceAdd, Nat.reduceLeDiff, true_and, and_true, eq_self_iff_true, if_true, if_false, Nat.lt_irrefl, s_lit, s_eq, s_le, s_lt, nI_add, pk_mul, s_in, s_cl, bI_n, bI_zn, not_true, not_false_eq_true, true_implies, false_implies, Nat.reduceEqDiff, Nat.reduceMul, Classical.not_not, imp_self, implies_true, t6, r0, mrA, s1, s2, s3, s4, to_n, hc, pairs_le hS (show k < 2147483648 by omega), mUI_no, show (k < q) = True from eq_true (by omega), show k < 6 from by omega, show 2 ≤ a + 7 from by omega, show 2 ≤ a + 8 from by omega]
    rw [to_s, ih (k + 1) _ (by omega)]
theorem k_to {a q : Nat} {f : Nat → Int32} (ha : sPup (tt n) a) (hS : f 27 = -1 ∧ q = 0 ∨ f 27 = nI q ∧ q ≤ 6) (hc : I (a + 6) 2 = f 27) : C_X9_turnOver [.ref (a + 6)] (tt n, I, L) Q = Q none (tt n, toC I a q, L) := by
  have h := l_to (Q := Q) (I := I) (L := L) ha hS hc q 0 none (by omega)
  rw [to_0] at h
  simp (disch := omega) only [c_X9_turnOver, e_X9_turnOver_0, e_X9_turnOver_1, mNl_i, mNl_r, mNl_n, mNl_l, mNl_0, mRV_s, mRV_n, tl_s, tl_n, cs_0, cs_i, cs_r, cs_n, cs_l, Nat.reduceAdd, Nat.reduceLeDiff, true_and, and_true, eq_self_iff_true, if_true, if_false, Nat.lt_irrefl, s_lit, s_eq, s_le, s_lt, nI_add, pk_mul, s_in, s_cl, bI_n, bI_zn, not_true, not_false_eq_true, true_implies, false_implies, Nat.reduceEqDiff, Nat.reduceMul, Classical.not_not, imp_self, implies_true, h]
end
