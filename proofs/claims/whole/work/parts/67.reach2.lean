/-! ===== reach: the reference, and both ===== -/
def fdM (I : Nat → Nat → Int32) (p k : Nat) : Nat → Nat → Int32 := fun x j => if x = 339 ∧ j < k then I 330 (239 * p + (19 + j)) else I x j
def fgM (I : Nat → Nat → Int32) (p k : Nat) : Nat → Nat → Int32 := fun x j => if x = 330 ∧ 239 * p + 19 ≤ j ∧ j < 239 * p + 19 + k then I 339 (j - (239 * p + 19)) else I x j
def FRm (p : Nat) (I I' : Nat → Nat → Int32) : Prop := ∀ u j, ¬ (u = 330 ∧ (239 * p + 19 ≤ j ∧ j < 239 * p + 25 ∨ j = 239 * p + 42)) → u ≠ 337 → ¬ (u = 339 ∧ j < 6) → I' u j = I u j
section
variable {Q : mQo} {n : Nat} {I : Nat → Nat → Int32} {L : Nat → Nat → Int64} {p k x j : Nat}
theorem fd_y (h : j < k) : fdM I p k 339 j = I 330 (239 * p + (19 + j)) := by unfold fdM; rw [if_pos ⟨rfl, h⟩]
theorem fd_n (h : ¬ (x = 339 ∧ j < k)) : fdM I p k x j = I x j := by unfold fdM; rw [if_neg h]
theorem fg_y (h : j < k) : fgM I p k 330 (239 * p + (19 + j)) = I 339 j := by
  unfold fgM; rw [if_pos (by omega), show 239 * p + (19 + j) - (239 * p + 19) = j by omega]
theorem fg_n (h : ¬ (x = 330 ∧ 239 * p + 19 ≤ j ∧ j < 239 * p + 19 + k)) : fgM I p k x j = I x j := by unfold fgM; rw [if_neg h]
theorem fd_s : mUI (fdM I p k) 339 k (I 330 (239 * p + (19 + k))) = fdM I p (k + 1) := by
  funext x j
  by_cases hx : x = 339 ∧ j = k
  · rw [mUI_yes hx, hx.1, hx.2, fd_y (by omega)]
  · rw [mUI_no hx]
    unfold fdM
    by_cases e : x = 339 ∧ j < k
    · rw [if_pos e, if_pos (by omega)]
    · rw [if_neg e, if_neg (by omega)]
theorem fg_s : mUI (fgM I p k) 330 (239 * p + (19 + k)) (I 339 k) = fgM I p (k + 1) := by
  funext x j
  by_cases hx : x = 330 ∧ j = 239 * p + (19 + k)
  · rw [mUI_yes hx, hx.1, hx.2, fg_y (by omega)]
  · rw [mUI_no hx]
    unfold fgM
    by_cases e : x = 330 ∧ 239 * p + 19 ≤ j ∧ j < 239 * p + 19 + k
    · rw [if_pos e, if_pos (by omega)]
    · rw [if_neg e, if_neg (by omega)]
theorem fd_0 : fdM I p 0 = I := by funext x j; exact fd_n (by omega)
theorem fg_0 : fgM I p 0 = I := by funext x j; exact fg_n (by omega)
theorem l_fd {a2 a3 a4 a5 a6 a7 a8 a9 a10 a11 a12 : Option Value} (h12 : mNl a12 = a12) (hp : p < 2) : ∀ (d k : Nat), k + d = 6 → mWP tb_X11_reach Q 162 [some (.ref 329), some (.int (nI p)), a2, a3, a4, a5, a6, a7, a8, a9, a10, a11, a12, some (.int (nI k))] [] (tt n, fdM I p k, L) = mWP tb_X11_reach Q 192 [some (.ref 329), some (.int (nI p)), a2, a3, a4, a5, a6, a7, a8, a9, a10, a11, a12, some (.int (nI 6))] [] (tt n, fdM I p 6, L) := by
  intro d
  induction d with
  | zero =>
    intro k hk
    have : k = 6 := by omega
    subst this
    simp (disch := omega) only [e_X11_reach_162, e_X11_reach_164, e_X11_reach_166, mNl_i, mNl_r, mNl_n, mNl_l, mNl_0, mRV_s, mRV_n, tl_s, tl_n, cs_0, cs_i, cs_r, cs_n, cs_l, Nat.reduceAdd, Nat.reduceLeDiff, true_and, and_true, eq_self_iff_true, if_true, if_false, Nat.lt_irrefl, s_lit, s_eq, s_le, s_lt, nI_add, pk_mul, s_in, s_cl, bI_n, bI_zn, not_true, not_false_eq_true, true_implies, false_implies, Nat.reduceEqDiff, Nat.reduceMul, Classical.not_not, imp_self, implies_true, Nat.le_refl]
  | succ d ih =>
    intro k hk
    rw [e_X11_reach_162]
    simp (disch := omega) only [e_X11_reach_0, e_X11_reach_0n, e_X11_reach_1, e_X11_reach_2, e_X11_reach_3, e_X11_reach_6, e_X11_reach_9, e_X11_reach_10, e_X11_reach_12, e_X11_reach_15, e_X11_reach_18, e_X11_reach_21, e_X11_reach_22, e_X11_reach_22n, e_X11_reach_23, e_X11_reach_26, e_X11_reach_26n, e_X11_reach_27, e_X11_reach_28, e_X11_reach_31, e_X11_reach_31n, e_X11_reach_32, e_X11_reach_33, e_X11_reach_35, e_X11_reach_38, e_X11_reach_40, e_X11_reach_42, e_X11_reach_44, e_X11_reach_47, e_X11_reach_49, e_X11_reach_51, e_X11_reach_52, e_X11_reach_53, e_X11_reach_55, e_X11_reach_57, e_X11_reach_59, e_X11_reach_60, e_X11_reach_61, e_X11_reach_64, e_X11_reach_66, e_X11_reach_68, e_X11_reach_70, e_X11_reach_73, e_X11_reach_76, e_X11_reach_76n, e_X11_reach_77, e_X11_reach_78, e_X11_reach_81, e_X11_reach_81n, e_X11_reach_82, e_X11_reach_83, e_X11_reach_85, e_X11_reach_87, e_X11_reach_90, e_X11_reach_90n, e_X11_reach_91, e_X11_reach_92, e_X11_reach_94, e_X11_reach_97, e_X11_reach_99, e_X11_reach_99n, e_X11_reach_100, e_X11_reach_101, e_X11_reach_104, e_X11_reach_104n, e_X11_reach_105, e_X11_reach_108, e_X11_reach_109, e_X11_reach_110, e_X11_reach_113, e_X11_reach_114, e_X11_reach_115, e_X11_reach_116, e_X11_reach_117, e_X11_reach_117n, e_X11_reach_118, e_X11_reach_121, e_X11_reach_122, e_X11_reach_123, e_X11_reach_126, e_X11_reach_128, e_X11_reach_129, e_X11_reach_130, e_X11_reach_131, e_X11_reach_134, e_X11_reach_136, e_X11_reach_138, e_X11_reach_139, e_X11_reach_140, e_X11_reach_143, e_X11_reach_145, e_X11_reach_147, e_X11_reach_148, e_X11_reach_151, e_X11_reach_153, e_X11_reach_155, e_X11_reach_157, e_X11_reach_159, e_X11_reach_160, e_X11_reach_164, e_X11_reach_166, e_X11_reach_169, e_X11_reach_169n, e_X11_reach_170, e_X11_reach_173, e_X11_reach_175, e_X11_reach_175n, e_X11_reach_176, e_X11_reach_177, e_X11_reach_179, e_X11_reach_181, e_X11_reach_182, e_X11_reach_185, e_X11_reach_186, e_X11_reach_189, e_X11_reach_195, e_X11_reach_198, e_X11_reach_198n, e_X11_reach_199, e_X11_reach_200, e_X11_reach_202, e_X11_reach_204, e_X11_reach_207, e_X11_reach_208, e_X11_reach_210, e_X11_reach_212, e_X11_reach_214, e_X11_reach_217, e_X11_reach_217n, e_X11_reach_218, e_X11_reach_219, e_X11_reach_221, e_X11_reach_223, e_X11_reach_224, e_X11_reach_224n, e_X11_reach_225, e_X11_reach_228, e_X11_reach_230, e_X11_reach_231, e_X11_reach_234, e_X11_reach_237, e_X11_reach_240, e_X11_reach_242, mNl_i, mNl_r, mNl_n, mNl_l, mNl_0, mRV_s, mRV_n, tl_s, tl_n, cs_0, cs_i, cs_r, cs_n, cs_l, Nat.reduceAdd, Nat.reduceLeDiff, true_and, and_true, eq_self_iff_true, if_true, if_false, Nat.lt_irrefl, s_lit, s_eq, s_le, s_lt, nI_add, pk_mul, s_in, s_cl, bI_n, bI_zn, not_true, not_false_eq_true, true_implies, false_implies, Nat.reduceEqDiff, Nat.reduceMul, Classical.not_not, imp_self, implies_true, tt_z, tg_329, rf_329_0, rf_329_1, rf_329_4, rf_329_5, rf_329_6, rf_329_7, rf_329_8, rf_329_9, rf_329_12, rf_329_13, tg_339, ln_339, k_get, fd_n, h12, show (6 ≤ k) = False from eq_false (by omega), show k < 6 from by omega, show (2 ≤ 339) = True from eq_true (by decide)]
    rw [fd_s, ih (k + 1) (by omega)]
theorem l_fg {a2 a3 a4 a5 a6 a10 a11 a12 a13 : Option Value} {b : Int64} (hp : p < 2) : ∀ (d k : Nat), k + d = 6 → mWP tb_X11_reach Q 210 [some (.ref 329), some (.int (nI p)), a2, a3, a4, a5, a6, some (.long b), none, some (.int (nI k)), a10, a11, a12, a13] [] (tt n, fgM I p k, L) = Q (some (.long b)) (tt n, fgM I p 6, L) := by
  intro d
  induction d with
  | zero =>
    intro k hk
    have : k = 6 := by omega
    subst this
    simp (disch := omega) only [e_X11_reach_0, e_X11_reach_0n, e_X11_reach_1, e_X11_reach_2, e_X11_reach_3, e_X11_reach_6, e_X11_reach_9, e_X11_reach_10, e_X11_reach_12, e_X11_reach_15, e_X11_reach_18, e_X11_reach_21, e_X11_reach_22, e_X11_reach_22n, e_X11_reach_23, e_X11_reach_26, e_X11_reach_26n, e_X11_reach_27, e_X11_reach_28, e_X11_reach_31, e_X11_reach_31n, e_X11_reach_32, e_X11_reach_33, e_X11_reach_35, e_X11_reach_38, e_X11_reach_40, e_X11_reach_42, e_X11_reach_44, e_X11_reach_47, e_X11_reach_49, e_X11_reach_51, e_X11_reach_52, e_X11_reach_53, e_X11_reach_55, e_X11_reach_57, e_X11_reach_59, e_X11_reach_60, e_X11_reach_61, e_X11_reach_64, e_X11_reach_66, e_X11_reach_68, e_X11_reach_70, e_X11_reach_73, e_X11_reach_76, e_X11_reach_76n, e_X11_reach_77, e_X11_reach_78, e_X11_reach_81, e_X11_reach_81n, e_X11_reach_82, e_X11_reach_83, e_X11_reach_85, e_X11_reach_87, e_X11_reach_90, e_X11_reach_90n, e_X11_reach_91, e_X11_reach_92, e_X11_reach_94, e_X11_reach_97, e_X11_reach_99, e_X11_reach_99n, e_X11_reach_100, e_X11_reach_101, e_X11_reach_104, e_X11_reach_104n, e_X11_reach_105, e_X11_reach_108, e_X11_reach_109, e_X11_reach_110, e_X11_reach_113, e_X11_reach_114, e_X11_reach_115, e_X11_reach_116, e_X11_reach_117, e_X11_reach_117n, e_X11_reach_118, e_X11_reach_121, e_X11_reach_122, e_X11_reach_123, e_X11_reach_126, e_X11_reach_128, e_X11_reach_129, e_X11_reach_130, e_X11_reach_131, e_X11_reach_134, e_X11_reach_136, e_X11_reach_138, e_X11_reach_139, e_X11_reach_140, e_X11_reach_143, e_X11_reach_145, e_X11_reach_147, e_X11_reach_148, e_X11_reach_151, e_X11_reach_153, e_X11_reach_155, e_X11_reach_157, e_X11_reach_159, e_X11_reach_160, e_X11_reach_162, e_X11_reach_164, e_X11_reach_166, e_X11_reach_169, e_X11_reach_169n, e_X11_reach_170, e_X11_reach_173, e_X11_reach_175, e_X11_reach_175n, e_X11_reach_176, e_X11_reach_177, e_X11_reach_179, e_X11_reach_181, e_X11_reach_182, e_X11_reach_185, e_X11_reach_186, e_X11_reach_189, e_X11_reach_192, e_X11_reach_195, e_X11_reach_198, e_X11_reach_198n, e_X11_reach_199, e_X11_reach_200, e_X11_reach_202, e_X11_reach_204, e_X11_reach_207, e_X11_reach_208, e_X11_reach_210, e_X11_reach_212, e_X11_reach_214, e_X11_reach_218, e_X11_reach_219, e_X11_reach_221, e_X11_reach_223, e_X11_reach_224, e_X11_reach_224n, e_X11_reach_225, e_X11_reach_228, e_X11_reach_230, e_X11_reach_231, e_X11_reach_234, e_X11_reach_237, e_X11_reach_240, e_X11_reach_242, mNl_i, mNl_r, mNl_n, mNl_l, mNl_0, mRV_s, mRV_n, tl_s, tl_n, cs_0, cs_i, cs_r, cs_n, cs_l, Nat.reduceAdd, Nat.reduceLeDiff, true_and, and_true, eq_self_iff_true, if_true, if_false, Nat.lt_irrefl, s_lit, s_eq, s_le, s_lt, nI_add, pk_mul, s_in, s_cl, bI_n, bI_zn, not_true, not_false_eq_true, true_implies, false_implies, Nat.reduceEqDiff, Nat.reduceMul, Classical.not_not, imp_self, implies_true, Nat.le_refl]
  | succ d ih =>
    intro k hk
    rw [e_X11_reach_210]
    simp (disch := omega) only [e_X11_reach_0, e_X11_reach_0n, e_X11_reach_1, e_X11_reach_2, e_X11_reach_3, e_X11_reach_6, e_X11_reach_9, e_X11_reach_10, e_X11_reach_12, e_X11_reach_15, e_X11_reach_18, e_X11_reach_21, e_X11_reach_22, e_X11_reach_22n, e_X11_reach_23, e_X11_reach_26, e_X11_reach_26n, e_X11_reach_27, e_X11_reach_28, e_X11_reach_31, e_X11_reach_31n, e_X11_reach_32, e_X11_reach_33, e_X11_reach_35, e_X11_reach_38, e_X11_reach_40, e_X11_reach_42, e_X11_reach_44, e_X11_reach_47, e_X11_reach_49, e_X11_reach_51, e_X11_reach_52, e_X11_reach_53, e_X11_reach_55, e_X11_reach_57, e_X11_reach_59, e_X11_reach_60, e_X11_reach_61, e_X11_reach_64, e_X11_reach_66, e_X11_reach_68, e_X11_reach_70, e_X11_reach_73, e_X11_reach_76, e_X11_reach_76n, e_X11_reach_77, e_X11_reach_78, e_X11_reach_81, e_X11_reach_81n, e_X11_reach_82, e_X11_reach_83, e_X11_reach_85, e_X11_reach_87, e_X11_reach_90, e_X11_reach_90n, e_X11_reach_91, e_X11_reach_92, e_X11_reach_94, e_X11_reach_97, e_X11_reach_99, e_X11_reach_99n, e_X11_reach_100, e_X11_reach_101, e_X11_reach_104, e_X11_reach_104n, e_X11_reach_105, e_X11_reach_108, e_X11_reach_109, e_X11_reach_110, e_X11_reach_113, e_X11_reach_114, e_X11_reach_115, e_X11_reach_116, e_X11_reach_117, e_X11_reach_117n, e_X11_reach_118, e_X11_reach_121, e_X11_reach_122, e_X11_reach_123, e_X11_reach_126, e_X11_reach_128, e_X11_reach_129, e_X11_reach_130, e_X11_reach_131, e_X11_reach_134, e_X11_reach_136, e_X11_reach_138, e_X11_reach_139, e_X11_reach_140, e_X11_reach_143, e_X11_reach_145, e_X11_reach_147, e_X11_reach_148, e_X11_reach_151, e_X11_reach_153, e_X11_reach_155, e_X11_reach_157, e_X11_reach_159, e_X11_reach_160, e_X11_reach_162, e_X11_reach_164, e_X11_reach_166, e_X11_reach_169, e_X11_reach_169n, e_X11_reach_170, e_X11_reach_173, e_X11_reach_175, e_X11_reach_175n, e_X11_reach_176, e_X11_reach_177, e_X11_reach_179, e_X11_reach_181, e_X11_reach_182, e_X11_reach_185, e_X11_reach_186, e_X11_reach_189, e_X11_reach_192, e_X11_reach_195, e_X11_reach_198, e_X11_reach_198n, e_X11_reach_199, e_X11_reach_200, e_X11_reach_202, e_X11_reach_204, e_X11_reach_207, e_X11_reach_208, e_X11_reach_212, e_X11_reach_214, e_X11_reach_217, e_X11_reach_217n, e_X11_reach_218, e_X11_reach_219, e_X11_reach_221, e_X11_reach_223, e_X11_reach_224, e_X11_reach_224n, e_X11_reach_225, e_X11_reach_228, e_X11_reach_230, e_X11_reach_231, e_X11_reach_234, e_X11_reach_237, e_X11_reach_242, mNl_i, mNl_r, mNl_n, mNl_l, mNl_0, mRV_s, mRV_n, tl_s, tl_n, cs_0, cs_i, cs_r, cs_n, cs_l, Nat.reduceAdd, Nat.reduceLeDiff, true_and, and_true, eq_self_iff_true, if_true, if_false, Nat.lt_irrefl, s_lit, s_eq, s_le, s_lt, nI_add, pk_mul, s_in, s_cl, bI_n, bI_zn, not_true, not_false_eq_true, true_implies, false_implies, Nat.reduceEqDiff, Nat.reduceMul, Classical.not_not, imp_self, implies_true, tt_z, tg_329, rf_329_0, rf_329_1, rf_329_4, rf_329_5, rf_329_6, rf_329_7, rf_329_8, rf_329_9, rf_329_12, rf_329_13, tg_339, ln_339, k_put, fg_n, show (6 ≤ k) = False from eq_false (by omega), show k < 6 from by omega]
    rw [fg_s, ih (k + 1) (by omega)]
end
theorem rc_g {f : Nat → Int32} {n q m l : Nat} {x y fr : Int} : ∀ k b, rcA f n q m l x y fr k = some b → b.2.2 = gT f n q m b.1 ∧ b.2.1 = dT f n q m l x y b.1 := by
  intro k
  induction k with
  | zero => intro b h; cases h
  | succ k ih =>
    intro b h
    unfold rcA at h
    cases h1 : rcA f n q m l x y fr k with
    | none =>
      rw [h1] at h
      cases h
      exact ⟨rfl, rfl⟩
    | some b' =>
      rw [h1] at h
      by_cases h2 : dT f n q m l x y (fr + k) < b'.2.1
      · have h : ifP (dT f n q m l x y (fr + k) < b'.2.1) (some (fr + (k : Int), dT f n q m l x y (fr + k), gT f n q m (fr + k))) (some b') = some b := h
        rw [ifP_t h2] at h
        cases h
        exact ⟨rfl, rfl⟩
      · have h : ifP (dT f n q m l x y (fr + k) < b'.2.1) (some (fr + (k : Int), dT f n q m l x y (fr + k), gT f n q m (fr + k))) (some b') = some b := h
        rw [ifP_f h2] at h
        cases h
        exact ih _ h1
theorem fInv_tU {f : Nat → Int32} {n q m : Nat} {t : Int32} (h : fInv f n q m) (ht : inR t (-32) 31) : fInv (tU f t) n q m := by
  obtain ⟨⟨h1, h2, h3, h4⟩, h5, h6, h7, h8⟩ := h
  have hn := h1.1
  have hm := h4.1
  refine ⟨⟨⟨hn, fun k hk => ?_⟩, ?_, ?_, ⟨hm, fun k hk => ?_⟩⟩, ?_, ?_, ?_, ?_⟩
  · rw [tU_n (by omega), tU_n (by omega), tU_n (by omega), tU_n (by omega)]
    exact h1.2 k hk
  · unfold fPin; rw [tU_n (by omega), tU_n (by omega)]; exact h2
  · unfold fCro
    rw [tU_n (by omega), tU_n (by omega), tU_y]
    refine ⟨h3.1, h3.2.1, ht, fun k hk => ?_⟩
    rw [tU_n (by omega), tU_n (by omega)]
    exact h3.2.2.2 k hk
  · rw [tU_n (by omega), tU_n (by omega), tU_n (by omega), tU_n (by omega), tU_n (by omega), tU_n (by omega)]
    exact h4.2 k hk
  · have hq : q ≤ 6 := by rcases h5.1 with ⟨-, z⟩ | ⟨-, z⟩ <;> omega
    refine ⟨by rw [tU_n (by omega)]; exact h5.1, fun k hk => ?_⟩
    rw [tU_n (by omega), tU_n (by omega)]
    exact h5.2 k hk
  · rw [tU_n (by omega)]; exact h6
  · rw [tU_n (by omega)]; exact h7
  · rw [tU_n (by omega)]; exact h8
section
variable {Q : mQo} {n : Nat} {f : Nat → Int32} {p n1 q m l : Nat} {x y T fr to : Int}
theorem l_rcM {I0 : Nat → Nat → Int32} {L0 : Nat → Nat → Int64} {cnt : Nat} (hp : p < 2) (hl : l < n1) (hx1 : -300 ≤ x) (hx2 : x ≤ 300) (hy1 : -300 ≤ y) (hy2 : y ≤ 300) (hT1 : -32 ≤ T) (hT2 : T ≤ 31) (hfr : fr = mxI (-32) (T - 4)) (hto : to = mnI 31 (T + 4)) (hc : fr + cnt = to + 1) (hc1 : 1 ≤ cnt) (hs : rSin I0) (hI : isF I0 p f) (hV : fInv f n1 q m) (h338 : ∀ j, j < 6 → I0 338 j = f (19 + j)) : ∀ (d i k : Nat) (I1 : Nat → Nat → Int32) (L1 : Nat → Nat → Int64) (bt b : Int) (a10 a11 a12 a13 : Option Value), i + d = 9 → (T - 4 + i ≤ fr ∧ k = 0 ∨ fr ≤ T - 4 + i ∧ T - 4 + i ≤ to + 1 ∧ (k : Int) = T - 4 + i - fr ∨ to < T - 4 + i ∧ k = cnt) → FRm p I0 I1 → (∀ u j, ¬ (333 ≤ u ∧ u ≤ 336) → ¬ (u = 329 ∧ (j = 10 ∨ j = 11)) → L1 u j = L0 u j) → (rcA f n1 q m l x y fr k = none ∧ b = -1 ∨ ∃ g, rcA f n1 q m l x y fr k = some (bt, b, g) ∧ (∀ j, j < 6 → I1 339 j = g (19 + j)) ∧ 0 ≤ b ∧ b < 1000000000000000000) → (∀ I2 L2 bt b g, rcA f n1 q m l x y fr cnt = some (bt, b, g) → FRm p I0 I2 → (∀ u j, ¬ (333 ≤ u ∧ u ≤ 336) → ¬ (u = 329 ∧ (j = 10 ∨ j = 11)) → L2 u j = L0 u j) → isF I2 p g → Q (some (.long (i6 b))) (tt n, I2, L2)) → mWP tb_X11_reach Q 55 [some (.ref 329), some (.int (nI p)), some (.int (nI l)), some (.int (i3 x)), some (.int (i3 y)), some (.int (i3 T)), some (.int (i3 bt)), some (.long (i6 b)), none, some (.int (i3 (T - 4 + i))), a10, a11, a12, a13] [] (tt n, I1, L1) := by
  have hn : n1 ≤ 6 := hV.1.1.1
  unfold mxI at hfr
  unfold mnI at hto
  have hfr' : -32 ≤ fr ∧ T - 4 ≤ fr ∧ (fr = -32 ∨ fr = T - 4) := by split at hfr <;> omega
  have hto' : to ≤ 31 ∧ to ≤ T + 4 ∧ (to = 31 ∨ to = T + 4) := by split at hto <;> omega
  intro d
  induction d with
  | zero =>
    intro i k I1 L1 bt b a10 a11 a12 a13 hi hk hF hL hb h
    have : i = 9 := by omega
    subst this
    have hkc : k = cnt := by omega
    subst hkc
    obtain ⟨b', hb'⟩ := rc_1 (f := f) (n := n1) (q := q) (m := m) (l := l) (x := x) (y := y) (fr := fr) (k - 1)
    rw [show k - 1 + 1 = k by omega] at hb'
    rcases hb with ⟨hb, -⟩ | ⟨g, hb, g3, b1, b2⟩
    · rw [hb] at hb'; cases hb'
    · obtain ⟨gg, -⟩ := rc_g k _ hb
      have gg : g = gT f n1 q m bt := gg
      have kf := fun (Q : mQo) (I : Nat → Nat → Int32) (L : Nat → Nat → Int64) => l_fg (Q := Q) (n := n) (I := I) (L := L) (a2 := some (.int (nI l))) (a3 := some (.int (i3 x))) (a4 := some (.int (i3 y))) (a5 := some (.int (i3 T))) (a6 := some (.int (i3 bt))) (a10 := a10) (a11 := a11) (a12 := a12) (a13 := a13) (b := i6 b) hp 6 0 (by omega)
      simp only [fg_0] at kf
      simp (disch := omega) only [e_X11_reach_0, e_X11_reach_0n, e_X11_reach_1, e_X11_reach_2, e_X11_reach_3, e_X11_reach_6, e_X11_reach_9, e_X11_reach_10, e_X11_reach_12, e_X11_reach_15, e_X11_reach_18, e_X11_reach_21, e_X11_reach_22, e_X11_reach_22n, e_X11_reach_23, e_X11_reach_26, e_X11_reach_26n, e_X11_reach_27, e_X11_reach_28, e_X11_reach_31, e_X11_reach_31n, e_X11_reach_32, e_X11_reach_33, e_X11_reach_35, e_X11_reach_38, e_X11_reach_40, e_X11_reach_42, e_X11_reach_44, e_X11_reach_47, e_X11_reach_49, e_X11_reach_51, e_X11_reach_52, e_X11_reach_53, e_X11_reach_55, e_X11_reach_57, e_X11_reach_59, e_X11_reach_60, e_X11_reach_61, e_X11_reach_66, e_X11_reach_68, e_X11_reach_70, e_X11_reach_73, e_X11_reach_76, e_X11_reach_76n, e_X11_reach_77, e_X11_reach_78, e_X11_reach_81, e_X11_reach_81n, e_X11_reach_82, e_X11_reach_83, e_X11_reach_85, e_X11_reach_87, e_X11_reach_90, e_X11_reach_90n, e_X11_reach_91, e_X11_reach_92, e_X11_reach_94, e_X11_reach_97, e_X11_reach_99, e_X11_reach_99n, e_X11_reach_100, e_X11_reach_101, e_X11_reach_104, e_X11_reach_104n, e_X11_reach_105, e_X11_reach_108, e_X11_reach_109, e_X11_reach_110, e_X11_reach_113, e_X11_reach_114, e_X11_reach_115, e_X11_reach_116, e_X11_reach_117, e_X11_reach_117n, e_X11_reach_118, e_X11_reach_121, e_X11_reach_122, e_X11_reach_123, e_X11_reach_126, e_X11_reach_128, e_X11_reach_129, e_X11_reach_130, e_X11_reach_131, e_X11_reach_134, e_X11_reach_136, e_X11_reach_138, e_X11_reach_139, e_X11_reach_140, e_X11_reach_143, e_X11_reach_145, e_X11_reach_147, e_X11_reach_148, e_X11_reach_151, e_X11_reach_153, e_X11_reach_155, e_X11_reach_157, e_X11_reach_159, e_X11_reach_160, e_X11_reach_162, e_X11_reach_164, e_X11_reach_166, e_X11_reach_169, e_X11_reach_169n, e_X11_reach_170, e_X11_reach_173, e_X11_reach_175, e_X11_reach_175n, e_X11_reach_176, e_X11_reach_177, e_X11_reach_179, e_X11_reach_181, e_X11_reach_182, e_X11_reach_185, e_X11_reach_186, e_X11_reach_189, e_X11_reach_192, e_X11_reach_195, e_X11_reach_198, e_X11_reach_198n, e_X11_reach_199, e_X11_reach_200, e_X11_reach_202, e_X11_reach_204, e_X11_reach_207, e_X11_reach_208, e_X11_reach_212, e_X11_reach_214, e_X11_reach_217, e_X11_reach_217n, e_X11_reach_218, e_X11_reach_219, e_X11_reach_221, e_X11_reach_223, e_X11_reach_224, e_X11_reach_224n, e_X11_reach_225, e_X11_reach_228, e_X11_reach_230, e_X11_reach_231, e_X11_reach_234, e_X11_reach_237, e_X11_reach_240, e_X11_reach_242, mNl_i, mNl_r, mNl_n, mNl_l, mNl_0, mRV_s, mRV_n, tl_s, tl_n, cs_0, cs_i, cs_r, cs_n, cs_l, Nat.reduceAdd, Nat.reduceLeDiff, true_and, and_true, eq_self_iff_true, if_true, if_false, Nat.lt_irrefl, s_lit, s_eq, s_le, s_lt, nI_add, pk_mul, s_in, s_cl, bI_n, bI_zn, not_true, not_false_eq_true, true_implies, false_implies, Nat.reduceEqDiff, Nat.reduceMul, Classical.not_not, imp_self, implies_true, tt_z, tg_329, k_put, i3n_add, i3_lt, Int.cast_ofNat_Int, show (T + 4 < T - 4 + ((9 : Nat) : Int)) = True from eq_true (by omega), show (T + 4 < T - 4 + (9 : Int)) = True from eq_true (by omega), kf]
      refine h _ _ bt b g hb (fun u j g1 g2 g3 => ?_) hL (fun i hi => ?_)
      · rw [fg_n (by omega), mUI_no (by omega), hF _ _ g1 g2 g3]
      · by_cases e1 : 19 ≤ i ∧ i < 25
        · obtain ⟨j, rfl⟩ : ∃ j, i = 19 + j := ⟨i - 19, by omega⟩
          rw [fg_y (by omega), mUI_no (by omega), g3 j (by omega)]
        · rw [fg_n (by omega), gg]
          unfold gT
          rw [rs_fr e1 hn]
          by_cases e2 : i = 42
          · subst e2
            rw [mUI_yes ⟨rfl, rfl⟩, tU_y]
          · rw [mUI_no (by omega), tU_n e2, hF _ _ (by omega) (by omega) (by omega)]
            exact hI i hi
  | succ d ih =>
    intro i k I1 L1 bt b a10 a11 a12 a13 hi hk hF hL hb h
    rw [e_X11_reach_55]
    have ei : T - 4 + (i : Int) + 1 = T - 4 + ((i + 1 : Nat) : Int) := by omega
    have hle : (T + 4 < T - 4 + (i : Int)) = False := eq_false (by omega)
    by_cases hin : -32 ≤ T - 4 + (i : Int) ∧ T - 4 + (i : Int) ≤ 31
    · have hw : wi (i3 (-32)) (i3 (T - 4 + (i : Int))) (nI 31) := by
        rw [← i3_n]
        refine ⟨?_, ?_⟩
        · rw [i3_le (by omega) (by omega) (by omega) (by omega)]; omega
        · rw [i3_le (by omega) (by omega) (by omega) (by omega)]; omega
      have hki : fr ≤ T - 4 + i ∧ T - 4 + i ≤ to ∧ (k : Int) = T - 4 + i - fr := by omega
      have et : T - 4 + (i : Int) = fr + k := by omega
      have n32 : (-nI 32 : Int32) = i3 (-32) := rfl
      simp (disch := omega) only [e_X11_reach_0, e_X11_reach_0n, e_X11_reach_1, e_X11_reach_2, e_X11_reach_3, e_X11_reach_6, e_X11_reach_9, e_X11_reach_10, e_X11_reach_12, e_X11_reach_15, e_X11_reach_18, e_X11_reach_21, e_X11_reach_22, e_X11_reach_22n, e_X11_reach_23, e_X11_reach_26, e_X11_reach_26n, e_X11_reach_27, e_X11_reach_28, e_X11_reach_31, e_X11_reach_31n, e_X11_reach_32, e_X11_reach_33, e_X11_reach_35, e_X11_reach_38, e_X11_reach_40, e_X11_reach_42, e_X11_reach_44, e_X11_reach_47, e_X11_reach_49, e_X11_reach_51, e_X11_reach_52, e_X11_reach_53, e_X11_reach_57, e_X11_reach_59, e_X11_reach_60, e_X11_reach_61, e_X11_reach_64, e_X11_reach_66, e_X11_reach_68, e_X11_reach_70, e_X11_reach_73, e_X11_reach_76, e_X11_reach_76n, e_X11_reach_77, e_X11_reach_78, e_X11_reach_81, e_X11_reach_81n, e_X11_reach_82, e_X11_reach_83, e_X11_reach_85, e_X11_reach_87, e_X11_reach_90, e_X11_reach_90n, e_X11_reach_91, e_X11_reach_92, e_X11_reach_94, e_X11_reach_97, e_X11_reach_99, e_X11_reach_99n, e_X11_reach_100, e_X11_reach_101, e_X11_reach_104, e_X11_reach_104n, e_X11_reach_105, e_X11_reach_108, e_X11_reach_109, e_X11_reach_110, e_X11_reach_113, e_X11_reach_114, e_X11_reach_115, e_X11_reach_116, e_X11_reach_117, e_X11_reach_117n, e_X11_reach_118, e_X11_reach_121, e_X11_reach_122, e_X11_reach_123, e_X11_reach_126, e_X11_reach_128, e_X11_reach_129, e_X11_reach_130, e_X11_reach_131, e_X11_reach_134, e_X11_reach_136, e_X11_reach_138, e_X11_reach_139, e_X11_reach_140, e_X11_reach_143, e_X11_reach_145, e_X11_reach_147, e_X11_reach_148, e_X11_reach_151, e_X11_reach_153, e_X11_reach_155, e_X11_reach_157, e_X11_reach_159, e_X11_reach_160, e_X11_reach_164, e_X11_reach_166, e_X11_reach_169, e_X11_reach_169n, e_X11_reach_170, e_X11_reach_173, e_X11_reach_175, e_X11_reach_175n, e_X11_reach_176, e_X11_reach_177, e_X11_reach_179, e_X11_reach_181, e_X11_reach_182, e_X11_reach_185, e_X11_reach_186, e_X11_reach_189, e_X11_reach_192, e_X11_reach_195, e_X11_reach_199, e_X11_reach_200, e_X11_reach_202, e_X11_reach_204, e_X11_reach_207, e_X11_reach_208, e_X11_reach_210, e_X11_reach_212, e_X11_reach_214, e_X11_reach_217, e_X11_reach_217n, e_X11_reach_218, e_X11_reach_219, e_X11_reach_221, e_X11_reach_223, e_X11_reach_224, e_X11_reach_224n, e_X11_reach_225, e_X11_reach_228, e_X11_reach_230, e_X11_reach_231, e_X11_reach_234, e_X11_reach_237, e_X11_reach_240, e_X11_reach_242, mNl_i, mNl_r, mNl_n, mNl_l, mNl_0, mRV_s, mRV_n, tl_s, tl_n, cs_0, cs_i, cs_r, cs_n, cs_l, Nat.reduceAdd, Nat.reduceLeDiff, true_and, and_true, eq_self_iff_true, if_true, if_false, Nat.lt_irrefl, s_lit, s_eq, s_le, s_lt, nI_add, pk_mul, s_in, s_cl, bI_n, bI_zn, not_true, not_false_eq_true, true_implies, false_implies, Nat.reduceEqDiff, Nat.reduceMul, Classical.not_not, imp_self, implies_true, tt_z, tg_329, n32, k_isIn, hw, k_put, k_bringB hp, i3n_add, i3_lt, Int.cast_ofNat_Int, hle]
      rw [et] at *
      generalize hI2 : mUI (bbM I1 p 6) 330 (239 * p + 42) (i3 (fr + (k : Int))) = I2
      have i2 : ∀ u j, ¬ (u = 330 ∧ (239 * p + 19 ≤ j ∧ j < 239 * p + 25 ∨ j = 239 * p + 42)) → I2 u j = I1 u j := fun u j g1 => by rw [← hI2, mUI_no (by omega), bb_n (by omega)]
      have it : (i3 (fr + (k : Int))).toInt = fr + k := i3_toInt (by omega) (by omega)
      have hs2 : rSin I2 := fun j hj => by rw [i2 _ _ (by omega), i2 _ _ (by omega), hF _ _ (by omega) (by omega) (by omega), hF _ _ (by omega) (by omega) (by omega)]; exact hs j hj
      have hI2' : isF I2 p (tU f (i3 (fr + (k : Int)))) := fun u hu => by
        by_cases e1 : 19 ≤ u ∧ u < 25
        · obtain ⟨j, rfl⟩ : ∃ j, u = 19 + j := ⟨u - 19, by omega⟩
          rw [← hI2, mUI_no (by omega), bb_y (by omega), hF _ _ (by omega) (by omega) (by omega), h338 j (by omega), tU_n (by omega)]
        · by_cases e2 : u = 42
          · subst e2
            rw [← hI2, mUI_yes ⟨rfl, rfl⟩, tU_y]
          · rw [i2 _ _ (by omega), hF _ _ (by omega) (by omega) (by omega), tU_n e2]
            exact hI u hu
      refine s_restM hp (by omega) ⟨hs2, hI2', fInv_tU hV ⟨by rw [it]; omega, by rw [it]; omega⟩⟩ (fun I3 L3 hF3 hS3 => ?_)
      have eg : (rsS n1 q m 60 (tU f (i3 (fr + (k : Int))))).2 = gT f n1 q m (fr + k) := rfl
      rw [eg] at hS3
      obtain ⟨hs3, hI3, hV3⟩ := hS3
      obtain ⟨⟨d1, d2⟩, ⟨d3, d4⟩, d5, d6⟩ := dT_b (t := fr + k) hl hx1 hx2 hy1 hy2 hV3.1
      have ed : (G (gT f n1 q m (fr + k)) 5 l - 1024 * x) * (G (gT f n1 q m (fr + k)) 5 l - 1024 * x) + (G (gT f n1 q m (fr + k)) 6 l - 1024 * y) * (G (gT f n1 q m (fr + k)) 6 l - 1024 * y) = dT f n1 q m l x y (fr + k) := rfl
      have c5 : lyL L3 (gT f n1 q m (fr + k)) n1 335 l = i6 (G (gT f n1 q m (fr + k)) 5 l) := ll_5 hl
      have c6 : lyL L3 (gT f n1 q m (fr + k)) n1 336 l = i6 (G (gT f n1 q m (fr + k)) 6 l) := ll_6 hl
      have hF4 : FRm p I0 (lyW I3 (gT f n1 q m (fr + k)) n1) := fun u j g1 g2 g3 => by rw [lw_ne (by omega), hF3.1 _ _ (by omega) g2, i2 _ _ g1, hF _ _ g1 g2 g3]
      have hL4 : ∀ u j, ¬ (333 ≤ u ∧ u ≤ 336) → ¬ (u = 329 ∧ (j = 10 ∨ j = 11)) → lyL L3 (gT f n1 q m (fr + k)) n1 u j = L0 u j := fun u j g1 g2 => by rw [ll_ne (by omega), hF3.2 _ _ g1 g2, hL _ _ g1 g2]
      have hbB : -1 ≤ b ∧ b ≤ 1000000000000000000 := by rcases hb with ⟨-, hb⟩ | ⟨g, -, -, b1, b2⟩ <;> omega
      have hk1 : T - 4 + ((i + 1 : Nat) : Int) ≤ fr ∧ k + 1 = 0 ∨ fr ≤ T - 4 + ((i + 1 : Nat) : Int) ∧ T - 4 + ((i + 1 : Nat) : Int) ≤ to + 1 ∧ ((k + 1 : Nat) : Int) = T - 4 + ((i + 1 : Nat) : Int) - fr ∨ to < T - 4 + ((i + 1 : Nat) : Int) ∧ k + 1 = cnt := by omega
      have m1 : (i6 x).toInt = x := i6_toInt (by omega) (by omega)
      by_cases hlt : b < 0 ∨ dT f n1 q m l x y (fr + k) < b
      · have hA1 : rcA f n1 q m l x y fr (k + 1) = some (fr + k, dT f n1 q m l x y (fr + k), gT f n1 q m (fr + k)) := by
          unfold rcA
          rcases hb with ⟨hb, -⟩ | ⟨g, hb, -, b1, -⟩
          · rw [hb]
          · rw [hb]; exact ifP_t (by rcases hlt with z | z
                                     · omega
                                     · exact z)
        have kf := fun (Q : mQo) (I : Nat → Nat → Int32) (L : Nat → Nat → Int64) (a10 : Option Value) => l_fd (Q := Q) (n := n) (I := I) (L := L) (a2 := some (.int (nI l))) (a3 := some (.int (i3 x))) (a4 := some (.int (i3 y))) (a5 := some (.int (i3 T))) (a6 := some (.int (i3 (fr + (k : Int))))) (a7 := some (.long (i6 (dT f n1 q m l x y (fr + k))))) (a8 := none) (a9 := some (.int (i3 (fr + (k : Int))))) (a10 := a10) (a11 := some (.long (i6 (dT f n1 q m l x y (fr + k))))) (a12 := none) rfl hp 6 0 (by omega)
        simp only [fd_0] at kf
        have hP : ∀ A : Prop, ((b < 0 → A) ∧ (¬ b < 0 → (b ≤ dT f n1 q m l x y (fr + k) → False) ∧ (¬ b ≤ dT f n1 q m l x y (fr + k) → A))) = A := fun A => by
          by_cases z : b < 0
          · simp [z]
          · have z2 : ¬ b ≤ dT f n1 q m l x y (fr + k) := by omega
            simp [z, z2]
        by_cases z : b < 0
        · simp (disch := omega) only [e_X11_reach_0, e_X11_reach_0n, e_X11_reach_1, e_X11_reach_2, e_X11_reach_3, e_X11_reach_6, e_X11_reach_9, e_X11_reach_10, e_X11_reach_12, e_X11_reach_15, e_X11_reach_18, e_X11_reach_21, e_X11_reach_22, e_X11_reach_22n, e_X11_reach_23, e_X11_reach_26, e_X11_reach_26n, e_X11_reach_27, e_X11_reach_28, e_X11_reach_31, e_X11_reach_31n, e_X11_reach_32, e_X11_reach_33, e_X11_reach_35, e_X11_reach_38, e_X11_reach_40, e_X11_reach_42, e_X11_reach_44, e_X11_reach_47, e_X11_reach_49, e_X11_reach_51, e_X11_reach_52, e_X11_reach_53, e_X11_reach_57, e_X11_reach_59, e_X11_reach_60, e_X11_reach_61, e_X11_reach_64, e_X11_reach_66, e_X11_reach_68, e_X11_reach_70, e_X11_reach_73, e_X11_reach_76, e_X11_reach_76n, e_X11_reach_77, e_X11_reach_78, e_X11_reach_81, e_X11_reach_81n, e_X11_reach_82, e_X11_reach_83, e_X11_reach_85, e_X11_reach_87, e_X11_reach_90, e_X11_reach_90n, e_X11_reach_91, e_X11_reach_92, e_X11_reach_94, e_X11_reach_97, e_X11_reach_99, e_X11_reach_99n, e_X11_reach_100, e_X11_reach_101, e_X11_reach_104, e_X11_reach_104n, e_X11_reach_105, e_X11_reach_108, e_X11_reach_109, e_X11_reach_110, e_X11_reach_113, e_X11_reach_114, e_X11_reach_115, e_X11_reach_116, e_X11_reach_117, e_X11_reach_117n, e_X11_reach_118, e_X11_reach_121, e_X11_reach_122, e_X11_reach_123, e_X11_reach_126, e_X11_reach_128, e_X11_reach_129, e_X11_reach_130, e_X11_reach_131, e_X11_reach_134, e_X11_reach_136, e_X11_reach_138, e_X11_reach_139, e_X11_reach_140, e_X11_reach_143, e_X11_reach_145, e_X11_reach_147, e_X11_reach_148, e_X11_reach_151, e_X11_reach_153, e_X11_reach_155, e_X11_reach_157, e_X11_reach_159, e_X11_reach_160, e_X11_reach_164, e_X11_reach_166, e_X11_reach_169, e_X11_reach_169n, e_X11_reach_170, e_X11_reach_173, e_X11_reach_175, e_X11_reach_175n, e_X11_reach_176, e_X11_reach_177, e_X11_reach_179, e_X11_reach_181, e_X11_reach_182, e_X11_reach_185, e_X11_reach_186, e_X11_reach_189, e_X11_reach_192, e_X11_reach_195, e_X11_reach_199, e_X11_reach_200, e_X11_reach_202, e_X11_reach_204, e_X11_reach_207, e_X11_reach_208, e_X11_reach_210, e_X11_reach_212, e_X11_reach_214, e_X11_reach_217, e_X11_reach_217n, e_X11_reach_218, e_X11_reach_219, e_X11_reach_221, e_X11_reach_223, e_X11_reach_224, e_X11_reach_224n, e_X11_reach_225, e_X11_reach_228, e_X11_reach_230, e_X11_reach_231, e_X11_reach_234, e_X11_reach_237, e_X11_reach_240, e_X11_reach_242, mNl_i, mNl_r, mNl_n, mNl_l, mNl_0, mRV_s, mRV_n, tl_s, tl_n, cs_0, cs_i, cs_r, cs_n, cs_l, Nat.reduceAdd, Nat.reduceLeDiff, true_and, and_true, eq_self_iff_true, if_true, if_false, Nat.lt_irrefl, s_lit, s_eq, s_le, s_lt, nI_add, pk_mul, s_in, s_cl, bI_n, bI_zn, not_true, not_false_eq_true, true_implies, false_implies, Nat.reduceEqDiff, Nat.reduceMul, Classical.not_not, imp_self, implies_true, tt_z, tg_329, rf_329_0, rf_329_1, rf_329_4, rf_329_5, rf_329_6, rf_329_7, rf_329_8, rf_329_9, rf_329_12, rf_329_13, tg_335, ln_335, tg_336, ln_336, k_layM hp hs3 hI3 hV3.2.2.1 hV3.1.1, c5, c6, i6_1024, i6_0, i3_l, i6_mul, i6_sub, k_squareM, ed, q_lt, q_ge, i6_lt, i6_le, kf, i3n_add, Int.cast_ofNat_Int, show l < 6 from by omega, eq_true z]
          rw [show fr + (k : Int) + 1 = T - 4 + ((i + 1 : Nat) : Int) by omega]
          refine ih (i + 1) (k + 1) _ _ (fr + k) (dT f n1 q m l x y (fr + k)) _ _ _ _ (by omega) hk1 (fun u j g1 g2 g3 => ?_) hL4 (Or.inr ⟨_, hA1, fun j hj => ?_, d1, by omega⟩) h
          · rw [fd_n g3]; exact hF4 u j g1 g2 g3
          · rw [fd_y hj]; exact isF_lw hI3 _ (by omega)
        · have z2 : ¬ b ≤ dT f n1 q m l x y (fr + k) := by omega
          simp (disch := omega) only [e_X11_reach_0, e_X11_reach_0n, e_X11_reach_1, e_X11_reach_2, e_X11_reach_3, e_X11_reach_6, e_X11_reach_9, e_X11_reach_10, e_X11_reach_12, e_X11_reach_15, e_X11_reach_18, e_X11_reach_21, e_X11_reach_22, e_X11_reach_22n, e_X11_reach_23, e_X11_reach_26, e_X11_reach_26n, e_X11_reach_27, e_X11_reach_28, e_X11_reach_31, e_X11_reach_31n, e_X11_reach_32, e_X11_reach_33, e_X11_reach_35, e_X11_reach_38, e_X11_reach_40, e_X11_reach_42, e_X11_reach_44, e_X11_reach_47, e_X11_reach_49, e_X11_reach_51, e_X11_reach_52, e_X11_reach_53, e_X11_reach_57, e_X11_reach_59, e_X11_reach_60, e_X11_reach_61, e_X11_reach_64, e_X11_reach_66, e_X11_reach_68, e_X11_reach_70, e_X11_reach_73, e_X11_reach_76, e_X11_reach_76n, e_X11_reach_77, e_X11_reach_78, e_X11_reach_81, e_X11_reach_81n, e_X11_reach_82, e_X11_reach_83, e_X11_reach_85, e_X11_reach_87, e_X11_reach_90, e_X11_reach_90n, e_X11_reach_91, e_X11_reach_92, e_X11_reach_94, e_X11_reach_97, e_X11_reach_99, e_X11_reach_99n, e_X11_reach_100, e_X11_reach_101, e_X11_reach_104, e_X11_reach_104n, e_X11_reach_105, e_X11_reach_108, e_X11_reach_109, e_X11_reach_110, e_X11_reach_113, e_X11_reach_114, e_X11_reach_115, e_X11_reach_116, e_X11_reach_117, e_X11_reach_117n, e_X11_reach_118, e_X11_reach_121, e_X11_reach_122, e_X11_reach_123, e_X11_reach_126, e_X11_reach_128, e_X11_reach_129, e_X11_reach_130, e_X11_reach_131, e_X11_reach_134, e_X11_reach_136, e_X11_reach_138, e_X11_reach_139, e_X11_reach_140, e_X11_reach_143, e_X11_reach_145, e_X11_reach_147, e_X11_reach_148, e_X11_reach_151, e_X11_reach_153, e_X11_reach_155, e_X11_reach_157, e_X11_reach_159, e_X11_reach_160, e_X11_reach_164, e_X11_reach_166, e_X11_reach_169, e_X11_reach_169n, e_X11_reach_170, e_X11_reach_173, e_X11_reach_175, e_X11_reach_175n, e_X11_reach_176, e_X11_reach_177, e_X11_reach_179, e_X11_reach_181, e_X11_reach_182, e_X11_reach_185, e_X11_reach_186, e_X11_reach_189, e_X11_reach_192, e_X11_reach_195, e_X11_reach_199, e_X11_reach_200, e_X11_reach_202, e_X11_reach_204, e_X11_reach_207, e_X11_reach_208, e_X11_reach_210, e_X11_reach_212, e_X11_reach_214, e_X11_reach_217, e_X11_reach_217n, e_X11_reach_218, e_X11_reach_219, e_X11_reach_221, e_X11_reach_223, e_X11_reach_224, e_X11_reach_224n, e_X11_reach_225, e_X11_reach_228, e_X11_reach_230, e_X11_reach_231, e_X11_reach_234, e_X11_reach_237, e_X11_reach_240, e_X11_reach_242, mNl_i, mNl_r, mNl_n, mNl_l, mNl_0, mRV_s, mRV_n, tl_s, tl_n, cs_0, cs_i, cs_r, cs_n, cs_l, Nat.reduceAdd, Nat.reduceLeDiff, true_and, and_true, eq_self_iff_true, if_true, if_false, Nat.lt_irrefl, s_lit, s_eq, s_le, s_lt, nI_add, pk_mul, s_in, s_cl, bI_n, bI_zn, not_true, not_false_eq_true, true_implies, false_implies, Nat.reduceEqDiff, Nat.reduceMul, Classical.not_not, imp_self, implies_true, tt_z, tg_329, rf_329_0, rf_329_1, rf_329_4, rf_329_5, rf_329_6, rf_329_7, rf_329_8, rf_329_9, rf_329_12, rf_329_13, tg_335, ln_335, tg_336, ln_336, k_layM hp hs3 hI3 hV3.2.2.1 hV3.1.1, c5, c6, i6_1024, i6_0, i3_l, i6_mul, i6_sub, k_squareM, ed, q_lt, q_ge, i6_lt, i6_le, kf, i3n_add, Int.cast_ofNat_Int, show l < 6 from by omega, eq_false z, eq_false z2]
          rw [show fr + (k : Int) + 1 = T - 4 + ((i + 1 : Nat) : Int) by omega]
          refine ih (i + 1) (k + 1) _ _ (fr + k) (dT f n1 q m l x y (fr + k)) _ _ _ _ (by omega) hk1 (fun u j g1 g2 g3 => ?_) hL4 (Or.inr ⟨_, hA1, fun j hj => ?_, d1, by omega⟩) h
          · rw [fd_n g3]; exact hF4 u j g1 g2 g3
          · rw [fd_y hj]; exact isF_lw hI3 _ (by omega)
      · have z : ¬ b < 0 := fun z => hlt (Or.inl z)
        have z2 : b ≤ dT f n1 q m l x y (fr + k) := Int.not_lt.mp (fun z => hlt (Or.inr z))
        have hA1 : ∃ g, rcA f n1 q m l x y fr (k + 1) = some (bt, b, g) ∧ (∀ j, j < 6 → I1 339 j = g (19 + j)) ∧ 0 ≤ b ∧ b < 1000000000000000000 := by
          rcases hb with ⟨-, hb⟩ | ⟨g, hb, g3, b1, b2⟩
          · exfalso; omega
          · refine ⟨g, ?_, g3, b1, b2⟩
            unfold rcA
            rw [hb]; exact ifP_f (fun z => hlt (Or.inr z))
        obtain ⟨g, hg, g3, b1, b2⟩ := hA1
        simp (disch := omega) only [e_X11_reach_0, e_X11_reach_0n, e_X11_reach_1, e_X11_reach_2, e_X11_reach_3, e_X11_reach_6, e_X11_reach_9, e_X11_reach_10, e_X11_reach_12, e_X11_reach_15, e_X11_reach_18, e_X11_reach_21, e_X11_reach_22, e_X11_reach_22n, e_X11_reach_23, e_X11_reach_26, e_X11_reach_26n, e_X11_reach_27, e_X11_reach_28, e_X11_reach_31, e_X11_reach_31n, e_X11_reach_32, e_X11_reach_33, e_X11_reach_35, e_X11_reach_38, e_X11_reach_40, e_X11_reach_42, e_X11_reach_44, e_X11_reach_47, e_X11_reach_49, e_X11_reach_51, e_X11_reach_52, e_X11_reach_53, e_X11_reach_57, e_X11_reach_59, e_X11_reach_60, e_X11_reach_61, e_X11_reach_64, e_X11_reach_66, e_X11_reach_68, e_X11_reach_70, e_X11_reach_73, e_X11_reach_76, e_X11_reach_76n, e_X11_reach_77, e_X11_reach_78, e_X11_reach_81, e_X11_reach_81n, e_X11_reach_82, e_X11_reach_83, e_X11_reach_85, e_X11_reach_87, e_X11_reach_90, e_X11_reach_90n, e_X11_reach_91, e_X11_reach_92, e_X11_reach_94, e_X11_reach_97, e_X11_reach_99, e_X11_reach_99n, e_X11_reach_100, e_X11_reach_101, e_X11_reach_104, e_X11_reach_104n, e_X11_reach_105, e_X11_reach_108, e_X11_reach_109, e_X11_reach_110, e_X11_reach_113, e_X11_reach_114, e_X11_reach_115, e_X11_reach_116, e_X11_reach_117, e_X11_reach_117n, e_X11_reach_118, e_X11_reach_121, e_X11_reach_122, e_X11_reach_123, e_X11_reach_126, e_X11_reach_128, e_X11_reach_129, e_X11_reach_130, e_X11_reach_131, e_X11_reach_134, e_X11_reach_136, e_X11_reach_138, e_X11_reach_139, e_X11_reach_140, e_X11_reach_143, e_X11_reach_145, e_X11_reach_147, e_X11_reach_148, e_X11_reach_151, e_X11_reach_153, e_X11_reach_155, e_X11_reach_157, e_X11_reach_159, e_X11_reach_160, e_X11_reach_164, e_X11_reach_166, e_X11_reach_169, e_X11_reach_169n, e_X11_reach_170, e_X11_reach_173, e_X11_reach_175, e_X11_reach_175n, e_X11_reach_176, e_X11_reach_177, e_X11_reach_179, e_X11_reach_181, e_X11_reach_182, e_X11_reach_185, e_X11_reach_186, e_X11_reach_189, e_X11_reach_192, e_X11_reach_195, e_X11_reach_199, e_X11_reach_200, e_X11_reach_202, e_X11_reach_204, e_X11_reach_207, e_X11_reach_208, e_X11_reach_210, e_X11_reach_212, e_X11_reach_214, e_X11_reach_217, e_X11_reach_217n, e_X11_reach_218, e_X11_reach_219, e_X11_reach_221, e_X11_reach_223, e_X11_reach_224, e_X11_reach_224n, e_X11_reach_225, e_X11_reach_228, e_X11_reach_230, e_X11_reach_231, e_X11_reach_234, e_X11_reach_237, e_X11_reach_240, e_X11_reach_242, mNl_i, mNl_r, mNl_n, mNl_l, mNl_0, mRV_s, mRV_n, tl_s, tl_n, cs_0, cs_i, cs_r, cs_n, cs_l, Nat.reduceAdd, Nat.reduceLeDiff, true_and, and_true, eq_self_iff_true, if_true, if_false, Nat.lt_irrefl, s_lit, s_eq, s_le, s_lt, nI_add, pk_mul, s_in, s_cl, bI_n, bI_zn, not_true, not_false_eq_true, true_implies, false_implies, Nat.reduceEqDiff, Nat.reduceMul, Classical.not_not, imp_self, implies_true, tt_z, tg_329, rf_329_0, rf_329_1, rf_329_4, rf_329_5, rf_329_6, rf_329_7, rf_329_8, rf_329_9, rf_329_12, rf_329_13, tg_335, ln_335, tg_336, ln_336, k_layM hp hs3 hI3 hV3.2.2.1 hV3.1.1, c5, c6, i6_1024, i6_0, i3_l, i6_mul, i6_sub, k_squareM, ed, q_lt, q_ge, i6_lt, i6_le, i3n_add, Int.cast_ofNat_Int, show l < 6 from by omega, eq_false z, eq_true z2]
        rw [show fr + (k : Int) + 1 = T - 4 + ((i + 1 : Nat) : Int) by omega]
        refine ih (i + 1) (k + 1) _ _ bt b _ _ _ _ (by omega) hk1 hF4 hL4 (Or.inr ⟨g, hg, fun j hj => ?_, b1, b2⟩) h
        rw [lw_ne (by omega), hF3.1 _ _ (by omega) (by omega), i2 _ _ (by omega)]; exact g3 j hj
    · have hw : ¬ wi (i3 (-32)) (i3 (T - 4 + (i : Int))) (nI 31) := by
        rw [← i3_n]
        rintro ⟨w1, w2⟩
        rw [i3_le (by omega) (by omega) (by omega) (by omega)] at w1 w2
        omega
      have n32 : (-nI 32 : Int32) = i3 (-32) := rfl
      simp (disch := omega) only [e_X11_reach_0, e_X11_reach_0n, e_X11_reach_1, e_X11_reach_2, e_X11_reach_3, e_X11_reach_6, e_X11_reach_9, e_X11_reach_10, e_X11_reach_12, e_X11_reach_15, e_X11_reach_18, e_X11_reach_21, e_X11_reach_22, e_X11_reach_22n, e_X11_reach_23, e_X11_reach_26, e_X11_reach_26n, e_X11_reach_27, e_X11_reach_28, e_X11_reach_31, e_X11_reach_31n, e_X11_reach_32, e_X11_reach_33, e_X11_reach_35, e_X11_reach_38, e_X11_reach_40, e_X11_reach_42, e_X11_reach_44, e_X11_reach_47, e_X11_reach_49, e_X11_reach_51, e_X11_reach_52, e_X11_reach_53, e_X11_reach_57, e_X11_reach_59, e_X11_reach_60, e_X11_reach_61, e_X11_reach_64, e_X11_reach_66, e_X11_reach_68, e_X11_reach_70, e_X11_reach_73, e_X11_reach_76, e_X11_reach_76n, e_X11_reach_77, e_X11_reach_78, e_X11_reach_81, e_X11_reach_81n, e_X11_reach_82, e_X11_reach_83, e_X11_reach_85, e_X11_reach_87, e_X11_reach_90, e_X11_reach_90n, e_X11_reach_91, e_X11_reach_92, e_X11_reach_94, e_X11_reach_97, e_X11_reach_99, e_X11_reach_99n, e_X11_reach_100, e_X11_reach_101, e_X11_reach_104, e_X11_reach_104n, e_X11_reach_105, e_X11_reach_108, e_X11_reach_109, e_X11_reach_110, e_X11_reach_113, e_X11_reach_114, e_X11_reach_115, e_X11_reach_116, e_X11_reach_117, e_X11_reach_117n, e_X11_reach_118, e_X11_reach_121, e_X11_reach_122, e_X11_reach_123, e_X11_reach_126, e_X11_reach_128, e_X11_reach_129, e_X11_reach_130, e_X11_reach_131, e_X11_reach_134, e_X11_reach_136, e_X11_reach_138, e_X11_reach_139, e_X11_reach_140, e_X11_reach_143, e_X11_reach_145, e_X11_reach_147, e_X11_reach_148, e_X11_reach_151, e_X11_reach_153, e_X11_reach_155, e_X11_reach_157, e_X11_reach_159, e_X11_reach_160, e_X11_reach_164, e_X11_reach_166, e_X11_reach_169, e_X11_reach_169n, e_X11_reach_170, e_X11_reach_173, e_X11_reach_175, e_X11_reach_175n, e_X11_reach_176, e_X11_reach_177, e_X11_reach_179, e_X11_reach_181, e_X11_reach_182, e_X11_reach_185, e_X11_reach_186, e_X11_reach_189, e_X11_reach_192, e_X11_reach_195, e_X11_reach_199, e_X11_reach_200, e_X11_reach_202, e_X11_reach_204, e_X11_reach_207, e_X11_reach_208, e_X11_reach_210, e_X11_reach_212, e_X11_reach_214, e_X11_reach_217, e_X11_reach_217n, e_X11_reach_218, e_X11_reach_219, e_X11_reach_221, e_X11_reach_223, e_X11_reach_224, e_X11_reach_224n, e_X11_reach_225, e_X11_reach_228, e_X11_reach_230, e_X11_reach_231, e_X11_reach_234, e_X11_reach_237, e_X11_reach_240, e_X11_reach_242, mNl_i, mNl_r, mNl_n, mNl_l, mNl_0, mRV_s, mRV_n, tl_s, tl_n, cs_0, cs_i, cs_r, cs_n, cs_l, Nat.reduceAdd, Nat.reduceLeDiff, true_and, and_true, eq_self_iff_true, if_true, if_false, Nat.lt_irrefl, s_lit, s_eq, s_le, s_lt, nI_add, pk_mul, s_in, s_cl, bI_n, bI_zn, not_true, not_false_eq_true, true_implies, false_implies, Nat.reduceEqDiff, Nat.reduceMul, Classical.not_not, imp_self, implies_true, tt_z, tg_329, n32, k_isIn, hw, i3n_add, i3_lt, Int.cast_ofNat_Int, hle]
      rw [ei]
      exact ih (i + 1) k I1 L1 bt b _ _ _ _ (by omega) (by omega) hF hL hb h
end
