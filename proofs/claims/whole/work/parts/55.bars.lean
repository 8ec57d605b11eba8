/-! ===== bars, and the reference's lay ===== -/
def bB (f : Nat → Int32) (w j : Nat) : Int := match w with
  | 0 => 1024 * (f 40).toInt + (f (43 + 2 * j)).toInt * sI ((f 42).toInt + 16) + (f (44 + 2 * j)).toInt * sI ((f 42).toInt + 32)
  | _ => 1024 * (f 41).toInt - (f (43 + 2 * j)).toInt * sI ((f 42).toInt + 16 + 16) - (f (44 + 2 * j)).toInt * sI ((f 42).toInt + 32 + 16)
def fCro (f : Nat → Int32) : Prop := inR (f 40) (-300) 300 ∧ inR (f 41) (-300) 300 ∧ inR (f 42) (-32) 31 ∧ ∀ k, k < 6 → inR (f (43 + 2 * k)) (-100) 100 ∧ inR (f (44 + 2 * k)) (-100) 100
theorem fCro_of {c : Nat → Nat → Int32} {f : Nat → Int32} (h : rCro c f) (hb : rBar c f) : fCro f := ⟨h.2.2.2.1, h.2.2.2.2.1, h.2.2.2.2.2, fun k hk => (hb k hk).2.2⟩
theorem bB_b {f : Nat → Int32} (h : fCro f) {j : Nat} (hj : j < 6) : (-512000 ≤ bB f 0 j ∧ bB f 0 j ≤ 512000) ∧ (-512000 ≤ bB f 1 j ∧ bB f 1 j ≤ 512000) := by
  obtain ⟨⟨x1, x2⟩, ⟨y1, y2⟩, -, hb⟩ := h
  obtain ⟨⟨a1, a2⟩, b1, b2⟩ := hb j hj
  have s1 := sI_b ((f 42).toInt + 16)
  have s2 := sI_b ((f 42).toInt + 32)
  have s3 := sI_b ((f 42).toInt + 16 + 16)
  have s4 := sI_b ((f 42).toInt + 32 + 16)
  have m1 := mul_b (A := 100) (B := 1024) a1 a2 s1.1 s1.2
  have m2 := mul_b (A := 100) (B := 1024) b1 b2 s2.1 s2.2
  have m3 := mul_b (A := 100) (B := 1024) a1 a2 s3.1 s3.2
  have m4 := mul_b (A := 100) (B := 1024) b1 b2 s4.1 s4.2
  unfold bB
  constructor
  · show _ ≤ _ + _ + _ ∧ _ + _ + _ ≤ _
    omega
  · show _ ≤ _ - _ - _ ∧ _ - _ - _ ≤ _
    omega
def brC (I : Nat → Nat → Int32) (F : Nat) (f : Nat → Int32) (k : Nat) : Nat → Nat → Int32 := fun x j => if (x = F + 8 ∨ x = F + 9) ∧ j < k then i3 (bB f (x - F - 8) j) else I x j
section
variable {I : Nat → Nat → Int32} {F k j x : Nat} {f : Nat → Int32}
theorem br_8 (h : j < k) : brC I F f k (F + 8) j = i3 (bB f 0 j) := by
  unfold brC; rw [if_pos (by omega), show F + 8 - F - 8 = 0 by omega]
theorem br_9 (h : j < k) : brC I F f k (F + 9) j = i3 (bB f 1 j) := by
  unfold brC; rw [if_pos (by omega), show F + 9 - F - 8 = 1 by omega]
theorem br_ne (h : ¬ ((x = F + 8 ∨ x = F + 9) ∧ j < k)) : brC I F f k x j = I x j := by unfold brC; rw [if_neg h]
theorem br_0 : brC I F f 0 = I := by funext x j; exact br_ne (by omega)
theorem br_step {V1 V2 : Int32} (h1 : V1 = i3 (bB f 0 k)) (h2 : V2 = i3 (bB f 1 k)) : mUI (mUI (brC I F f k) (F + 8) k V1) (F + 9) k V2 = brC I F f (k + 1) := by
  funext x j
  by_cases hj : j = k
  · subst hj
    rcases (show x = F + 8 ∨ x = F + 9 ∨ ¬ (x = F + 8 ∨ x = F + 9) by omega) with e | e | e
    · subst e
      simp (disch := omega) only [mUI_no, mUI_yes, br_8, h1]
    · subst e
      simp (disch := omega) only [mUI_no, mUI_yes, br_9, h2]
    · simp (disch := omega) only [mUI_no, br_ne]
  · simp (disch := omega) only [mUI_no]
    unfold brC
    by_cases e : (x = F + 8 ∨ x = F + 9) ∧ j < k
    · rw [if_pos e, if_pos (by omega)]
    · rw [if_neg e, if_neg (by omega)]
end
section
variable {Q : mQo} {n : Nat} {I : Nat → Nat → Int32} {L : Nat → Nat → Int64} {f : Nat → Int32} {a F n1 : Nat}
theorem l_bars (ha : sPup (tt n) a) (hF : sFig (tt n) F) (hd : a + 24 ≤ F) (hs : rSin I) (hC : rCro (blk I a) f) (hB : rBar (blk I a) f) : ∀ (d k : Nat), k + d = 6 → mWP tb_X1_layBars Q 19 [some (.ref F), some (.ref (a + 9)), some (.int (i3 ((f 42).toInt + 16))), some (.int (i3 ((f 42).toInt + 32))), some (.int (nI k))] [] (tt n, brC I F f k, L) = Q none (tt n, brC I F f 6, L) := by
  obtain ⟨a0, -, -, -, ⟨t1, r0, r1⟩, -, -, -, -, -, -, -, -, ⟨s1, s2⟩, ⟨s3, s4⟩, -⟩ := id ha
  obtain ⟨F0, F1, ⟨-, -, -, -, -, -, -, q7, q8⟩, -, -, -, -, -, -, -, ⟨u8, v8⟩, ⟨u9, v9⟩⟩ := id hF
  have c1 : I (a + 9) 2 = i3 (f 40).toInt := by rw [i3_t]; exact hC.1
  have c2 : I (a + 9) 3 = i3 (f 41).toInt := by rw [i3_t]; exact hC.2.1
  intro d
  induction d with
  | zero =>
    intro k hk
    have : k = 6 := by omega
    subst this
    simp (disch := omega) only [e_X1_layBars_0, e_X1_layBars_0n, e_X1_layBars_1, e_X1_layBars_4, e_X1_layBars_6, e_X1_layBars_7, e_X1_layBars_8, e_X1_layBars_8n, e_X1_layBars_9, e_X1_layBars_12, e_X1_layBars_14, e_X1_layBars_15, e_X1_layBars_16, e_X1_layBars_17, e_X1_layBars_19, e_X1_layBars_21, e_X1_layBars_23, e_X1_layBars_27, e_X1_layBars_30, e_X1_layBars_32, e_X1_layBars_35, e_X1_layBars_35n, e_X1_layBars_36, e_X1_layBars_39, e_X1_layBars_40, e_X1_layBars_40n, e_X1_layBars_41, e_X1_layBars_44, e_X1_layBars_46, e_X1_layBars_47, e_X1_layBars_48, e_X1_layBars_51, e_X1_layBars_52, e_X1_layBars_53, e_X1_layBars_53n, e_X1_layBars_54, e_X1_layBars_57, e_X1_layBars_59, e_X1_layBars_60, e_X1_layBars_61, e_X1_layBars_64, e_X1_layBars_65, e_X1_layBars_66, e_X1_layBars_67, e_X1_layBars_67n, e_X1_layBars_68, e_X1_layBars_71, e_X1_layBars_73, e_X1_layBars_76, e_X1_layBars_76n, e_X1_layBars_77, e_X1_layBars_80, e_X1_layBars_81, e_X1_layBars_81n, e_X1_layBars_82, e_X1_layBars_85, e_X1_layBars_87, e_X1_layBars_88, e_X1_layBars_89, e_X1_layBars_92, e_X1_layBars_93, e_X1_layBars_94, e_X1_layBars_94n, e_X1_layBars_95, e_X1_layBars_98, e_X1_layBars_100, e_X1_layBars_101, e_X1_layBars_102, e_X1_layBars_105, e_X1_layBars_106, e_X1_layBars_107, e_X1_layBars_108, e_X1_layBars_111, e_X1_layBars_114, mNl_i, mNl_r, mNl_n, mNl_l, mNl_0, mRV_s, mRV_n, tl_s, tl_n, cs_0, cs_i, cs_r, cs_n, cs_l, Nat.reduceAdd, Nat.reduceLeDiff, true_and, and_true, eq_self_iff_true, if_true, if_false, Nat.lt_irrefl, s_lit, s_eq, s_le, s_lt, nI_add, pk_mul, s_in, s_cl, bI_n, bI_zn, not_true, not_false_eq_true, true_implies, false_implies, Nat.reduceEqDiff, Nat.reduceMul, Classical.not_not, imp_self, implies_true, Nat.le_refl]
  | succ d ih =>
    intro k hk
    have hk1 : k < 6 := by omega
    have z1 : I (a + 10) k = i3 (f (43 + 2 * k)).toInt := by rw [i3_t]; exact (hB k hk1).1
    have z2 : I (a + 11) k = i3 (f (44 + 2 * k)).toInt := by rw [i3_t]; exact (hB k hk1).2.1
    rw [e_X1_layBars_19]
    simp (disch := omega) only [e_X1_layBars_0, e_X1_layBars_0n, e_X1_layBars_1, e_X1_layBars_4, e_X1_layBars_6, e_X1_layBars_7, e_X1_layBars_8, e_X1_layBars_8n, e_X1_layBars_9, e_X1_layBars_12, e_X1_layBars_14, e_X1_layBars_15, e_X1_layBars_16, e_X1_layBars_17, e_X1_layBars_21, e_X1_layBars_23, e_X1_layBars_26, e_X1_layBars_26n, e_X1_layBars_27, e_X1_layBars_30, e_X1_layBars_32, e_X1_layBars_35, e_X1_layBars_35n, e_X1_layBars_36, e_X1_layBars_39, e_X1_layBars_40, e_X1_layBars_40n, e_X1_layBars_41, e_X1_layBars_44, e_X1_layBars_46, e_X1_layBars_47, e_X1_layBars_48, e_X1_layBars_51, e_X1_layBars_52, e_X1_layBars_53, e_X1_layBars_53n, e_X1_layBars_54, e_X1_layBars_57, e_X1_layBars_59, e_X1_layBars_60, e_X1_layBars_61, e_X1_layBars_64, e_X1_layBars_65, e_X1_layBars_66, e_X1_layBars_67, e_X1_layBars_67n, e_X1_layBars_68, e_X1_layBars_71, e_X1_layBars_73, e_X1_layBars_76, e_X1_layBars_76n, e_X1_layBars_77, e_X1_layBars_80, e_X1_layBars_81, e_X1_layBars_81n, e_X1_layBars_82, e_X1_layBars_85, e_X1_layBars_87, e_X1_layBars_88, e_X1_layBars_89, e_X1_layBars_92, e_X1_layBars_93, e_X1_layBars_94, e_X1_layBars_94n, e_X1_layBars_95, e_X1_layBars_98, e_X1_layBars_100, e_X1_layBars_101, e_X1_layBars_102, e_X1_layBars_105, e_X1_layBars_106, e_X1_layBars_107, e_X1_layBars_108, e_X1_layBars_111, mNl_i, mNl_r, mNl_n, mNl_l, mNl_0, mRV_s, mRV_n, tl_s, tl_n, cs_0, cs_i, cs_r, cs_n, cs_l, Nat.reduceAdd, Nat.reduceLeDiff, true_and, and_true, eq_self_iff_true, if_true, if_false, Nat.lt_irrefl, s_lit, s_eq, s_le, s_lt, nI_add, pk_mul, s_in, s_cl, bI_n, bI_zn, not_true, not_false_eq_true, true_implies, false_implies, Nat.reduceEqDiff, Nat.reduceMul, Classical.not_not, imp_self, implies_true, tt_z, t1, r0, r1, s1, s2, s3, s4, F1, q7, q8, u8, v8, u9, v9, br_ne, mUI_no, mUI_yes, c1, c2, z1, z2, k_sine, k_cosine, sn_1 hs, n3_mul, i3_add, i3_sub, i3_mul, Int.cast_ofNat_Int, show (6 ≤ k) = False from eq_false (by omega), hk1, show 2 ≤ F + 8 from by omega, show 2 ≤ F + 9 from by omega]
    rw [br_step, ih (k + 1) (by omega)]
    all_goals rfl
theorem k_layBars (ha : sPup (tt n) a) (hF : sFig (tt n) F) (hd : a + 24 ≤ F) (hs : rSin I) (hC : rCro (blk I a) f) (hB : rBar (blk I a) f) : C_X1_layBars [.ref F, .ref (a + 9)] (tt n, I, L) Q = Q none (tt n, brC I F f 6, L) := by
  have h := l_bars (Q := Q) (L := L) ha hF hd hs hC hB 6 0 (by omega)
  rw [br_0] at h
  have t1 := ha.2.2.2.2.1.1
  have c1 : I (a + 9) 4 = i3 (f 42).toInt := by rw [i3_t]; exact hC.2.2.1
  simp (disch := omega) only [c_X1_layBars, e_X1_layBars_0, e_X1_layBars_0n, e_X1_layBars_1, e_X1_layBars_4, e_X1_layBars_6, e_X1_layBars_7, e_X1_layBars_8, e_X1_layBars_8n, e_X1_layBars_9, e_X1_layBars_12, e_X1_layBars_14, e_X1_layBars_15, e_X1_layBars_16, e_X1_layBars_17, e_X1_layBars_21, e_X1_layBars_23, e_X1_layBars_26, e_X1_layBars_26n, e_X1_layBars_27, e_X1_layBars_30, e_X1_layBars_32, e_X1_layBars_35, e_X1_layBars_35n, e_X1_layBars_36, e_X1_layBars_39, e_X1_layBars_40, e_X1_layBars_40n, e_X1_layBars_41, e_X1_layBars_44, e_X1_layBars_46, e_X1_layBars_47, e_X1_layBars_48, e_X1_layBars_51, e_X1_layBars_52, e_X1_layBars_53, e_X1_layBars_53n, e_X1_layBars_54, e_X1_layBars_57, e_X1_layBars_59, e_X1_layBars_60, e_X1_layBars_61, e_X1_layBars_64, e_X1_layBars_65, e_X1_layBars_66, e_X1_layBars_67, e_X1_layBars_67n, e_X1_layBars_68, e_X1_layBars_71, e_X1_layBars_73, e_X1_layBars_76, e_X1_layBars_76n, e_X1_layBars_77, e_X1_layBars_80, e_X1_layBars_81, e_X1_layBars_81n, e_X1_layBars_82, e_X1_layBars_85, e_X1_layBars_87, e_X1_layBars_88, e_X1_layBars_89, e_X1_layBars_92, e_X1_layBars_93, e_X1_layBars_94, e_X1_layBars_94n, e_X1_layBars_95, e_X1_layBars_98, e_X1_layBars_100, e_X1_layBars_101, e_X1_layBars_102, e_X1_layBars_105, e_X1_layBars_106, e_X1_layBars_107, e_X1_layBars_108, e_X1_layBars_111, e_X1_layBars_114, mNl_i, mNl_r, mNl_n, mNl_l, mNl_0, mRV_s, mRV_n, tl_s, tl_n, cs_0, cs_i, cs_r, cs_n, cs_l, Nat.reduceAdd, Nat.reduceLeDiff, true_and, and_true, eq_self_iff_true, if_true, if_false, Nat.lt_irrefl, s_lit, s_eq, s_le, s_lt, nI_add, pk_mul, s_in, s_cl, bI_n, bI_zn, not_true, not_false_eq_true, true_implies, false_implies, Nat.reduceEqDiff, Nat.reduceMul, Classical.not_not, imp_self, implies_true, t1, c1, i3n_add, Int.cast_ofNat_Int, h]
/-- bars and limbs of a puppet laid into a figure -/
def laC (I : Nat → Nat → Int32) (F : Nat) (f : Nat → Int32) (k : Nat) : Nat → Nat → Int32 := lyC (brC I F f 6) F f k
theorem la_ne {x j k : Nat} (h : ¬ (F < x ∧ x ≤ F + 9)) : laC I F f k x j = I x j := by unfold laC; rw [ly_ne (by omega), br_ne (by omega)]
theorem k_lay (ha : sPup (tt n) a) (hF : sFig (tt n) F) (hd : a + 24 ≤ F) (hF2 : F < 320) (hs : rSin I) (hL : rLim (blk I a) f n1) (hP : rPin (blk I a) f) (hC : rCro (blk I a) f) (hB : rBar (blk I a) f) : C_X1_lay [.ref F, .ref a] (tt n, I, L) Q = Q none (tt n, laC I F f n1, L) := by
  have a0 := ha.1
  obtain ⟨t1, r0, r1, r2, r3, r4⟩ := ha.2.1
  have e : ∀ off j, off < 24 → blk (brC I F f 6) a off j = blk I a off j := fun off j h => br_ne (by omega)
  have hs' : rSin (brC I F f 6) := fun j hj => by rw [br_ne (by omega), br_ne (by have := hF.1; omega)]; exact hs j hj
  have hL' : rLim (blk (brC I F f 6) a) f n1 := rLim_congr (e 1 4 (by omega)) (fun k hk => ⟨e 2 k (by omega), e 3 k (by omega), e 4 k (by omega), e 5 k (by omega)⟩) (fun _ _ => rfl) hL
  have hP' : rPin (blk (brC I F f 6) a) f := rPin_congr (e 1 5 (by omega)) (e 1 6 (by omega)) rfl rfl (fun _ _ => rfl) hP
  simp (disch := omega) only [c_X1_lay, e_X1_lay_0, e_X1_lay_0n, e_X1_lay_1, e_X1_lay_1n, e_X1_lay_2, e_X1_lay_5, e_X1_lay_8, e_X1_lay_8n, e_X1_lay_9, e_X1_lay_9n, e_X1_lay_10, e_X1_lay_13, e_X1_lay_16, mNl_i, mNl_r, mNl_n, mNl_l, mNl_0, mRV_s, mRV_n, tl_s, tl_n, cs_0, cs_i, cs_r, cs_n, cs_l, Nat.reduceAdd, Nat.reduceLeDiff, true_and, and_true, eq_self_iff_true, if_true, if_false, Nat.lt_irrefl, s_lit, s_eq, s_le, s_lt, nI_add, pk_mul, s_in, s_cl, bI_n, bI_zn, not_true, not_false_eq_true, true_implies, false_implies, Nat.reduceEqDiff, Nat.reduceMul, Classical.not_not, imp_self, implies_true, tt_z, t1, r0, r2, hF.2.1, k_layBars ha hF hd hs hC hB, k_layC ha hF hd hs' hL' hP']
  rfl
end
/-! the reference -/
def lyW (I : Nat → Nat → Int32) (f : Nat → Int32) (k : Nat) : Nat → Nat → Int32 := fun x j => if x = 337 ∧ j < k then i3 (G f 0 j) else I x j
def lyL (L : Nat → Nat → Int64) (f : Nat → Int32) (k : Nat) : Nat → Nat → Int64 := fun x j => if 333 ≤ x ∧ x ≤ 336 ∧ j < k then i6 (G f (x - 330) j) else L x j
section
variable {I : Nat → Nat → Int32} {L : Nat → Nat → Int64} {k j x : Nat} {f : Nat → Int32}
theorem lw_y (h : j < k) : lyW I f k 337 j = i3 (G f 0 j) := by unfold lyW; rw [if_pos ⟨rfl, h⟩]
theorem lw_ne (h : ¬ (x = 337 ∧ j < k)) : lyW I f k x j = I x j := by unfold lyW; rw [if_neg h]
theorem ll_3 (h : j < k) : lyL L f k 333 j = i6 (G f 3 j) := by unfold lyL; rw [if_pos (by omega)]
theorem ll_4 (h : j < k) : lyL L f k 334 j = i6 (G f 4 j) := by unfold lyL; rw [if_pos (by omega)]
theorem ll_5 (h : j < k) : lyL L f k 335 j = i6 (G f 5 j) := by unfold lyL; rw [if_pos (by omega)]
theorem ll_6 (h : j < k) : lyL L f k 336 j = i6 (G f 6 j) := by unfold lyL; rw [if_pos (by omega)]
theorem ll_ne (h : ¬ (333 ≤ x ∧ x ≤ 336 ∧ j < k)) : lyL L f k x j = L x j := by unfold lyL; rw [if_neg h]
theorem lw_0 : lyW I f 0 = I := by funext x j; exact lw_ne (by omega)
theorem ll_0 : lyL L f 0 = L := by funext x j; exact ll_ne (by omega)
theorem lw_step {V : Int32} (h : V = i3 (G f 0 k)) : mUI (lyW I f k) 337 k V = lyW I f (k + 1) := by
  funext x j
  by_cases hj : x = 337 ∧ j = k
  · obtain ⟨rfl, rfl⟩ := hj
    rw [mUI_yes ⟨rfl, rfl⟩, lw_y (by omega), h]
  · rw [mUI_no hj]
    unfold lyW
    by_cases e : x = 337 ∧ j < k
    · rw [if_pos e, if_pos (by omega)]
    · rw [if_neg e, if_neg (by omega)]
theorem ll_step {V3 V4 V5 V6 : Int64} (h3 : V3 = i6 (G f 3 k)) (h4 : V4 = i6 (G f 4 k)) (h5 : V5 = i6 (G f 5 k)) (h6 : V6 = i6 (G f 6 k)) : mUL (mUL (mUL (mUL (lyL L f k) 333 k V3) 334 k V4) 335 k V5) 336 k V6 = lyL L f (k + 1) := by
  funext x j
  by_cases hj : j = k
  · subst hj
    rcases (show x = 333 ∨ x = 334 ∨ x = 335 ∨ x = 336 ∨ ¬ (333 ≤ x ∧ x ≤ 336) by omega) with e | e | e | e | e
    · subst e
      simp (disch := omega) only [mUL_no, mUL_yes, ll_3, h3]
    · subst e
      simp (disch := omega) only [mUL_no, mUL_yes, ll_4, h4]
    · subst e
      simp (disch := omega) only [mUL_no, mUL_yes, ll_5, h5]
    · subst e
      simp (disch := omega) only [mUL_no, mUL_yes, ll_6, h6]
    · simp (disch := omega) only [mUL_no, ll_ne]
  · simp (disch := omega) only [mUL_no]
    unfold lyL
    by_cases e : 333 ≤ x ∧ x ≤ 336 ∧ j < k
    · rw [if_pos e, if_pos (by omega)]
    · rw [if_neg e, if_neg (by omega)]
end
section
variable {Q : mQo} {n : Nat} {I : Nat → Nat → Int32} {L : Nat → Nat → Int64} {f : Nat → Int32} {p n1 : Nat}
/-- the row of puppet p is f -/
def isF (I : Nat → Nat → Int32) (p : Nat) (f : Nat → Int32) : Prop := ∀ i, i < 239 → I 330 (239 * p + i) = f i
theorem i6_mneg (a b c : Int) : a - b * c = a + b * -c := by rw [Int.mul_neg, Int.sub_eq_add_neg]
theorem l_layM (hp : p < 2) (hs : rSin I) (hI : isF I p f) (h0 : f 0 = nI n1) (hfl : fLim f n1) : ∀ (d k : Nat) (a3 : Option Value), k + d = n1 → mWP tb_X11_lay Q 2 [some (.ref 329), some (.int (nI p)), some (.int (nI k)), a3] [] (tt n, lyW I f k, lyL L f k) = Q none (tt n, lyW I f n1, lyL L f n1) := by
  have hn : n1 ≤ 6 := hfl.1
  have hf : ∀ i, i < 239 → I 330 (239 * p + i) = i3 (f i).toInt := fun i hi => by rw [i3_t]; exact hI i hi
  have h0' : i3 (f 0).toInt = nI n1 := by rw [i3_t]; exact h0
  intro d
  induction d with
  | zero =>
    intro k a3 hk
    have : k = n1 := by omega
    subst this
    simp (disch := omega) only [e_X11_lay_0, e_X11_lay_1, e_X11_lay_2, e_X11_lay_3, e_X11_lay_3n, e_X11_lay_4, e_X11_lay_5, e_X11_lay_6, e_X11_lay_9, e_X11_lay_13, e_X11_lay_14, e_X11_lay_16, e_X11_lay_17, e_X11_lay_18, e_X11_lay_21, e_X11_lay_22, e_X11_lay_22n, e_X11_lay_23, e_X11_lay_26, e_X11_lay_27, e_X11_lay_28, e_X11_lay_31, e_X11_lay_34, e_X11_lay_34n, e_X11_lay_35, e_X11_lay_36, e_X11_lay_38, e_X11_lay_41, e_X11_lay_42, e_X11_lay_43, e_X11_lay_46, e_X11_lay_46n, e_X11_lay_47, e_X11_lay_50, e_X11_lay_51, e_X11_lay_52, e_X11_lay_53, e_X11_lay_53n, e_X11_lay_54, e_X11_lay_57, e_X11_lay_58, e_X11_lay_59, e_X11_lay_62, e_X11_lay_65, e_X11_lay_65n, e_X11_lay_66, e_X11_lay_67, e_X11_lay_69, e_X11_lay_72, e_X11_lay_73, e_X11_lay_74, e_X11_lay_77, e_X11_lay_77n, e_X11_lay_78, e_X11_lay_81, e_X11_lay_82, e_X11_lay_83, e_X11_lay_84, e_X11_lay_84n, e_X11_lay_85, e_X11_lay_88, e_X11_lay_89, e_X11_lay_90, e_X11_lay_93, e_X11_lay_94, e_X11_lay_97, e_X11_lay_97n, e_X11_lay_98, e_X11_lay_101, e_X11_lay_102, e_X11_lay_103, e_X11_lay_103n, e_X11_lay_104, e_X11_lay_105, e_X11_lay_107, e_X11_lay_108, e_X11_lay_109, e_X11_lay_112, e_X11_lay_113, e_X11_lay_115, e_X11_lay_116, e_X11_lay_117, e_X11_lay_117n, e_X11_lay_118, e_X11_lay_121, e_X11_lay_122, e_X11_lay_122n, e_X11_lay_123, e_X11_lay_124, e_X11_lay_125, e_X11_lay_125n, e_X11_lay_126, e_X11_lay_127, e_X11_lay_128, e_X11_lay_129, e_X11_lay_130, e_X11_lay_133, e_X11_lay_136, e_X11_lay_137, e_X11_lay_137n, e_X11_lay_138, e_X11_lay_141, e_X11_lay_142, e_X11_lay_142n, e_X11_lay_143, e_X11_lay_144, e_X11_lay_145, e_X11_lay_145n, e_X11_lay_146, e_X11_lay_147, e_X11_lay_148, e_X11_lay_149, e_X11_lay_150, e_X11_lay_153, e_X11_lay_156, e_X11_lay_157, e_X11_lay_160, e_X11_lay_163, mNl_i, mNl_r, mNl_n, mNl_l, mNl_0, mRV_s, mRV_n, tl_s, tl_n, cs_0, cs_i, cs_r, cs_n, cs_l, Nat.reduceAdd, Nat.reduceLeDiff, true_and, and_true, eq_self_iff_true, if_true, if_false, Nat.lt_irrefl, s_lit, s_eq, s_le, s_lt, nI_add, pk_mul, s_in, s_cl, bI_n, bI_zn, not_true, not_false_eq_true, true_implies, false_implies, Nat.reduceEqDiff, Nat.reduceMul, Classical.not_not, imp_self, implies_true, tt_z, tg_329, k_get, lw_ne, hf, h0', Nat.le_refl]
  | succ d ih =>
    intro k a3 hk
    have hk1 : k < n1 := by omega
    have hp' := (hfl.2 k hk1).2.2.1
    obtain ⟨e1, e2, e5, e6⟩ := G_r2 (f := f) (k := k) (by have := hp'.2; omega)
    rw [e_X11_lay_2]
    rcases par_cases hfl hk1 with e | ⟨j, hj, e⟩
    · obtain ⟨g0, g3, g4⟩ := G_r0 e
      have hA : (nI 0 ≤ i3 (f (13 + k)).toInt) = False := eq_false (by rw [i3_t]; exact Int32.not_le.mpr (Int32.lt_iff_toInt_lt.mpr e))
      simp (disch := omega) only [e_X11_lay_0, e_X11_lay_1, e_X11_lay_3, e_X11_lay_3n, e_X11_lay_4, e_X11_lay_5, e_X11_lay_6, e_X11_lay_9, e_X11_lay_12, e_X11_lay_12n, e_X11_lay_13, e_X11_lay_14, e_X11_lay_16, e_X11_lay_17, e_X11_lay_18, e_X11_lay_21, e_X11_lay_22, e_X11_lay_22n, e_X11_lay_23, e_X11_lay_26, e_X11_lay_27, e_X11_lay_28, e_X11_lay_31, e_X11_lay_34, e_X11_lay_34n, e_X11_lay_35, e_X11_lay_36, e_X11_lay_38, e_X11_lay_41, e_X11_lay_42, e_X11_lay_43, e_X11_lay_46, e_X11_lay_46n, e_X11_lay_47, e_X11_lay_50, e_X11_lay_51, e_X11_lay_52, e_X11_lay_53, e_X11_lay_53n, e_X11_lay_54, e_X11_lay_57, e_X11_lay_58, e_X11_lay_59, e_X11_lay_62, e_X11_lay_65, e_X11_lay_65n, e_X11_lay_66, e_X11_lay_67, e_X11_lay_69, e_X11_lay_72, e_X11_lay_73, e_X11_lay_74, e_X11_lay_77, e_X11_lay_77n, e_X11_lay_78, e_X11_lay_81, e_X11_lay_82, e_X11_lay_83, e_X11_lay_84, e_X11_lay_84n, e_X11_lay_85, e_X11_lay_88, e_X11_lay_89, e_X11_lay_90, e_X11_lay_93, e_X11_lay_94, e_X11_lay_97, e_X11_lay_97n, e_X11_lay_98, e_X11_lay_101, e_X11_lay_102, e_X11_lay_103, e_X11_lay_103n, e_X11_lay_104, e_X11_lay_105, e_X11_lay_107, e_X11_lay_108, e_X11_lay_109, e_X11_lay_112, e_X11_lay_113, e_X11_lay_115, e_X11_lay_116, e_X11_lay_117, e_X11_lay_117n, e_X11_lay_118, e_X11_lay_121, e_X11_lay_122, e_X11_lay_122n, e_X11_lay_123, e_X11_lay_124, e_X11_lay_125, e_X11_lay_125n, e_X11_lay_126, e_X11_lay_127, e_X11_lay_128, e_X11_lay_129, e_X11_lay_130, e_X11_lay_133, e_X11_lay_136, e_X11_lay_137, e_X11_lay_137n, e_X11_lay_138, e_X11_lay_141, e_X11_lay_142, e_X11_lay_142n, e_X11_lay_143, e_X11_lay_144, e_X11_lay_145, e_X11_lay_145n, e_X11_lay_146, e_X11_lay_147, e_X11_lay_148, e_X11_lay_149, e_X11_lay_150, e_X11_lay_153, e_X11_lay_156, e_X11_lay_157, e_X11_lay_160, c_X11_spotX, e_X11_spotX_0, e_X11_spotX_0n, e_X11_spotX_1, e_X11_spotX_4, e_X11_spotX_5, e_X11_spotX_6, e_X11_spotX_7, e_X11_spotX_8, e_X11_spotX_8n, e_X11_spotX_9, e_X11_spotX_9n, e_X11_spotX_10, e_X11_spotX_13, e_X11_spotX_14, e_X11_spotX_15, e_X11_spotX_18, e_X11_spotX_19, e_X11_spotX_20, e_X11_spotX_21, c_X11_spotY, e_X11_spotY_0, e_X11_spotY_0n, e_X11_spotY_1, e_X11_spotY_4, e_X11_spotY_5, e_X11_spotY_6, e_X11_spotY_7, e_X11_spotY_8, e_X11_spotY_8n, e_X11_spotY_9, e_X11_spotY_9n, e_X11_spotY_10, e_X11_spotY_13, e_X11_spotY_14, e_X11_spotY_15, e_X11_spotY_18, e_X11_spotY_19, e_X11_spotY_20, e_X11_spotY_21, mNl_i, mNl_r, mNl_n, mNl_l, mNl_0, mRV_s, mRV_n, tl_s, tl_n, cs_0, cs_i, cs_r, cs_n, cs_l, Nat.reduceAdd, Nat.reduceLeDiff, true_and, and_true, eq_self_iff_true, if_true, if_false, Nat.lt_irrefl, s_lit, s_eq, s_le, s_lt, nI_add, pk_mul, s_in, s_cl, bI_n, bI_zn, not_true, not_false_eq_true, true_implies, false_implies, Nat.reduceEqDiff, Nat.reduceMul, Classical.not_not, imp_self, implies_true, tt_z, tg_329, rf_329_0, rf_329_1, rf_329_4, rf_329_5, rf_329_6, rf_329_7, rf_329_8, rf_329_9, rf_329_12, rf_329_13, tg_333, ln_333, tg_334, ln_334, tg_335, ln_335, tg_336, ln_336, tg_337, ln_337, k_get, lw_ne, ll_ne, mUI_no, mUI_yes, mUL_no, mUL_yes, hf, h0', hA, k_sin, k_cos, sn_2 hs, sI_l, i3t_l, n3_add, i3_add, i3_and, i6_1024, i6_mul, i6_add, i6_sub, Int.cast_ofNat_Int, show (n1 ≤ k) = False from eq_false (by omega), show k < 6 from by omega, show (2 ≤ 337) = True from eq_true (by decide)]
      rw [lw_step, ll_step, ih (k + 1) _ (by omega)]
      all_goals simp only [e1, e2, e5, e6, g0, g3, g4, i6_mneg]
    · obtain ⟨g0, g3, g4⟩ := G_r1 e hj (by omega)
      have hB : i3 (f (13 + k)).toInt = nI j := by rw [i3_t]; exact e
      simp (disch := omega) only [e_X11_lay_0, e_X11_lay_1, e_X11_lay_3, e_X11_lay_3n, e_X11_lay_4, e_X11_lay_5, e_X11_lay_6, e_X11_lay_9, e_X11_lay_12, e_X11_lay_12n, e_X11_lay_13, e_X11_lay_14, e_X11_lay_16, e_X11_lay_17, e_X11_lay_18, e_X11_lay_21, e_X11_lay_22, e_X11_lay_22n, e_X11_lay_23, e_X11_lay_26, e_X11_lay_27, e_X11_lay_28, e_X11_lay_31, e_X11_lay_34, e_X11_lay_34n, e_X11_lay_35, e_X11_lay_36, e_X11_lay_38, e_X11_lay_41, e_X11_lay_42, e_X11_lay_43, e_X11_lay_46, e_X11_lay_46n, e_X11_lay_47, e_X11_lay_50, e_X11_lay_51, e_X11_lay_52, e_X11_lay_53, e_X11_lay_53n, e_X11_lay_54, e_X11_lay_57, e_X11_lay_58, e_X11_lay_59, e_X11_lay_62, e_X11_lay_65, e_X11_lay_65n, e_X11_lay_66, e_X11_lay_67, e_X11_lay_69, e_X11_lay_72, e_X11_lay_73, e_X11_lay_74, e_X11_lay_77, e_X11_lay_77n, e_X11_lay_78, e_X11_lay_81, e_X11_lay_82, e_X11_lay_83, e_X11_lay_84, e_X11_lay_84n, e_X11_lay_85, e_X11_lay_88, e_X11_lay_89, e_X11_lay_90, e_X11_lay_93, e_X11_lay_94, e_X11_lay_97, e_X11_lay_97n, e_X11_lay_98, e_X11_lay_101, e_X11_lay_102, e_X11_lay_103, e_X11_lay_103n, e_X11_lay_104, e_X11_lay_105, e_X11_lay_107, e_X11_lay_108, e_X11_lay_109, e_X11_lay_112, e_X11_lay_113, e_X11_lay_115, e_X11_lay_116, e_X11_lay_117, e_X11_lay_117n, e_X11_lay_118, e_X11_lay_121, e_X11_lay_122, e_X11_lay_122n, e_X11_lay_123, e_X11_lay_124, e_X11_lay_125, e_X11_lay_125n, e_X11_lay_126, e_X11_lay_127, e_X11_lay_128, e_X11_lay_129, e_X11_lay_130, e_X11_lay_133, e_X11_lay_136, e_X11_lay_137, e_X11_lay_137n, e_X11_lay_138, e_X11_lay_141, e_X11_lay_142, e_X11_lay_142n, e_X11_lay_143, e_X11_lay_144, e_X11_lay_145, e_X11_lay_145n, e_X11_lay_146, e_X11_lay_147, e_X11_lay_148, e_X11_lay_149, e_X11_lay_150, e_X11_lay_153, e_X11_lay_156, e_X11_lay_157, e_X11_lay_160, c_X11_spotX, e_X11_spotX_0, e_X11_spotX_0n, e_X11_spotX_1, e_X11_spotX_4, e_X11_spotX_5, e_X11_spotX_6, e_X11_spotX_7, e_X11_spotX_8, e_X11_spotX_8n, e_X11_spotX_9, e_X11_spotX_9n, e_X11_spotX_10, e_X11_spotX_13, e_X11_spotX_14, e_X11_spotX_15, e_X11_spotX_18, e_X11_spotX_19, e_X11_spotX_20, e_X11_spotX_21, c_X11_spotY, e_X11_spotY_0, e_X11_spotY_0n, e_X11_spotY_1, e_X11_spotY_4, e_X11_spotY_5, e_X11_spotY_6, e_X11_spotY_7, e_X11_spotY_8, e_X11_spotY_8n, e_X11_spotY_9, e_X11_spotY_9n, e_X11_spotY_10, e_X11_spotY_13, e_X11_spotY_14, e_X11_spotY_15, e_X11_spotY_18, e_X11_spotY_19, e_X11_spotY_20, e_X11_spotY_21, mNl_i, mNl_r, mNl_n, mNl_l, mNl_0, mRV_s, mRV_n, tl_s, tl_n, cs_0, cs_i, cs_r, cs_n, cs_l, Nat.reduceAdd, Nat.reduceLeDiff, true_and, and_true, eq_self_iff_true, if_true, if_false, Nat.lt_irrefl, s_lit, s_eq, s_le, s_lt, nI_add, pk_mul, s_in, s_cl, bI_n, bI_zn, not_true, not_false_eq_true, true_implies, false_implies, Nat.reduceEqDiff, Nat.reduceMul, Classical.not_not, imp_self, implies_true, tt_z, tg_329, rf_329_0, rf_329_1, rf_329_4, rf_329_5, rf_329_6, rf_329_7, rf_329_8, rf_329_9, rf_329_12, rf_329_13, tg_333, ln_333, tg_334, ln_334, tg_335, ln_335, tg_336, ln_336, tg_337, ln_337, k_get, lw_ne, lw_y, ll_ne, ll_5, ll_6, mUI_no, mUI_yes, mUL_no, mUL_yes, hf, h0', hB, k_sin, k_cos, sn_2 hs, sI_l, i3t_l, n3_add, i3_add, i3_and, i6_1024, i6_mul, i6_add, i6_sub, Int.cast_ofNat_Int, Nat.zero_le, show (n1 ≤ k) = False from eq_false (by omega), show k < 6 from by omega, show j < 6 from by omega, show (2 ≤ 337) = True from eq_true (by decide)]
      rw [lw_step, ll_step, ih (k + 1) _ (by omega)]
      all_goals simp only [e1, e2, e5, e6, g0, g3, g4, i6_mneg]
theorem k_layM (hp : p < 2) (hs : rSin I) (hI : isF I p f) (h0 : f 0 = nI n1) (hfl : fLim f n1) : C_X11_lay [.ref 329, .int (nI p)] (tt n, I, L) Q = Q none (tt n, lyW I f n1, lyL L f n1) := by
  have h := l_layM (Q := Q) (n := n) (L := L) hp hs hI h0 hfl n1 0 none (by omega)
  rw [lw_0, ll_0] at h
  simp (disch := omega) only [c_X11_lay, e_X11_lay_0, e_X11_lay_1, mNl_i, mNl_r, mNl_n, mNl_l, mNl_0, mRV_s, mRV_n, tl_s, tl_n, cs_0, cs_i, cs_r, cs_n, cs_l, Nat.reduceAdd, Nat.reduceLeDiff, true_and, and_true, eq_self_iff_true, if_true, if_false, Nat.lt_irrefl, s_lit, s_eq, s_le, s_lt, nI_add, pk_mul, s_in, s_cl, bI_n, bI_zn, not_true, not_false_eq_true, true_implies, false_implies, Nat.reduceEqDiff, Nat.reduceMul, Classical.not_not, imp_self, implies_true, h]
/-- what is laid in the reference's rows -/
def lwM (I : Nat → Nat → Int32) (L : Nat → Nat → Int64) (f : Nat → Int32) (n1 : Nat) : Prop := ∀ j, j < n1 → I 337 j = i3 (G f 0 j) ∧ L 333 j = i6 (G f 3 j) ∧ L 334 j = i6 (G f 4 j) ∧ L 335 j = i6 (G f 5 j) ∧ L 336 j = i6 (G f 6 j)
theorem lwM_of : lwM (lyW I f n1) (lyL L f n1) f n1 := fun j hj => ⟨lw_y hj, ll_3 hj, ll_4 hj, ll_5 hj, ll_6 hj⟩
theorem k_barX {j : Nat} (hp : p < 2) (hs : rSin I) (hI : isF I p f) (hj : j < 6) : C_X11_barX [.ref 329, .int (nI p), .int (nI j)] (tt n, I, L) Q = Q (some (.long (i6 (bB f 0 j)))) (tt n, I, L) := by
  have hf : ∀ i, i < 239 → I 330 (239 * p + i) = i3 (f i).toInt := fun i hi => by rw [i3_t]; exact hI i hi
  have e : 43 + 2 * j + 1 = 44 + 2 * j := by omega
  simp (disch := omega) only [c_X11_barX, e_X11_barX_0, e_X11_barX_0n, e_X11_barX_1, e_X11_barX_2, e_X11_barX_4, e_X11_barX_7, e_X11_barX_8, e_X11_barX_11, e_X11_barX_11n, e_X11_barX_12, e_X11_barX_13, e_X11_barX_15, e_X11_barX_18, e_X11_barX_19, e_X11_barX_20, e_X11_barX_20n, e_X11_barX_21, e_X11_barX_22, e_X11_barX_24, e_X11_barX_25, e_X11_barX_26, e_X11_barX_27, e_X11_barX_28, e_X11_barX_31, e_X11_barX_32, e_X11_barX_32n, e_X11_barX_33, e_X11_barX_34, e_X11_barX_36, e_X11_barX_37, e_X11_barX_40, e_X11_barX_41, e_X11_barX_42, e_X11_barX_43, e_X11_barX_43n, e_X11_barX_44, e_X11_barX_45, e_X11_barX_47, e_X11_barX_48, e_X11_barX_49, e_X11_barX_50, e_X11_barX_51, e_X11_barX_52, e_X11_barX_53, e_X11_barX_56, e_X11_barX_57, e_X11_barX_57n, e_X11_barX_58, e_X11_barX_59, e_X11_barX_61, e_X11_barX_62, e_X11_barX_65, e_X11_barX_66, e_X11_barX_67, e_X11_barX_68, mNl_i, mNl_r, mNl_n, mNl_l, mNl_0, mRV_s, mRV_n, tl_s, tl_n, cs_0, cs_i, cs_r, cs_n, cs_l, Nat.reduceAdd, Nat.reduceLeDiff, true_and, and_true, eq_self_iff_true, if_true, if_false, Nat.lt_irrefl, s_lit, s_eq, s_le, s_lt, nI_add, pk_mul, s_in, s_cl, bI_n, bI_zn, not_true, not_false_eq_true, true_implies, false_implies, Nat.reduceEqDiff, Nat.reduceMul, Classical.not_not, imp_self, implies_true, tt_z, tg_329, k_get, e, hf, k_sin, sn_2 hs, sI_l, i3t_l, i3n_add, i6_1024, i6_mul, i6_add, Int.cast_ofNat_Int]
  rfl
theorem k_barY {j : Nat} (hp : p < 2) (hs : rSin I) (hI : isF I p f) (hj : j < 6) : C_X11_barY [.ref 329, .int (nI p), .int (nI j)] (tt n, I, L) Q = Q (some (.long (i6 (bB f 1 j)))) (tt n, I, L) := by
  have hf : ∀ i, i < 239 → I 330 (239 * p + i) = i3 (f i).toInt := fun i hi => by rw [i3_t]; exact hI i hi
  have e : 43 + 2 * j + 1 = 44 + 2 * j := by omega
  simp (disch := omega) only [c_X11_barY, e_X11_barY_0, e_X11_barY_0n, e_X11_barY_1, e_X11_barY_2, e_X11_barY_4, e_X11_barY_7, e_X11_barY_8, e_X11_barY_11, e_X11_barY_11n, e_X11_barY_12, e_X11_barY_13, e_X11_barY_15, e_X11_barY_18, e_X11_barY_19, e_X11_barY_20, e_X11_barY_20n, e_X11_barY_21, e_X11_barY_22, e_X11_barY_24, e_X11_barY_25, e_X11_barY_26, e_X11_barY_27, e_X11_barY_28, e_X11_barY_31, e_X11_barY_32, e_X11_barY_32n, e_X11_barY_33, e_X11_barY_34, e_X11_barY_36, e_X11_barY_37, e_X11_barY_40, e_X11_barY_41, e_X11_barY_42, e_X11_barY_43, e_X11_barY_43n, e_X11_barY_44, e_X11_barY_45, e_X11_barY_47, e_X11_barY_48, e_X11_barY_49, e_X11_barY_50, e_X11_barY_51, e_X11_barY_52, e_X11_barY_53, e_X11_barY_56, e_X11_barY_57, e_X11_barY_57n, e_X11_barY_58, e_X11_barY_59, e_X11_barY_61, e_X11_barY_62, e_X11_barY_65, e_X11_barY_66, e_X11_barY_67, e_X11_barY_68, mNl_i, mNl_r, mNl_n, mNl_l, mNl_0, mRV_s, mRV_n, tl_s, tl_n, cs_0, cs_i, cs_r, cs_n, cs_l, Nat.reduceAdd, Nat.reduceLeDiff, true_and, and_true, eq_self_iff_true, if_true, if_false, Nat.lt_irrefl, s_lit, s_eq, s_le, s_lt, nI_add, pk_mul, s_in, s_cl, bI_n, bI_zn, not_true, not_false_eq_true, true_implies, false_implies, Nat.reduceEqDiff, Nat.reduceMul, Classical.not_not, imp_self, implies_true, tt_z, tg_329, k_get, e, hf, k_cos, sn_2 hs, sI_l, i3t_l, i3n_add, i6_1024, i6_mul, i6_sub, Int.cast_ofNat_Int]
  rfl
/-- a spot of a limb -/
def sp (f : Nat → Int32) (w l : Nat) (s : Int) : Int := G f (3 + w) l + s * G f (1 + w) l
theorem k_spotXM {l : Nat} {s : Int} (hs : rSin I) (hM : lwM I L f n1) (hfl : fLim f n1) (hl : l < n1) (h1 : 0 ≤ s) (h2 : s ≤ 100) : C_X11_spotX [.ref 329, .int (nI p), .int (nI l), .int (i3 s)] (tt n, I, L) Q = Q (some (.long (i6 (sp f 0 l s)))) (tt n, I, L) := by
  obtain ⟨m0, m3, m4, m5, m6⟩ := hM l hl
  have hn := hfl.1
  obtain ⟨e1, e2, -, -⟩ := G_r2 (f := f) (k := l) (by have := (hfl.2 l hl).2.2.1.2; omega)
  simp (disch := omega) only [c_X11_spotX, e_X11_spotX_0, e_X11_spotX_0n, e_X11_spotX_1, e_X11_spotX_4, e_X11_spotX_5, e_X11_spotX_6, e_X11_spotX_7, e_X11_spotX_8, e_X11_spotX_8n, e_X11_spotX_9, e_X11_spotX_9n, e_X11_spotX_10, e_X11_spotX_13, e_X11_spotX_14, e_X11_spotX_15, e_X11_spotX_18, e_X11_spotX_19, e_X11_spotX_20, e_X11_spotX_21, mNl_i, mNl_r, mNl_n, mNl_l, mNl_0, mRV_s, mRV_n, tl_s, tl_n, cs_0, cs_i, cs_r, cs_n, cs_l, Nat.reduceAdd, Nat.reduceLeDiff, true_and, and_true, eq_self_iff_true, if_true, if_false, Nat.lt_irrefl, s_lit, s_eq, s_le, s_lt, nI_add, pk_mul, s_in, s_cl, bI_n, bI_zn, not_true, not_false_eq_true, true_implies, false_implies, Nat.reduceEqDiff, Nat.reduceMul, Classical.not_not, imp_self, implies_true, tt_z, tg_329, rf_329_0, rf_329_1, rf_329_4, rf_329_5, rf_329_6, rf_329_7, rf_329_8, rf_329_9, rf_329_12, rf_329_13, tg_333, ln_333, tg_334, ln_334, tg_335, ln_335, tg_336, ln_336, tg_337, ln_337, m0, m3, k_sin, sn_2 hs, sI_l, i3_l, i6_mul, i6_add, show l < 6 from by omega]
  rw [← e1]
  rfl
theorem k_spotYM {l : Nat} {s : Int} (hs : rSin I) (hM : lwM I L f n1) (hfl : fLim f n1) (hl : l < n1) (h1 : 0 ≤ s) (h2 : s ≤ 100) : C_X11_spotY [.ref 329, .int (nI p), .int (nI l), .int (i3 s)] (tt n, I, L) Q = Q (some (.long (i6 (sp f 1 l s)))) (tt n, I, L) := by
  obtain ⟨m0, m3, m4, m5, m6⟩ := hM l hl
  have hn := hfl.1
  obtain ⟨e1, e2, -, -⟩ := G_r2 (f := f) (k := l) (by have := (hfl.2 l hl).2.2.1.2; omega)
  simp (disch := omega) only [c_X11_spotY, e_X11_spotY_0, e_X11_spotY_0n, e_X11_spotY_1, e_X11_spotY_4, e_X11_spotY_5, e_X11_spotY_6, e_X11_spotY_7, e_X11_spotY_8, e_X11_spotY_8n, e_X11_spotY_9, e_X11_spotY_9n, e_X11_spotY_10, e_X11_spotY_13, e_X11_spotY_14, e_X11_spotY_15, e_X11_spotY_18, e_X11_spotY_19, e_X11_spotY_20, e_X11_spotY_21, mNl_i, mNl_r, mNl_n, mNl_l, mNl_0, mRV_s, mRV_n, tl_s, tl_n, cs_0, cs_i, cs_r, cs_n, cs_l, Nat.reduceAdd, Nat.reduceLeDiff, true_and, and_true, eq_self_iff_true, if_true, if_false, Nat.lt_irrefl, s_lit, s_eq, s_le, s_lt, nI_add, pk_mul, s_in, s_cl, bI_n, bI_zn, not_true, not_false_eq_true, true_implies, false_implies, Nat.reduceEqDiff, Nat.reduceMul, Classical.not_not, imp_self, implies_true, tt_z, tg_329, rf_329_0, rf_329_1, rf_329_4, rf_329_5, rf_329_6, rf_329_7, rf_329_8, rf_329_9, rf_329_12, rf_329_13, tg_333, ln_333, tg_334, ln_334, tg_335, ln_335, tg_336, ln_336, tg_337, ln_337, m0, m4, k_cos, sn_2 hs, sI_l, i3_l, i6_mul, i6_sub, i6_mneg, show l < 6 from by omega]
  rw [← e2]
  rfl
end
/-- what is laid in a figure -/
def ldC (I : Nat → Nat → Int32) (F : Nat) (f : Nat → Int32) (n1 : Nat) : Prop := ∀ j, j < n1 → I (F + 1) j = i3 (G f 0 j) ∧ I (F + 2) j = i3 (G f 1 j) ∧ I (F + 3) j = i3 (G f 2 j) ∧ I (F + 4) j = i3 (G f 3 j) ∧ I (F + 5) j = i3 (G f 4 j) ∧ I (F + 6) j = i3 (G f 5 j) ∧ I (F + 7) j = i3 (G f 6 j)
def bdC (I : Nat → Nat → Int32) (F : Nat) (f : Nat → Int32) : Prop := ∀ j, j < 6 → I (F + 8) j = i3 (bB f 0 j) ∧ I (F + 9) j = i3 (bB f 1 j)
section
variable {Q : mQo} {n : Nat} {I : Nat → Nat → Int32} {L : Nat → Nat → Int64} {f : Nat → Int32} {F n1 : Nat}
theorem ldC_of : ldC (lyC I F f n1) F f n1 := fun j hj => ⟨ly_1 hj, ly_2 hj, ly_3 hj, ly_4 hj, ly_5 hj, ly_6 hj, ly_7 hj⟩
theorem bdC_of : bdC (brC I F f 6) F f := fun j hj => ⟨br_8 hj, br_9 hj⟩
theorem bdC_la : bdC (laC I F f n1) F f := fun j hj => by unfold laC; rw [ly_ne (by omega), ly_ne (by omega)]; exact bdC_of j hj
theorem k_spotXC {l : Nat} {s : Int} (hF : sFig (tt n) F) (hM : ldC I F f n1) (hn : n1 ≤ 6) (hl : l < n1) : C_X1_spotX [.ref F, .int (nI l), .int (i3 s)] (tt n, I, L) Q = Q (some (.int (i3 (sp f 0 l s)))) (tt n, I, L) := by
  obtain ⟨F0, F1, ⟨q0, q1, q2, q3, q4, q5, q6, q7, q8⟩, ⟨u1, v1⟩, ⟨u2, v2⟩, ⟨u3, v3⟩, ⟨u4, v4⟩, ⟨u5, v5⟩, -⟩ := id hF
  obtain ⟨m0, m1, m2, m3, m4, m5, m6⟩ := hM l hl
  simp (disch := omega) only [c_X1_spotX, e_X1_spotX_0, e_X1_spotX_0n, e_X1_spotX_1, e_X1_spotX_4, e_X1_spotX_5, e_X1_spotX_6, e_X1_spotX_7, e_X1_spotX_7n, e_X1_spotX_8, e_X1_spotX_11, e_X1_spotX_12, e_X1_spotX_13, e_X1_spotX_14, e_X1_spotX_15, mNl_i, mNl_r, mNl_n, mNl_l, mNl_0, mRV_s, mRV_n, tl_s, tl_n, cs_0, cs_i, cs_r, cs_n, cs_l, Nat.reduceAdd, Nat.reduceLeDiff, true_and, and_true, eq_self_iff_true, if_true, if_false, Nat.lt_irrefl, s_lit, s_eq, s_le, s_lt, nI_add, pk_mul, s_in, s_cl, bI_n, bI_zn, not_true, not_false_eq_true, true_implies, false_implies, Nat.reduceEqDiff, Nat.reduceMul, Classical.not_not, imp_self, implies_true, F1, q1, q3, u2, v2, u4, v4, m1, m3, i3_mul, i3_add, show l < 6 from by omega]
  rfl
theorem k_spotYC {l : Nat} {s : Int} (hF : sFig (tt n) F) (hM : ldC I F f n1) (hn : n1 ≤ 6) (hl : l < n1) : C_X1_spotY [.ref F, .int (nI l), .int (i3 s)] (tt n, I, L) Q = Q (some (.int (i3 (sp f 1 l s)))) (tt n, I, L) := by
  obtain ⟨F0, F1, ⟨q0, q1, q2, q3, q4, q5, q6, q7, q8⟩, ⟨u1, v1⟩, ⟨u2, v2⟩, ⟨u3, v3⟩, ⟨u4, v4⟩, ⟨u5, v5⟩, -⟩ := id hF
  obtain ⟨m0, m1, m2, m3, m4, m5, m6⟩ := hM l hl
  simp (disch := omega) only [c_X1_spotY, e_X1_spotY_0, e_X1_spotY_0n, e_X1_spotY_1, e_X1_spotY_4, e_X1_spotY_5, e_X1_spotY_6, e_X1_spotY_7, e_X1_spotY_7n, e_X1_spotY_8, e_X1_spotY_11, e_X1_spotY_12, e_X1_spotY_13, e_X1_spotY_14, e_X1_spotY_15, mNl_i, mNl_r, mNl_n, mNl_l, mNl_0, mRV_s, mRV_n, tl_s, tl_n, cs_0, cs_i, cs_r, cs_n, cs_l, Nat.reduceAdd, Nat.reduceLeDiff, true_and, and_true, eq_self_iff_true, if_true, if_false, Nat.lt_irrefl, s_lit, s_eq, s_le, s_lt, nI_add, pk_mul, s_in, s_cl, bI_n, bI_zn, not_true, not_false_eq_true, true_implies, false_implies, Nat.reduceEqDiff, Nat.reduceMul, Classical.not_not, imp_self, implies_true, F1, q2, q4, u3, v3, u5, v5, m2, m4, i3_mul, i3_add, show l < 6 from by omega]
  rfl
end
theorem sp_b {f : Nat → Int32} {n1 l : Nat} {s : Int} (hfl : fLim f n1) (hp : fPin f) (hl : l < n1) (h1 : 0 ≤ s) (h2 : s ≤ 100) : (-921600 ≤ sp f 0 l s ∧ sp f 0 l s ≤ 921600) ∧ (-921600 ≤ sp f 1 l s ∧ sp f 1 l s ≤ 921600) := by
  obtain ⟨-, b1, b2, b3, b4, -, -⟩ := G_b hfl hp l hl
  have hn := hfl.1
  have m1 := mul_b (a := s) (A := 100) (B := 1024) (by omega) h2 b1.1 b1.2
  have m2 := mul_b (a := s) (A := 100) (B := 1024) (by omega) h2 b2.1 b2.2
  have e0 : sp f 0 l s = G f 3 l + s * G f 1 l := rfl
  have e1 : sp f 1 l s = G f 4 l + s * G f 2 l := rfl
  rw [e0, e1]
  omega
