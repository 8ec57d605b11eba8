/-! ===== reach: promise 30 ===== -/
theorem lq1_fr {f g : Nat → Int32} {n q m : Nat} {s : Int32} {x : Nat} (hx : ¬ (19 ≤ x ∧ x < 25)) : ∀ d i, i + d ≤ 6 → lq1 f n q m s d i = some g → g x = f x := by
  intro d
  induction d with
  | zero => intro i _ h; cases h
  | succ d ih =>
    intro i hi h
    unfold lq1 at h
    by_cases h1 : tr1 f n q m i s
    · rw [ifP_t h1] at h
      cases h
      exact bU_n (by omega)
    · rw [ifP_f h1] at h
      by_cases h2 : tr1 f n q m i (-s)
      · rw [ifP_t h2] at h
        cases h
        exact bU_n (by omega)
      · rw [ifP_f h2] at h
        exact ih (i + 1) (by omega) h
theorem lq3_fr {f g : Nat → Int32} {n q m i : Nat} {s : Int32} {x : Nat} (hx : ¬ (19 ≤ x ∧ x < 25)) (hi : i < 6) : ∀ d j, j + d ≤ 6 → lq3 f n q m s i d j = some g → g x = f x := by
  intro d
  induction d with
  | zero => intro i _ h; cases h
  | succ d ih =>
    intro j hj h
    unfold lq3 at h
    by_cases h1 : tr2 f n q m i s j s
    · rw [ifP_t h1] at h
      cases h
      rw [bU_n (by omega), bU_n (by omega)]
    rw [ifP_f h1] at h
    by_cases h2 : tr2 f n q m i s j (-s)
    · rw [ifP_t h2] at h
      cases h
      rw [bU_n (by omega), bU_n (by omega)]
    rw [ifP_f h2] at h
    by_cases h3 : tr2 f n q m i (-s) j s
    · rw [ifP_t h3] at h
      cases h
      rw [bU_n (by omega), bU_n (by omega)]
    rw [ifP_f h3] at h
    by_cases h4 : tr2 f n q m i (-s) j (-s)
    · rw [ifP_t h4] at h
      cases h
      rw [bU_n (by omega), bU_n (by omega)]
    rw [ifP_f h4] at h
    exact ih (j + 1) (by omega) h
theorem lq2_fr {f g : Nat → Int32} {n q m : Nat} {s : Int32} {x : Nat} (hx : ¬ (19 ≤ x ∧ x < 25)) (hn : n ≤ 6) : ∀ d i, i + d ≤ n → lq2 f n q m s d i = some g → g x = f x := by
  intro d
  induction d with
  | zero => intro i _ h; cases h
  | succ d ih =>
    intro i hi h
    unfold lq2 at h
    cases h3 : lq3 f n q m s i (n - (i + 1)) (i + 1) with
    | some g' =>
      rw [h3] at h
      cases h
      exact lq3_fr hx (by omega) _ _ (by omega) h3
    | none =>
      rw [h3] at h
      exact ih (i + 1) (by omega) h
theorem st_fr {f g : Nat → Int32} {n q m x : Nat} (hx : ¬ (19 ≤ x ∧ x < 25)) (hn : n ≤ 6) (h : stS f n q m = some g) : g x = f x := by
  unfold stS at h
  cases h1 : lq1 f n q m (if f 128 = nI 0 then nI 1 else -nI 1) n 0 with
  | some g' =>
    rw [h1] at h
    cases h
    exact lq1_fr hx n 0 (by omega) h1
  | none =>
    rw [h1] at h
    exact lq2_fr hx hn n 0 (by omega) h
theorem rs_fr {n q m x : Nat} (hx : ¬ (19 ≤ x ∧ x < 25)) (hn : n ≤ 6) : ∀ (N : Nat) (f : Nat → Int32), (rsS n q m N f).2 x = f x := by
  intro N
  induction N with
  | zero => intro f; rfl
  | succ N ih =>
    intro f
    unfold rsS
    cases h : stS f n q m with
    | none => rfl
    | some g => exact (ih g).trans (st_fr hx hn h)
def tU (f : Nat → Int32) (t : Int32) : Nat → Int32 := fun i => if i = 42 then t else f i
theorem tU_y {f : Nat → Int32} {t : Int32} : tU f t 42 = t := rfl
theorem tU_n {f : Nat → Int32} {t : Int32} {i : Nat} (h : i ≠ 42) : tU f t i = f i := by unfold tU; rw [if_neg h]
theorem rP6_tU {c c' : Nat → Nat → Int32} {f : Nat → Int32} {t : Int32} {n q m tk ps : Nat} (h : rP6 c f n q m tk ps) (hx : inR t (-32) 31) (hc : ∀ off j, pAll off j = true → ¬ (off = 9 ∧ j = 4) → c' off j = c off j) (c1 : c' 9 4 = t) : rP6 c' (tU f t) n q m tk ps := by
  obtain ⟨hLim, hPin, hSpa, hCro, hBar, hHol, hHan, hGes, hPos⟩ := h
  have hf : ∀ i, i < 239 → ¬ (i = 42) → tU f t i = f i := fun i _ h => tU_n h
  refine ⟨rLim_congr (hc 1 4 (by decide) (by omega)) (fun k hk => ⟨hc 2 k (pA_6 k hk).1 (by omega), hc 3 k (pA_6 k hk).2.1 (by omega), hc 4 k (pA_6 k hk).2.2.1 (by omega), hc 5 k (pA_6 k hk).2.2.2.1 (by omega)⟩) (fun i hi => hf i (by omega) (by omega)) hLim, rPin_congr (hc 1 5 (by decide) (by omega)) (hc 1 6 (by decide) (by omega)) (hf 25 (by omega) (by omega)) (hf 26 (by omega) (by omega)) (fun k hk => hf (19 + k) (by omega) (by omega)) hPin, rSpa_congr (hc 6 2 (by decide) (by omega)) (fun k hk => ⟨hc 7 k (pA_6 k hk).2.2.2.2.1 (by omega), hc 8 k (pA_6 k hk).2.2.2.2.2.1 (by omega)⟩) (fun i hi hi2 => hf i (by omega) (by omega)) hSpa, ⟨?_, ?_, ?_, ?_, ?_, ?_⟩, rBar_congr (fun k hk => ⟨hc 10 k (pA_6 k hk).2.2.2.2.2.2.1 (by omega), hc 11 k (pA_6 k hk).2.2.2.2.2.2.2 (by omega)⟩) (fun i hi hi2 => hf i (by omega) (by omega)) hBar, rHol_congr (hc 12 6 (by decide) (by omega)) (fun k hk => ⟨hc 13 k (pA_12 k hk).1 (by omega), hc 14 k (pA_12 k hk).2.1 (by omega), hc 15 k (pA_12 k hk).2.2.1 (by omega), hc 16 k (pA_12 k hk).2.2.2.1 (by omega), hc 17 k (pA_12 k hk).2.2.2.2.1 (by omega), hc 18 k (pA_12 k hk).2.2.2.2.2.1 (by omega)⟩) (fun i hi hi2 => hf i (by omega) (by omega)) hHol, rHan_congr (hc 0 5 (by decide) (by omega)) (hf 128 (by omega) (by omega)) hHan, rGes_congr (hc 19 4 (by decide) (by omega)) (fun k hk => ⟨hc 20 k (pA_12 k hk).2.2.2.2.2.2.1 (by omega), hc 21 k (pA_12 k hk).2.2.2.2.2.2.2.1 (by omega), hc 22 k (pA_12 k hk).2.2.2.2.2.2.2.2 (by omega)⟩) (fun i hi hi2 => hf i (by omega) (by omega)) hGes, rPos_congr (hc 19 5 (by decide) (by omega)) (fun k hk => hc 23 k (pA_72 k hk) (by omega)) (fun i hi hi2 => hf i (by omega) (by omega)) hPos⟩
  · rw [hc 9 2 (by decide) (by omega), tU_n (by omega)]; exact hCro.1
  · rw [hc 9 3 (by decide) (by omega), tU_n (by omega)]; exact hCro.2.1
  · rw [c1, tU_y]
  · rw [tU_n (by omega)]; exact hCro.2.2.2.1
  · rw [tU_n (by omega)]; exact hCro.2.2.2.2.1
  · rw [tU_y]; exact hx
/-! what is found: the tilts one by one -/
noncomputable def gT (f : Nat → Int32) (n q m : Nat) (t : Int) : Nat → Int32 := (rsS n q m 60 (tU f (i3 t))).2
noncomputable def dT (f : Nat → Int32) (n q m l : Nat) (x y t : Int) : Int := (G (gT f n q m t) 5 l - 1024 * x) * (G (gT f n q m t) 5 l - 1024 * x) + (G (gT f n q m t) 6 l - 1024 * y) * (G (gT f n q m t) 6 l - 1024 * y)
noncomputable def rcA (f : Nat → Int32) (n q m l : Nat) (x y fr : Int) : Nat → Option (Int × Int × (Nat → Int32))
  | 0 => none
  | k + 1 => match rcA f n q m l x y fr k with
    | none => some (fr + k, dT f n q m l x y (fr + k), gT f n q m (fr + k))
    | some b => ifP (dT f n q m l x y (fr + k) < b.2.1) (some (fr + k, dT f n q m l x y (fr + k), gT f n q m (fr + k))) (some b)
theorem n3_neg (n : Nat) : -nI n = i3 (-(n : Int)) := by rw [← i3_n, i3_neg]
theorem rc_1 {f : Nat → Int32} {n q m l : Nat} {x y fr : Int} : ∀ k, ∃ b, rcA f n q m l x y fr (k + 1) = some b := by
  intro k
  unfold rcA
  cases rcA f n q m l x y fr k with
  | none => exact ⟨_, rfl⟩
  | some b =>
    by_cases h : dT f n q m l x y (fr + k) < b.2.1
    · exact ⟨_, ifP_t h⟩
    · exact ⟨_, ifP_f h⟩
/-- the block as it was when the best was found: bends in row 328, tilt bt -/
def cBk (I : Nat → Nat → Int32) (a : Nat) (bt : Int) : Nat → Nat → Int32 := fun off j => if off = 5 ∧ j < 6 then I 328 j else if off = 9 ∧ j = 4 then i3 bt else I (a + off) j
def FR (a : Nat) (I I' : Nat → Nat → Int32) : Prop := ∀ x j, ¬ (x = a + 5 ∧ j < 6) → ¬ (x = a + 9 ∧ j = 4) → ¬ (294 < x ∧ x ≤ 301) → ¬ (315 < x ∧ x ≤ 324) → ¬ (x = 328 ∧ j < 6) → I' x j = I x j
section
variable {Q : mQo} {n : Nat} {f : Nat → Int32} {a p n1 q m tk ps l : Nat} {x y fr to : Int}
theorem dT_b {t : Int} (hl : l < n1) (hx1 : -300 ≤ x) (hx2 : x ≤ 300) (hy1 : -300 ≤ y) (hy2 : y ≤ 300) (hA : fAll (gT f n1 q m t) n1 m) : (0 ≤ dT f n1 q m l x y t ∧ dT f n1 q m l x y t ≤ 9000000000000) ∧ (-1000000000 ≤ G (gT f n1 q m t) 5 l - 1024 * x ∧ G (gT f n1 q m t) 5 l - 1024 * x ≤ 1000000000) ∧ (-1000000000 ≤ G (gT f n1 q m t) 6 l - 1024 * y ∧ G (gT f n1 q m t) 6 l - 1024 * y ≤ 1000000000) := by
  have hn := hA.1.1
  obtain ⟨-, -, -, -, -, g5, g6⟩ := G_b hA.1 hA.2.1 l hl
  have := dd_b (u := G (gT f n1 q m t) 5 l) (v := 1024 * x) (x := G (gT f n1 q m t) 6 l) (y := 1024 * y) (by omega) (by omega) (by omega) (by omega) (by omega) (by omega) (by omega) (by omega)
  exact ⟨this, by omega, by omega⟩
theorem l_rcC {I0 : Nat → Nat → Int32} {L0 : Nat → Nat → Int64} {cnt : Nat} (ha : sPup (tt n) a) (hd : a + 24 ≤ 51) (hl : l < n1) (hx1 : -300 ≤ x) (hx2 : x ≤ 300) (hy1 : -300 ≤ y) (hy2 : y ≤ 300) (hfr : -32 ≤ fr) (hto : to ≤ 31) (hc : fr + cnt = to + 1) (hc1 : 1 ≤ cnt) (hs : rSin I0) (h6 : rP6 (blk I0 a) f n1 q m tk ps) (h327 : ∀ j, j < 6 → I0 327 j = I0 (a + 5) j) : ∀ (d k : Nat) (I1 : Nat → Nat → Int32) (L1 : Nat → Nat → Int64) (bt b : Int) (a12 a13 : Option Value), k + d = cnt → FR a I0 I1 → (∀ x j, x ≠ 315 → L1 x j = L0 x j) → (rcA f n1 q m l x y fr k = none ∧ b = 1000000000000000000 ∨ ∃ g, rcA f n1 q m l x y fr k = some (bt, b, g) ∧ rP6 (cBk I1 a bt) g n1 q m tk ps ∧ 0 ≤ b ∧ b < 1000000000000000000) → (∀ I2 L2 bt b g, rcA f n1 q m l x y fr cnt = some (bt, b, g) → FR a I0 I2 → (∀ x j, x ≠ 315 → L2 x j = L0 x j) → rP6 (blk I2 a) g n1 q m tk ps → Q (some (.long (i6 b))) (tt n, I2, L2)) → mWP tb_X10_reach Q 114 [some (.ref 2), some (.int (nI p)), some (.int (nI l)), some (.int (i3 x)), some (.int (i3 y)), some (.ref a), some (.int (i3 fr)), some (.int (i3 to)), some (.int (i3 bt)), some (.long (i6 b)), none, some (.int (i3 (fr + k))), a12, a13] [] (tt n, I1, L1) := by
  obtain ⟨t1, r0, r1, r2, r3, r4⟩ := ha.2.1
  obtain ⟨tL, w0, w1, w2, w3⟩ := ha.2.2.1
  have tC := ha.2.2.2.2.1.1
  obtain ⟨s7, s8⟩ : sArr (tt n) (a + 5) 6 := ha.2.2.2.2.2.2.2.2.2.2.1
  have a0 := ha.1
  have hn : n1 ≤ 6 := h6.1.1
  intro d
  induction d with
  | zero =>
    intro k I1 L1 bt b a12 a13 hk hF hL hb h
    have : k = cnt := by omega
    subst this
    obtain ⟨b', hb'⟩ := rc_1 (f := f) (n := n1) (q := q) (m := m) (l := l) (x := x) (y := y) (fr := fr) (k - 1)
    rw [show k - 1 + 1 = k by omega] at hb'
    rcases hb with ⟨hb, -⟩ | ⟨g, hb, g6, b1, b2⟩
    · rw [hb] at hb'; cases hb'
    · have kc := fun (Q : mQo) (I : Nat → Nat → Int32) (L : Nat → Nat → Int64) => k_copyRow (Q := Q) (t := tt n) (I := I) (L := L) (x := 328) (z := a + 5) (n := 6) tg_328 ln_328 s7 s8 (by omega) (by omega) (by decide)
      simp (disch := omega) only [e_X10_reach_0, e_X10_reach_0n, e_X10_reach_1, e_X10_reach_2, e_X10_reach_5, e_X10_reach_5n, e_X10_reach_7, e_X10_reach_7n, e_X10_reach_9, e_X10_reach_9n, e_X10_reach_12, e_X10_reach_12n, e_X10_reach_14, e_X10_reach_17, e_X10_reach_18, e_X10_reach_21, e_X10_reach_24, e_X10_reach_25, e_X10_reach_27, e_X10_reach_30, e_X10_reach_33, e_X10_reach_36, e_X10_reach_37, e_X10_reach_37n, e_X10_reach_38, e_X10_reach_41, e_X10_reach_41n, e_X10_reach_42, e_X10_reach_45, e_X10_reach_45n, e_X10_reach_46, e_X10_reach_49, e_X10_reach_52, e_X10_reach_52n, e_X10_reach_54, e_X10_reach_57, e_X10_reach_60, e_X10_reach_60n, e_X10_reach_61, e_X10_reach_64, e_X10_reach_67, e_X10_reach_69, e_X10_reach_69n, e_X10_reach_71, e_X10_reach_74, e_X10_reach_77, e_X10_reach_78, e_X10_reach_79, e_X10_reach_82, e_X10_reach_84, e_X10_reach_86, e_X10_reach_86n, e_X10_reach_88, e_X10_reach_91, e_X10_reach_94, e_X10_reach_95, e_X10_reach_96, e_X10_reach_99, e_X10_reach_101, e_X10_reach_103, e_X10_reach_105, e_X10_reach_108, e_X10_reach_110, e_X10_reach_112, e_X10_reach_114, e_X10_reach_116, e_X10_reach_118, e_X10_reach_122, e_X10_reach_125, e_X10_reach_125n, e_X10_reach_127, e_X10_reach_130, e_X10_reach_133, e_X10_reach_136, e_X10_reach_136n, e_X10_reach_138, e_X10_reach_141, e_X10_reach_143, e_X10_reach_146, e_X10_reach_146n, e_X10_reach_147, e_X10_reach_150, e_X10_reach_150n, e_X10_reach_152, e_X10_reach_154, e_X10_reach_157, e_X10_reach_158, e_X10_reach_158n, e_X10_reach_159, e_X10_reach_162, e_X10_reach_162n, e_X10_reach_164, e_X10_reach_167, e_X10_reach_170, e_X10_reach_170n, e_X10_reach_171, e_X10_reach_174, e_X10_reach_177, e_X10_reach_178, e_X10_reach_179, e_X10_reach_182, e_X10_reach_183, e_X10_reach_184, e_X10_reach_185, e_X10_reach_186, e_X10_reach_186n, e_X10_reach_187, e_X10_reach_190, e_X10_reach_193, e_X10_reach_194, e_X10_reach_195, e_X10_reach_198, e_X10_reach_200, e_X10_reach_201, e_X10_reach_202, e_X10_reach_203, e_X10_reach_206, e_X10_reach_208, e_X10_reach_210, e_X10_reach_212, e_X10_reach_213, e_X10_reach_216, e_X10_reach_218, e_X10_reach_220, e_X10_reach_222, e_X10_reach_224, e_X10_reach_224n, e_X10_reach_226, e_X10_reach_229, e_X10_reach_232, e_X10_reach_232n, e_X10_reach_233, e_X10_reach_236, e_X10_reach_239, e_X10_reach_242, e_X10_reach_245, e_X10_reach_245n, e_X10_reach_247, e_X10_reach_250, e_X10_reach_252, e_X10_reach_255, e_X10_reach_255n, e_X10_reach_256, e_X10_reach_259, e_X10_reach_259n, e_X10_reach_261, e_X10_reach_264, e_X10_reach_267, e_X10_reach_270, e_X10_reach_272, mNl_i, mNl_r, mNl_n, mNl_l, mNl_0, mRV_s, mRV_n, tl_s, tl_n, cs_0, cs_i, cs_r, cs_n, cs_l, Nat.reduceAdd, Nat.reduceLeDiff, true_and, and_true, eq_self_iff_true, if_true, if_false, Nat.lt_irrefl, s_lit, s_eq, s_le, s_lt, nI_add, pk_mul, s_in, s_cl, bI_n, bI_zn, not_true, not_false_eq_true, true_implies, false_implies, Nat.reduceEqDiff, Nat.reduceMul, Classical.not_not, imp_self, implies_true, tt_z, tg_2, rf_2_0, rf_2_1, rf_2_2, rf_2_3, rf_2_4, rf_2_5, rf_2_6, rf_2_7, rf_2_8, rf_2_9, t1, r0, r2, tL, tC, w3, kc, i3_lt, show (to < fr + (k : Int)) = True from eq_true (by omega)]
      refine h _ _ bt b g hb (fun u j g1 g2 g3 g4 g5 => ?_) (fun u j hu => hL u j hu) (rP6_congr (fun off j hq => ?_) (fun _ _ => rfl) g6)
      · rw [mr_n (by omega), mUI_no (by omega), hF u j g1 g2 g3 g4 g5]
      · have := pAll_lt hq
        unfold blk cBk
        by_cases e1 : off = 5 ∧ j < 6
        · rw [if_pos e1, e1.1, mr_y e1.2, mUI_no (by omega)]
        · rw [if_neg e1, mr_n (by omega)]
          by_cases e2 : off = 9 ∧ j = 4
          · rw [if_pos e2, mUI_yes (by omega)]
          · rw [if_neg e2, mUI_no (by omega)]
  | succ d ih =>
    intro k I1 L1 bt b a12 a13 hk hF hL hb h
    rw [e_X10_reach_114]
    have kc := fun (Q : mQo) (I : Nat → Nat → Int32) (L : Nat → Nat → Int64) => k_copyRow (Q := Q) (t := tt n) (I := I) (L := L) (x := 327) (z := a + 5) (n := 6) tg_327 ln_327 s7 s8 (by omega) (by omega) (by decide)
    have kd := fun (Q : mQo) (I : Nat → Nat → Int32) (L : Nat → Nat → Int64) => k_copyRow (Q := Q) (t := tt n) (I := I) (L := L) (x := a + 5) (z := 328) (n := 6) s7 s8 tg_328 ln_328 (by omega) (by omega) (by decide)
    simp (disch := omega) only [e_X10_reach_0, e_X10_reach_0n, e_X10_reach_1, e_X10_reach_2, e_X10_reach_5, e_X10_reach_5n, e_X10_reach_7, e_X10_reach_7n, e_X10_reach_9, e_X10_reach_9n, e_X10_reach_12, e_X10_reach_12n, e_X10_reach_14, e_X10_reach_17, e_X10_reach_18, e_X10_reach_21, e_X10_reach_24, e_X10_reach_25, e_X10_reach_27, e_X10_reach_30, e_X10_reach_33, e_X10_reach_36, e_X10_reach_37, e_X10_reach_37n, e_X10_reach_38, e_X10_reach_41, e_X10_reach_41n, e_X10_reach_42, e_X10_reach_45, e_X10_reach_45n, e_X10_reach_46, e_X10_reach_49, e_X10_reach_52, e_X10_reach_52n, e_X10_reach_54, e_X10_reach_57, e_X10_reach_60, e_X10_reach_60n, e_X10_reach_61, e_X10_reach_64, e_X10_reach_67, e_X10_reach_69, e_X10_reach_69n, e_X10_reach_71, e_X10_reach_74, e_X10_reach_77, e_X10_reach_78, e_X10_reach_79, e_X10_reach_82, e_X10_reach_84, e_X10_reach_86, e_X10_reach_86n, e_X10_reach_88, e_X10_reach_91, e_X10_reach_94, e_X10_reach_95, e_X10_reach_96, e_X10_reach_99, e_X10_reach_101, e_X10_reach_103, e_X10_reach_105, e_X10_reach_108, e_X10_reach_110, e_X10_reach_112, e_X10_reach_116, e_X10_reach_118, e_X10_reach_121, e_X10_reach_121n, e_X10_reach_122, e_X10_reach_125, e_X10_reach_125n, e_X10_reach_127, e_X10_reach_130, e_X10_reach_133, e_X10_reach_136, e_X10_reach_136n, e_X10_reach_138, e_X10_reach_141, e_X10_reach_143, e_X10_reach_146, e_X10_reach_146n, e_X10_reach_147, e_X10_reach_150, e_X10_reach_150n, e_X10_reach_152, e_X10_reach_154, e_X10_reach_157, e_X10_reach_158, e_X10_reach_158n, e_X10_reach_159, e_X10_reach_162, e_X10_reach_162n, e_X10_reach_164, e_X10_reach_167, e_X10_reach_170, e_X10_reach_170n, e_X10_reach_171, e_X10_reach_174, e_X10_reach_177, e_X10_reach_178, e_X10_reach_179, e_X10_reach_182, e_X10_reach_183, e_X10_reach_184, e_X10_reach_185, e_X10_reach_186, e_X10_reach_186n, e_X10_reach_187, e_X10_reach_190, e_X10_reach_193, e_X10_reach_194, e_X10_reach_195, e_X10_reach_198, e_X10_reach_200, e_X10_reach_201, e_X10_reach_202, e_X10_reach_203, e_X10_reach_206, e_X10_reach_208, e_X10_reach_210, e_X10_reach_212, e_X10_reach_213, e_X10_reach_216, e_X10_reach_218, e_X10_reach_220, e_X10_reach_222, e_X10_reach_224, e_X10_reach_224n, e_X10_reach_226, e_X10_reach_229, e_X10_reach_232, e_X10_reach_232n, e_X10_reach_233, e_X10_reach_236, e_X10_reach_239, e_X10_reach_242, e_X10_reach_247, e_X10_reach_250, e_X10_reach_252, e_X10_reach_255, e_X10_reach_255n, e_X10_reach_256, e_X10_reach_259, e_X10_reach_259n, e_X10_reach_261, e_X10_reach_264, e_X10_reach_267, e_X10_reach_270, e_X10_reach_272, mNl_i, mNl_r, mNl_n, mNl_l, mNl_0, mRV_s, mRV_n, tl_s, tl_n, cs_0, cs_i, cs_r, cs_n, cs_l, Nat.reduceAdd, Nat.reduceLeDiff, true_and, and_true, eq_self_iff_true, if_true, if_false, Nat.lt_irrefl, s_lit, s_eq, s_le, s_lt, nI_add, pk_mul, s_in, s_cl, bI_n, bI_zn, not_true, not_false_eq_true, true_implies, false_implies, Nat.reduceEqDiff, Nat.reduceMul, Classical.not_not, imp_self, implies_true, tt_z, tg_2, rf_2_0, rf_2_1, rf_2_2, rf_2_3, rf_2_4, rf_2_5, rf_2_6, rf_2_7, rf_2_8, rf_2_9, tg_314, t1, r0, r2, tL, tC, w3, kc, i3_lt, show (to < fr + (k : Int)) = False from eq_false (by omega)]
    generalize hI2 : mUI (mRow I1 327 (a + 5) 6) (a + 9) 4 (i3 (fr + (k : Int))) = I2
    have i2 : ∀ u j, ¬ (u = a + 5 ∧ j < 6) → ¬ (u = a + 9 ∧ j = 4) → I2 u j = I1 u j := fun u j g1 g2 => by rw [← hI2, mUI_no g2, mr_n g1]
    have i5 : ∀ j, j < 6 → I2 (a + 5) j = I0 (a + 5) j := fun j hj => by rw [← hI2, mUI_no (by omega), mr_y hj, hF _ _ (by omega) (by omega) (by omega) (by omega) (by omega), h327 j hj]
    have hs2 : rSin I2 := fun j hj => by rw [i2 _ _ (by omega) (by omega), i2 _ _ (by omega) (by omega), hF _ _ (by omega) (by omega) (by omega) (by omega) (by omega), hF _ _ (by omega) (by omega) (by omega) (by omega) (by omega)]; exact hs j hj
    have it : (i3 (fr + (k : Int))).toInt = fr + k := i3_toInt (by omega) (by omega)
    have h62 : rP6 (blk I2 a) (tU f (i3 (fr + (k : Int)))) n1 q m tk ps := by
      refine rP6_tU h6 ⟨by rw [it]; omega, by rw [it]; omega⟩ (fun off j hq hne => ?_) ?_
      · have := pAll_lt hq
        show I2 (a + off) j = I0 (a + off) j
        by_cases e1 : off = 5 ∧ j < 6
        · rw [e1.1, i5 j e1.2]
        · rw [i2 _ _ (by omega) (by omega), hF _ _ (by omega) (by omega) (by omega) (by omega) (by omega)]
      · show I2 (a + 9) 4 = _
        rw [← hI2, mUI_yes ⟨rfl, rfl⟩]
    refine s_settle ha (by omega) (by omega) hs2 h62 (fun I3 L3 hF3 hs3 h63 => ?_)
    have eg : (rsS n1 q m 60 (tU f (i3 (fr + (k : Int))))).2 = gT f n1 q m (fr + k) := rfl
    rw [eg] at h63
    have hA3 := fAll_of h63
    obtain ⟨⟨d1, d2⟩, ⟨d3, d4⟩, d5, d6⟩ := dT_b (t := fr + k) hl hx1 hx2 hy1 hy2 hA3
    have c5 : lyC I3 294 (gT f n1 q m (fr + k)) n1 300 l = i3 (G (gT f n1 q m (fr + k)) 5 l) := ly_6 (F := 294) hl
    have c6 : lyC I3 294 (gT f n1 q m (fr + k)) n1 301 l = i3 (G (gT f n1 q m (fr + k)) 6 l) := ly_7 (F := 294) hl
    have hF4 : FR a I0 (lyC I3 294 (gT f n1 q m (fr + k)) n1) := fun u j g1 g2 g3 g4 g5 => by rw [ly_ne (by omega), hF3.1 _ _ g1 g4, i2 _ _ g1 g2, hF _ _ g1 g2 g3 g4 g5]
    have hL3 : ∀ u j, u ≠ 315 → L3 u j = L0 u j := fun u j hu => by rw [hF3.2 _ _ (by omega), hL u j hu]
    have ed : (G (gT f n1 q m (fr + k)) 5 l - 1024 * x) * (G (gT f n1 q m (fr + k)) 5 l - 1024 * x) + (G (gT f n1 q m (fr + k)) 6 l - 1024 * y) * (G (gT f n1 q m (fr + k)) 6 l - 1024 * y) = dT f n1 q m l x y (fr + k) := rfl
    have hbB : 0 ≤ b ∧ b ≤ 1000000000000000000 := by rcases hb with ⟨-, hb⟩ | ⟨g, -, -, b1, b2⟩ <;> omega
    have ek : fr + (k : Int) + 1 = fr + ((k + 1 : Nat) : Int) := by omega
    by_cases hlt : dT f n1 q m l x y (fr + k) < b
    · have hA1 : rcA f n1 q m l x y fr (k + 1) = some (fr + k, dT f n1 q m l x y (fr + k), gT f n1 q m (fr + k)) := by
        unfold rcA
        rcases hb with ⟨hb, -⟩ | ⟨g, hb, -⟩
        · rw [hb]
        · rw [hb]; exact ifP_t hlt
      simp (disch := omega) only [e_X10_reach_0, e_X10_reach_0n, e_X10_reach_1, e_X10_reach_2, e_X10_reach_5, e_X10_reach_5n, e_X10_reach_7, e_X10_reach_7n, e_X10_reach_9, e_X10_reach_9n, e_X10_reach_12, e_X10_reach_12n, e_X10_reach_14, e_X10_reach_17, e_X10_reach_18, e_X10_reach_21, e_X10_reach_24, e_X10_reach_25, e_X10_reach_27, e_X10_reach_30, e_X10_reach_33, e_X10_reach_36, e_X10_reach_37, e_X10_reach_37n, e_X10_reach_38, e_X10_reach_41, e_X10_reach_41n, e_X10_reach_42, e_X10_reach_45, e_X10_reach_45n, e_X10_reach_46, e_X10_reach_49, e_X10_reach_52, e_X10_reach_52n, e_X10_reach_54, e_X10_reach_57, e_X10_reach_60, e_X10_reach_60n, e_X10_reach_61, e_X10_reach_64, e_X10_reach_67, e_X10_reach_69, e_X10_reach_69n, e_X10_reach_71, e_X10_reach_74, e_X10_reach_77, e_X10_reach_78, e_X10_reach_79, e_X10_reach_82, e_X10_reach_84, e_X10_reach_86, e_X10_reach_86n, e_X10_reach_88, e_X10_reach_91, e_X10_reach_94, e_X10_reach_95, e_X10_reach_96, e_X10_reach_99, e_X10_reach_101, e_X10_reach_103, e_X10_reach_105, e_X10_reach_108, e_X10_reach_110, e_X10_reach_112, e_X10_reach_116, e_X10_reach_118, e_X10_reach_121, e_X10_reach_121n, e_X10_reach_122, e_X10_reach_125, e_X10_reach_125n, e_X10_reach_127, e_X10_reach_130, e_X10_reach_133, e_X10_reach_136, e_X10_reach_136n, e_X10_reach_138, e_X10_reach_141, e_X10_reach_143, e_X10_reach_146, e_X10_reach_146n, e_X10_reach_147, e_X10_reach_150, e_X10_reach_150n, e_X10_reach_152, e_X10_reach_154, e_X10_reach_157, e_X10_reach_158, e_X10_reach_158n, e_X10_reach_159, e_X10_reach_162, e_X10_reach_162n, e_X10_reach_164, e_X10_reach_167, e_X10_reach_170, e_X10_reach_170n, e_X10_reach_171, e_X10_reach_174, e_X10_reach_177, e_X10_reach_178, e_X10_reach_179, e_X10_reach_182, e_X10_reach_183, e_X10_reach_184, e_X10_reach_185, e_X10_reach_186, e_X10_reach_186n, e_X10_reach_187, e_X10_reach_190, e_X10_reach_193, e_X10_reach_194, e_X10_reach_195, e_X10_reach_198, e_X10_reach_200, e_X10_reach_201, e_X10_reach_202, e_X10_reach_203, e_X10_reach_206, e_X10_reach_208, e_X10_reach_210, e_X10_reach_212, e_X10_reach_213, e_X10_reach_216, e_X10_reach_218, e_X10_reach_220, e_X10_reach_222, e_X10_reach_224, e_X10_reach_224n, e_X10_reach_226, e_X10_reach_229, e_X10_reach_232, e_X10_reach_232n, e_X10_reach_233, e_X10_reach_236, e_X10_reach_239, e_X10_reach_242, e_X10_reach_247, e_X10_reach_250, e_X10_reach_252, e_X10_reach_255, e_X10_reach_255n, e_X10_reach_256, e_X10_reach_259, e_X10_reach_259n, e_X10_reach_261, e_X10_reach_264, e_X10_reach_267, e_X10_reach_270, e_X10_reach_272, mNl_i, mNl_r, mNl_n, mNl_l, mNl_0, mRV_s, mRV_n, tl_s, tl_n, cs_0, cs_i, cs_r, cs_n, cs_l, Nat.reduceAdd, Nat.reduceLeDiff, true_and, and_true, eq_self_iff_true, if_true, if_false, Nat.lt_irrefl, s_lit, s_eq, s_le, s_lt, nI_add, pk_mul, s_in, s_cl, bI_n, bI_zn, not_true, not_false_eq_true, true_implies, false_implies, Nat.reduceEqDiff, Nat.reduceMul, Classical.not_not, imp_self, implies_true, tt_z, tg_2, rf_2_0, rf_2_1, rf_2_2, rf_2_3, rf_2_4, rf_2_5, rf_2_6, rf_2_7, rf_2_8, rf_2_9, tg_294, rf_294_0, rf_294_1, rf_294_2, rf_294_3, rf_294_4, rf_294_5, rf_294_6, rf_294_7, rf_294_8, tg_300, ln_300, tg_301, ln_301, t1, r0, tL, w3, k_layC ha sf_294 (by omega) hs3 h63.1 h63.2.1, c5, c6, n3_mul, Int.cast_ofNat_Int, i3_sub, i3_l, k_square, ed, q_ge, i6_le, kd, i3n_add, ek, show l < 6 from by omega, show (b ≤ dT f n1 q m l x y (fr + k)) = False from eq_false (by omega)]
      refine ih (k + 1) _ _ (fr + k) (dT f n1 q m l x y (fr + k)) _ _ (by omega) (fun u j g1 g2 g3 g4 g5 => ?_) hL3 (Or.inr ⟨_, hA1, rP6_congr (fun off j hq => ?_) (fun _ _ => rfl) h63, d1, by omega⟩) h
      · rw [mr_n g5]; exact hF4 u j g1 g2 g3 g4 g5
      · have := pAll_lt hq
        unfold blk cBk
        by_cases e1 : off = 5 ∧ j < 6
        · rw [if_pos e1, e1.1, mr_y e1.2, ly_ne (by omega)]
        · rw [if_neg e1]
          by_cases e2 : off = 9 ∧ j = 4
          · rw [if_pos e2, e2.1, e2.2, hF3.1 _ _ (by omega) (by omega), ← hI2, mUI_yes ⟨rfl, rfl⟩]
          · rw [if_neg e2, mr_n (by omega), ly_ne (by omega)]
    · have hA1 : ∃ g, rcA f n1 q m l x y fr (k + 1) = some (bt, b, g) ∧ rP6 (cBk I1 a bt) g n1 q m tk ps ∧ 0 ≤ b ∧ b < 1000000000000000000 := by
        rcases hb with ⟨-, hb⟩ | ⟨g, hb, g6, b1, b2⟩
        · exfalso; omega
        · refine ⟨g, ?_, g6, b1, b2⟩
          unfold rcA
          rw [hb]; exact ifP_f hlt
      obtain ⟨g, hg, g6, b1, b2⟩ := hA1
      simp (disch := omega) only [e_X10_reach_0, e_X10_reach_0n, e_X10_reach_1, e_X10_reach_2, e_X10_reach_5, e_X10_reach_5n, e_X10_reach_7, e_X10_reach_7n, e_X10_reach_9, e_X10_reach_9n, e_X10_reach_12, e_X10_reach_12n, e_X10_reach_14, e_X10_reach_17, e_X10_reach_18, e_X10_reach_21, e_X10_reach_24, e_X10_reach_25, e_X10_reach_27, e_X10_reach_30, e_X10_reach_33, e_X10_reach_36, e_X10_reach_37, e_X10_reach_37n, e_X10_reach_38, e_X10_reach_41, e_X10_reach_41n, e_X10_reach_42, e_X10_reach_45, e_X10_reach_45n, e_X10_reach_46, e_X10_reach_49, e_X10_reach_52, e_X10_reach_52n, e_X10_reach_54, e_X10_reach_57, e_X10_reach_60, e_X10_reach_60n, e_X10_reach_61, e_X10_reach_64, e_X10_reach_67, e_X10_reach_69, e_X10_reach_69n, e_X10_reach_71, e_X10_reach_74, e_X10_reach_77, e_X10_reach_78, e_X10_reach_79, e_X10_reach_82, e_X10_reach_84, e_X10_reach_86, e_X10_reach_86n, e_X10_reach_88, e_X10_reach_91, e_X10_reach_94, e_X10_reach_95, e_X10_reach_96, e_X10_reach_99, e_X10_reach_101, e_X10_reach_103, e_X10_reach_105, e_X10_reach_108, e_X10_reach_110, e_X10_reach_112, e_X10_reach_116, e_X10_reach_118, e_X10_reach_121, e_X10_reach_121n, e_X10_reach_122, e_X10_reach_125, e_X10_reach_125n, e_X10_reach_127, e_X10_reach_130, e_X10_reach_133, e_X10_reach_136, e_X10_reach_136n, e_X10_reach_138, e_X10_reach_141, e_X10_reach_143, e_X10_reach_146, e_X10_reach_146n, e_X10_reach_147, e_X10_reach_150, e_X10_reach_150n, e_X10_reach_152, e_X10_reach_154, e_X10_reach_157, e_X10_reach_158, e_X10_reach_158n, e_X10_reach_159, e_X10_reach_162, e_X10_reach_162n, e_X10_reach_164, e_X10_reach_167, e_X10_reach_170, e_X10_reach_170n, e_X10_reach_171, e_X10_reach_174, e_X10_reach_177, e_X10_reach_178, e_X10_reach_179, e_X10_reach_182, e_X10_reach_183, e_X10_reach_184, e_X10_reach_185, e_X10_reach_186, e_X10_reach_186n, e_X10_reach_187, e_X10_reach_190, e_X10_reach_193, e_X10_reach_194, e_X10_reach_195, e_X10_reach_198, e_X10_reach_200, e_X10_reach_201, e_X10_reach_202, e_X10_reach_203, e_X10_reach_206, e_X10_reach_208, e_X10_reach_210, e_X10_reach_212, e_X10_reach_213, e_X10_reach_216, e_X10_reach_218, e_X10_reach_220, e_X10_reach_222, e_X10_reach_224, e_X10_reach_224n, e_X10_reach_226, e_X10_reach_229, e_X10_reach_232, e_X10_reach_232n, e_X10_reach_233, e_X10_reach_236, e_X10_reach_239, e_X10_reach_242, e_X10_reach_247, e_X10_reach_250, e_X10_reach_252, e_X10_reach_255, e_X10_reach_255n, e_X10_reach_256, e_X10_reach_259, e_X10_reach_259n, e_X10_reach_261, e_X10_reach_264, e_X10_reach_267, e_X10_reach_270, e_X10_reach_272, mNl_i, mNl_r, mNl_n, mNl_l, mNl_0, mRV_s, mRV_n, tl_s, tl_n, cs_0, cs_i, cs_r, cs_n, cs_l, Nat.reduceAdd, Nat.reduceLeDiff, true_and, and_true, eq_self_iff_true, if_true, if_false, Nat.lt_irrefl, s_lit, s_eq, s_le, s_lt, nI_add, pk_mul, s_in, s_cl, bI_n, bI_zn, not_true, not_false_eq_true, true_implies, false_implies, Nat.reduceEqDiff, Nat.reduceMul, Classical.not_not, imp_self, implies_true, tt_z, tg_2, rf_2_0, rf_2_1, rf_2_2, rf_2_3, rf_2_4, rf_2_5, rf_2_6, rf_2_7, rf_2_8, rf_2_9, tg_294, rf_294_0, rf_294_1, rf_294_2, rf_294_3, rf_294_4, rf_294_5, rf_294_6, rf_294_7, rf_294_8, tg_300, ln_300, tg_301, ln_301, t1, r0, tL, w3, k_layC ha sf_294 (by omega) hs3 h63.1 h63.2.1, c5, c6, n3_mul, Int.cast_ofNat_Int, i3_sub, i3_l, k_square, ed, q_ge, i6_le, kd, i3n_add, ek, show l < 6 from by omega, show (b ≤ dT f n1 q m l x y (fr + k)) = True from eq_true (by omega)]
      refine ih (k + 1) _ _ bt b _ _ (by omega) hF4 hL3 (Or.inr ⟨g, hg, rP6_congr (fun off j hq => ?_) (fun _ _ => rfl) g6, b1, b2⟩) h
      have := pAll_lt hq
      unfold cBk
      by_cases e1 : off = 5 ∧ j < 6
      · rw [if_pos e1, if_pos e1, ly_ne (by omega), hF3.1 _ _ (by omega) (by omega), i2 _ _ (by omega) (by omega)]
      · rw [if_neg e1, if_neg e1]
        by_cases e2 : off = 9 ∧ j = 4
        · rw [if_pos e2, if_pos e2]
        · rw [if_neg e2, if_neg e2, ly_ne (by omega), hF3.1 _ _ (by omega) (by omega), i2 _ _ (by omega) (by omega)]
end
