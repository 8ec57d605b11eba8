/-! ===== lowest: promise 24 ===== -/
def lU (f : Nat → Int32) (b c : Int32) : Nat → Int32 := fun i => if i = 19 then b else if i = 20 then c else f i
theorem lU_19 {f : Nat → Int32} {b c : Int32} : lU f b c 19 = b := rfl
theorem lU_20 {f : Nat → Int32} {b c : Int32} : lU f b c 20 = c := rfl
theorem lU_n {f : Nat → Int32} {b c : Int32} {i : Nat} (h : ¬ (i = 19 ∨ i = 20)) : lU f b c i = f i := by unfold lU; rw [if_neg (by omega), if_neg (by omega)]
theorem lU_self {f : Nat → Int32} : lU f (f 19) (f 20) = f := by
  funext i
  unfold lU
  by_cases h : i = 19
  · rw [if_pos h, h]
  · rw [if_neg h]
    by_cases g : i = 20
    · rw [if_pos g, g]
    · rw [if_neg g]
noncomputable def lwS (f : Nat → Int32) (n m : Nat) (acc : Option (Int32 × Int32)) (b c : Int32) : Option (Int32 × Int32) := match acc with
  | none => some (b, c)
  | some z => ifP (btF (lU f b c) (lU f z.1 z.2) n m) (some (b, c)) (some z)
noncomputable def lwJ (f : Nat → Int32) (n m : Nat) (b : Int32) (lo : Int) (acc : Option (Int32 × Int32)) : Nat → Option (Int32 × Int32)
  | 0 => acc
  | j + 1 => lwS f n m (lwJ f n m b lo acc j) b (i3 (lo + j))
noncomputable def lwI (f : Nat → Int32) (n m : Nat) (lo0 lo1 : Int) (c1 : Nat) : Nat → Option (Int32 × Int32)
  | 0 => none
  | i + 1 => lwJ f n m (i3 (lo0 + i)) lo1 (lwI f n m lo0 lo1 c1 i) c1
theorem rP6_lU {c c' : Nat → Nat → Int32} {f : Nat → Int32} {b e : Int32} {n q m tk ps : Nat} (h : rP6 c f n q m tk ps) (hn2 : n ≤ 2) (hb : inR b (-32) 31) (he : n = 2 ∧ inR e (-32) 31 ∨ n = 1 ∧ e = f 20) (hc : ∀ off j, pAll off j = true → ¬ (off = 5) → c' off j = c off j) (c0 : c' 5 0 = b) (c1 : n = 2 → c' 5 1 = e) : rP6 c' (lU f b e) n q m tk ps := by
  obtain ⟨hLim, hPin, hSpa, hCro, hBar, hHol, hHan, hGes, hPos⟩ := h
  have hf : ∀ i, i < 239 → ¬ (i = 19 ∨ i = 20) → lU f b e i = f i := fun i _ h => lU_n h
  refine ⟨⟨hLim.1, by rw [hc 1 4 (by decide) (by omega)]; exact hLim.2.1, by rw [hf _ (by omega) (by omega)]; exact hLim.2.2.1, fun k hk => ?_⟩, rPin_up (hc 1 5 (by decide) (by omega)) (hc 1 6 (by decide) (by omega)) (hf 25 (by omega) (by omega)) (hf 26 (by omega) (by omega)) (fun k hk => ?_) hPin, rSpa_congr (hc 6 2 (by decide) (by omega)) (fun k hk => ⟨hc 7 k (pA_6 k hk).2.2.2.2.1 (by omega), hc 8 k (pA_6 k hk).2.2.2.2.2.1 (by omega)⟩) (fun i hi hi2 => hf i (by omega) (by omega)) hSpa, rCro_congr (hc 9 2 (by decide) (by omega)) (hc 9 3 (by decide) (by omega)) (hc 9 4 (by decide) (by omega)) (fun i hi hi2 => hf i (by omega) (by omega)) hCro, rBar_congr (fun k hk => ⟨hc 10 k (pA_6 k hk).2.2.2.2.2.2.1 (by omega), hc 11 k (pA_6 k hk).2.2.2.2.2.2.2 (by omega)⟩) (fun i hi hi2 => hf i (by omega) (by omega)) hBar, rHol_congr (hc 12 6 (by decide) (by omega)) (fun k hk => ⟨hc 13 k (pA_12 k hk).1 (by omega), hc 14 k (pA_12 k hk).2.1 (by omega), hc 15 k (pA_12 k hk).2.2.1 (by omega), hc 16 k (pA_12 k hk).2.2.2.1 (by omega), hc 17 k (pA_12 k hk).2.2.2.2.1 (by omega), hc 18 k (pA_12 k hk).2.2.2.2.2.1 (by omega)⟩) (fun i hi hi2 => hf i (by omega) (by omega)) hHol, rHan_congr (hc 0 5 (by decide) (by omega)) (hf 128 (by omega) (by omega)) hHan, rGes_congr (hc 19 4 (by decide) (by omega)) (fun k hk => ⟨hc 20 k (pA_12 k hk).2.2.2.2.2.2.1 (by omega), hc 21 k (pA_12 k hk).2.2.2.2.2.2.2.1 (by omega), hc 22 k (pA_12 k hk).2.2.2.2.2.2.2.2 (by omega)⟩) (fun i hi hi2 => hf i (by omega) (by omega)) hGes, rPos_congr (hc 19 5 (by decide) (by omega)) (fun k hk => hc 23 k (pA_72 k hk) (by omega)) (fun i hi hi2 => hf i (by omega) (by omega)) hPos⟩
  · obtain ⟨l1, l2, l3, l4, l5, l6, l7, l8⟩ := hLim.2.2.2 k hk
    rw [hc 2 k (pA_6 k (by omega)).1 (by omega), hc 3 k (pA_6 k (by omega)).2.1 (by omega), hc 4 k (pA_6 k (by omega)).2.2.1 (by omega), hf (1 + k) (by omega) (by omega), hf (7 + k) (by omega) (by omega), hf (13 + k) (by omega) (by omega)]
    rcases (show k = 0 ∨ k = 1 by omega) with rfl | rfl
    · refine ⟨l1, l2, l3, ?_, l5, l6, l7, hb⟩
      rw [c0]; rfl
    · refine ⟨l1, l2, l3, ?_, l5, l6, l7, ?_⟩
      · rw [c1 (by omega)]; rfl
      · rcases he with he | he
        · exact he.2
        · omega
  · by_cases e0 : k = 0
    · subst e0; exact Or.inr hb
    · by_cases e1 : k = 1
      · subst e1
        rcases he with he | he
        · exact Or.inr he.2
        · exact Or.inl he.2
      · exact Or.inl (lU_n (by omega))
/-- what is known of the candidates -/
def cdt (f : Nat → Int32) (n1 : Nat) (b c : Int32) : Prop := inR b (-32) 31 ∧ (n1 = 2 ∧ inR c (-32) 31 ∨ n1 = 1 ∧ c = f 20)
theorem fInv_lU {f : Nat → Int32} {n q m : Nat} {b c : Int32} (h : fInv f n q m) (hn2 : n ≤ 2) (hd : cdt f n b c) : fInv (lU f b c) n q m := by
  obtain ⟨⟨h1, h2, h3, h4⟩, h5, h6, h7, h8⟩ := h
  have hm := h4.1
  refine ⟨⟨⟨h1.1, fun k hk => ?_⟩, ?_, ?_, ⟨hm, fun k hk => ?_⟩⟩, ?_, ?_, ?_, ?_⟩
  · rw [lU_n (by omega), lU_n (by omega), lU_n (by omega)]
    obtain ⟨z1, z2, z3, z4⟩ := h1.2 k hk
    refine ⟨z1, z2, z3, ?_⟩
    rcases (show k = 0 ∨ k = 1 by omega) with rfl | rfl
    · exact hd.1
    · rcases hd.2 with z | z
      · exact z.2
      · omega
  · unfold fPin; rw [lU_n (by omega), lU_n (by omega)]; exact h2
  · unfold fCro
    rw [lU_n (by omega), lU_n (by omega), lU_n (by omega)]
    refine ⟨h3.1, h3.2.1, h3.2.2.1, fun k hk => ?_⟩
    rw [lU_n (by omega), lU_n (by omega)]
    exact h3.2.2.2 k hk
  · rw [lU_n (by omega), lU_n (by omega), lU_n (by omega), lU_n (by omega), lU_n (by omega), lU_n (by omega)]
    exact h4.2 k hk
  · have hq : q ≤ 6 := by rcases h5.1 with ⟨-, z⟩ | ⟨-, z⟩ <;> omega
    refine ⟨by rw [lU_n (by omega)]; exact h5.1, fun k hk => ?_⟩
    rw [lU_n (by omega), lU_n (by omega)]
    exact h5.2 k hk
  · rw [lU_n (by omega)]; exact h6
  · rw [lU_n (by omega)]; exact h7
  · rw [lU_n (by omega)]; exact h8
theorem bB_lU {f : Nat → Int32} {b c : Int32} {w j : Nat} : bB (lU f b c) w j = bB f w j := by
  unfold bB
  rw [lU_n (show ¬ (40 = 19 ∨ 40 = 20) by omega), lU_n (show ¬ (41 = 19 ∨ 41 = 20) by omega), lU_n (show ¬ (42 = 19 ∨ 42 = 20) by omega), lU_n (show ¬ (43 + 2 * j = 19 ∨ 43 + 2 * j = 20) by omega), lU_n (show ¬ (44 + 2 * j = 19 ∨ 44 + 2 * j = 20) by omega)]
theorem sp_lU {f : Nat → Int32} {b c : Int32} {q j : Nat} : spL (lU f b c) q j = spL f q j ∧ spG (lU f b c) q j = spG f q j := by
  unfold spL spG
  rw [lU_n (by omega), lU_n (by omega)]
  exact ⟨rfl, rfl⟩
def FL (a : Nat) (I I' : Nat → Nat → Int32) : Prop := ∀ x j, ¬ (x = a + 5 ∧ j < 2) → ¬ (315 < x ∧ x ≤ 324) → ¬ (x = 328 ∧ j < 6) → I' x j = I x j
/-- what stands behind acc -/
def KC (I : Nat → Nat → Int32) (L : Nat → Nat → Int64) (f : Nat → Int32) (n1 m : Nat) (acc : Option (Int32 × Int32)) : Prop := (acc = none ∧ L 315 9 = i6 1000000000000000000) ∨ ∃ z : Int32 × Int32, acc = some z ∧ cdt f n1 z.1 z.2 ∧ L 315 9 = i6 (aeI (lU f z.1 z.2) m) ∧ L 315 10 = i6 (dpI (lU f z.1 z.2) n1) ∧ I 328 0 = z.1 ∧ (n1 = 2 → I 328 1 = z.2)
section
variable {Q : mQo} {n : Nat} {f : Nat → Int32} {a p n1 q m tk ps : Nat}
theorem l_lwC {I0 : Nat → Nat → Int32} {L0 : Nat → Nat → Int64} {b : Int32} {lo lc hc : Int} {c1 : Nat} {acc0 : Option (Int32 × Int32)} {a4 : Option Value} (ha : sPup (tt n) a) (hd : a + 24 ≤ 51) (hn2 : n1 ≤ 2) (hn1 : 1 ≤ n1) (hs : rSin I0) (h6 : rP6 (blk I0 a) f n1 q m tk ps) (hb : inR b (-32) 31) (hl1 : -32 ≤ lc) (hl2 : hc ≤ 31) (hc1 : lc + c1 = hc + 1) (hlc : n1 = 2 → lc = lo) (h1c : n1 = 1 → c1 = 1 ∧ i3 lo = f 20) : ∀ (d j : Nat) (I1 : Nat → Nat → Int32) (L1 : Nat → Nat → Int64), j + d = c1 → FL a I0 I1 → (∀ x j, x ≠ 315 → L1 x j = L0 x j) → I1 (a + 5) 0 = b → bdC I1 315 f → KC I1 L1 f n1 m (lwJ f n1 m b lo acc0 j) → (∀ I2 L2, FL a I0 I2 → (∀ x j, x ≠ 315 → L2 x j = L0 x j) → bdC I2 315 f → KC I2 L2 f n1 m (lwJ f n1 m b lo acc0 c1) → mWP tb_X8_findLowest Q 146 [some (.ref 314), some (.ref a), some (.ref 328), some (.ref (a + 5)), a4, some (.int (i3 lc)), some (.int (i3 hc)), some (.int b), some (.int (i3 (hc + 1)))] [] (tt n, I2, L2)) → mWP tb_X8_findLowest Q 112 [some (.ref 314), some (.ref a), some (.ref 328), some (.ref (a + 5)), a4, some (.int (i3 lc)), some (.int (i3 hc)), some (.int b), some (.int (i3 (lc + j)))] [] (tt n, I1, L1) := by
  have a0 := ha.1
  obtain ⟨s7, s8⟩ : sArr (tt n) (a + 5) 6 := ha.2.2.2.2.2.2.2.2.2.2.1
  intro d
  induction d with
  | zero =>
    intro j I1 L1 hj hF hL h0 hD hK h
    have : j = c1 := by omega
    subst this
    rw [show lc + (j : Int) = hc + 1 by omega]
    simp (disch := omega) only [e_X8_findLowest_112, e_X8_findLowest_114, e_X8_findLowest_116, mNl_i, mNl_r, mNl_n, mNl_l, mNl_0, mRV_s, mRV_n, tl_s, tl_n, cs_0, cs_i, cs_r, cs_n, cs_l, Nat.reduceAdd, Nat.reduceLeDiff, true_and, and_true, eq_self_iff_true, if_true, if_false, Nat.lt_irrefl, s_lit, s_eq, s_le, s_lt, nI_add, pk_mul, s_in, s_cl, bI_n, bI_zn, not_true, not_false_eq_true, true_implies, false_implies, Nat.reduceEqDiff, Nat.reduceMul, Classical.not_not, imp_self, implies_true, i3_lt, show (hc < hc + 1) = True from eq_true (by omega)]
    exact h I1 L1 hF hL hD hK
  | succ d ih =>
    intro j I1 L1 hj hF hL h0 hD hK h
    have ev : lc + (j : Int) + 1 = lc + ((j + 1 : Nat) : Int) := by omega
    have hcd : cdt f n1 b (i3 (lo + (j : Int))) := by
      refine ⟨hb, ?_⟩
      rcases (show n1 = 2 ∨ n1 = 1 by omega) with e | e
      · have := hlc e
        exact Or.inl ⟨e, by rw [i3_toInt (by omega) (by omega)]; omega, by rw [i3_toInt (by omega) (by omega)]; omega⟩
      · obtain ⟨z1, z2⟩ := h1c e
        have : j = 0 := by omega
        subst this
        exact Or.inr ⟨e, by rw [show lo + ((0 : Nat) : Int) = lo by omega]; exact z2⟩
    generalize hI2 : mUI I1 (a + 5) 1 (i3 (lc + (j : Int))) = I2
    have i2 : ∀ x k, ¬ (x = a + 5 ∧ k = 1) → I2 x k = I1 x k := fun x k g => by rw [← hI2, mUI_no g]
    have h62 : rP6 (blk I2 a) (lU f b (i3 (lo + (j : Int)))) n1 q m tk ps := by
      refine rP6_lU h6 hn2 hb hcd.2 (fun off k hq hne => ?_) ?_ (fun e => ?_)
      · have := pAll_lt hq
        show I2 (a + off) k = I0 (a + off) k
        rw [i2 _ _ (by omega), hF _ _ (by omega) (by omega) (by omega)]
      · show I2 (a + 5) 0 = b
        rw [i2 _ _ (by omega), h0]
      · show I2 (a + 5) 1 = _
        rw [← hI2, mUI_yes ⟨rfl, rfl⟩, hlc e]
    have hs2 : rSin I2 := fun k hk => by rw [i2 _ _ (by omega), i2 _ _ (by omega), hF _ _ (by omega) (by omega) (by omega), hF _ _ (by omega) (by omega) (by omega)]; exact hs k hk
    have hD2 : bdC I2 315 (lU f b (i3 (lo + (j : Int)))) := fun k hk => by rw [bB_lU, bB_lU, i2 _ _ (by omega), i2 _ _ (by omega)]; exact hD k hk
    have hA2 := fAll_of h62
    have bE := ae_b hA2 m (Nat.le_refl m)
    have bD := dp_b hA2 n1 (Nat.le_refl n1)
    have hm := hA2.2.2.2.1
    have kc := fun (Q : mQo) (I : Nat → Nat → Int32) (L : Nat → Nat → Int64) => k_copyRow (Q := Q) (t := tt n) (I := I) (L := L) (x := a + 5) (z := 328) (n := 6) s7 s8 tg_328 ln_328 (by omega) (by omega) (by decide)
    have hle : (hc < lc + (j : Int)) = False := eq_false (by omega)
    have better : ∀ (E0 D0 : Int), L1 315 9 = i6 E0 → L1 315 10 = i6 D0 → 0 ≤ E0 → E0 ≤ 1000000000000000000 → -9223372036854775808 ≤ D0 → D0 < 9223372036854775808 → bet (aeI (lU f b (i3 (lo + (j : Int)))) m) (dpI (lU f b (i3 (lo + (j : Int)))) n1) E0 D0 → lwJ f n1 m b lo acc0 (j + 1) = some (b, i3 (lo + (j : Int))) → mWP tb_X8_findLowest Q 112 [some (.ref 314), some (.ref a), some (.ref 328), some (.ref (a + 5)), a4, some (.int (i3 lc)), some (.int (i3 hc)), some (.int b), some (.int (i3 (lc + (j : Int))))] [] (tt n, I1, L1) := by
      intro E0 D0 q1 q2 q3 q4 q5 q6 hbt hacc
      rw [e_X8_findLowest_112]
      simp (disch := omega) only [e_X8_findLowest_0, e_X8_findLowest_0n, e_X8_findLowest_1, e_X8_findLowest_4, e_X8_findLowest_7, e_X8_findLowest_7n, e_X8_findLowest_8, e_X8_findLowest_8n, e_X8_findLowest_9, e_X8_findLowest_9n, e_X8_findLowest_10, e_X8_findLowest_13, e_X8_findLowest_13n, e_X8_findLowest_14, e_X8_findLowest_17, e_X8_findLowest_17n, e_X8_findLowest_18, e_X8_findLowest_21, e_X8_findLowest_24, e_X8_findLowest_24n, e_X8_findLowest_25, e_X8_findLowest_28, e_X8_findLowest_31, e_X8_findLowest_32, e_X8_findLowest_35, e_X8_findLowest_36, e_X8_findLowest_39, e_X8_findLowest_40, e_X8_findLowest_42, e_X8_findLowest_44, e_X8_findLowest_47, e_X8_findLowest_47n, e_X8_findLowest_48, e_X8_findLowest_51, e_X8_findLowest_52, e_X8_findLowest_55, e_X8_findLowest_58, e_X8_findLowest_59, e_X8_findLowest_61, e_X8_findLowest_63, e_X8_findLowest_66, e_X8_findLowest_66n, e_X8_findLowest_67, e_X8_findLowest_70, e_X8_findLowest_71, e_X8_findLowest_74, e_X8_findLowest_77, e_X8_findLowest_78, e_X8_findLowest_80, e_X8_findLowest_80n, e_X8_findLowest_81, e_X8_findLowest_84, e_X8_findLowest_85, e_X8_findLowest_88, e_X8_findLowest_90, e_X8_findLowest_92, e_X8_findLowest_92n, e_X8_findLowest_93, e_X8_findLowest_96, e_X8_findLowest_97, e_X8_findLowest_100, e_X8_findLowest_103, e_X8_findLowest_103n, e_X8_findLowest_104, e_X8_findLowest_105, e_X8_findLowest_107, e_X8_findLowest_108, e_X8_findLowest_110, e_X8_findLowest_114, e_X8_findLowest_116, e_X8_findLowest_119, e_X8_findLowest_119n, e_X8_findLowest_120, e_X8_findLowest_121, e_X8_findLowest_123, e_X8_findLowest_124, e_X8_findLowest_124n, e_X8_findLowest_125, e_X8_findLowest_128, e_X8_findLowest_128n, e_X8_findLowest_129, e_X8_findLowest_132, e_X8_findLowest_135, e_X8_findLowest_135n, e_X8_findLowest_136, e_X8_findLowest_136n, e_X8_findLowest_137, e_X8_findLowest_140, e_X8_findLowest_143, e_X8_findLowest_149, e_X8_findLowest_152, mNl_i, mNl_r, mNl_n, mNl_l, mNl_0, mRV_s, mRV_n, tl_s, tl_n, cs_0, cs_i, cs_r, cs_n, cs_l, Nat.reduceAdd, Nat.reduceLeDiff, true_and, and_true, eq_self_iff_true, if_true, if_false, Nat.lt_irrefl, s_lit, s_eq, s_le, s_lt, nI_add, pk_mul, s_in, s_cl, bI_n, bI_zn, not_true, not_false_eq_true, true_implies, false_implies, Nat.reduceEqDiff, Nat.reduceMul, Classical.not_not, imp_self, implies_true, tt_z, s7, s8, tg_314, rf_314_0, tg_315, hI2, k_bet1 ha sf_315 (by omega) hs2 h62 hD2 q1 q2 q3 q4 q5 q6 hbt, kc, i3_lt, i3n_add, Int.cast_ofNat_Int, hle, ev, show 1 < 6 from by omega, show 2 ≤ a + 5 from by omega, show (1 = 0) = False from eq_false (by omega)]
      refine ih (j + 1) _ _ (by omega) (fun x k g1 g2 g3 => ?_) (fun x k hx => ?_) ?_ (fun k hk => ?_) (Or.inr ⟨_, hacc, hcd, ?_, ?_, ?_, fun e => ?_⟩) h
      · rw [mr_n g3, ly_ne (by omega), i2 _ _ (by omega), hF _ _ g1 g2 g3]
      · rw [mUL_no (by omega), mUL_no (by omega), hL _ _ hx]
      · rw [mr_n (by omega), ly_ne (by omega), i2 _ _ (by omega), h0]
      · rw [mr_n (by omega), mr_n (by omega), ly_ne (by omega), ly_ne (by omega), i2 _ _ (by omega), i2 _ _ (by omega)]; exact hD k hk
      · rw [mUL_no (by omega), mUL_yes (by omega)]
      · rw [mUL_yes (by omega)]
      · rw [mr_y (by omega), ly_ne (by omega), i2 _ _ (by omega), h0]
      · rw [mr_y (by omega), ly_ne (by omega), ← hI2, mUI_yes ⟨rfl, rfl⟩, hlc e]
    rcases hK with ⟨hK, k9⟩ | ⟨z, hK, hz, k9, k10, k0, k1⟩
    · refine better 1000000000000000000 (L1 315 10).toInt k9 (Int64.ofInt_toInt _).symm (by omega) (by omega) (Int64.le_toInt _) (Int64.toInt_lt _) (Or.inl (by omega)) ?_
      show lwS f n1 m (lwJ f n1 m b lo acc0 j) b (i3 (lo + (j : Int))) = _
      rw [hK]; rfl
    · have hV := fInv_of h6
      have bz := SM_b (fInv_lU hV hn2 hz)
      by_cases hbt : btF (lU f b (i3 (lo + (j : Int)))) (lU f z.1 z.2) n1 m
      · refine better _ _ k9 k10 (by omega) (by omega) (by omega) (by omega) hbt ?_
        show lwS f n1 m (lwJ f n1 m b lo acc0 j) b (i3 (lo + (j : Int))) = _
        rw [hK]; exact ifP_t hbt
      · have hacc : lwJ f n1 m b lo acc0 (j + 1) = some z := by
          show lwS f n1 m (lwJ f n1 m b lo acc0 j) b (i3 (lo + (j : Int))) = _
          rw [hK]; exact ifP_f hbt
        rw [e_X8_findLowest_112]
        simp (disch := omega) only [e_X8_findLowest_0, e_X8_findLowest_0n, e_X8_findLowest_1, e_X8_findLowest_4, e_X8_findLowest_7, e_X8_findLowest_7n, e_X8_findLowest_8, e_X8_findLowest_8n, e_X8_findLowest_9, e_X8_findLowest_9n, e_X8_findLowest_10, e_X8_findLowest_13, e_X8_findLowest_13n, e_X8_findLowest_14, e_X8_findLowest_17, e_X8_findLowest_17n, e_X8_findLowest_18, e_X8_findLowest_21, e_X8_findLowest_24, e_X8_findLowest_24n, e_X8_findLowest_25, e_X8_findLowest_28, e_X8_findLowest_31, e_X8_findLowest_32, e_X8_findLowest_35, e_X8_findLowest_36, e_X8_findLowest_39, e_X8_findLowest_40, e_X8_findLowest_42, e_X8_findLowest_44, e_X8_findLowest_47, e_X8_findLowest_47n, e_X8_findLowest_48, e_X8_findLowest_51, e_X8_findLowest_52, e_X8_findLowest_55, e_X8_findLowest_58, e_X8_findLowest_59, e_X8_findLowest_61, e_X8_findLowest_63, e_X8_findLowest_66, e_X8_findLowest_66n, e_X8_findLowest_67, e_X8_findLowest_70, e_X8_findLowest_71, e_X8_findLowest_74, e_X8_findLowest_77, e_X8_findLowest_78, e_X8_findLowest_80, e_X8_findLowest_80n, e_X8_findLowest_81, e_X8_findLowest_84, e_X8_findLowest_85, e_X8_findLowest_88, e_X8_findLowest_90, e_X8_findLowest_92, e_X8_findLowest_92n, e_X8_findLowest_93, e_X8_findLowest_96, e_X8_findLowest_97, e_X8_findLowest_100, e_X8_findLowest_103, e_X8_findLowest_103n, e_X8_findLowest_104, e_X8_findLowest_105, e_X8_findLowest_107, e_X8_findLowest_108, e_X8_findLowest_110, e_X8_findLowest_114, e_X8_findLowest_116, e_X8_findLowest_119, e_X8_findLowest_119n, e_X8_findLowest_120, e_X8_findLowest_121, e_X8_findLowest_123, e_X8_findLowest_124, e_X8_findLowest_124n, e_X8_findLowest_125, e_X8_findLowest_128, e_X8_findLowest_128n, e_X8_findLowest_129, e_X8_findLowest_132, e_X8_findLowest_135, e_X8_findLowest_135n, e_X8_findLowest_136, e_X8_findLowest_136n, e_X8_findLowest_137, e_X8_findLowest_140, e_X8_findLowest_143, e_X8_findLowest_149, e_X8_findLowest_152, mNl_i, mNl_r, mNl_n, mNl_l, mNl_0, mRV_s, mRV_n, tl_s, tl_n, cs_0, cs_i, cs_r, cs_n, cs_l, Nat.reduceAdd, Nat.reduceLeDiff, true_and, and_true, eq_self_iff_true, if_true, if_false, Nat.lt_irrefl, s_lit, s_eq, s_le, s_lt, nI_add, pk_mul, s_in, s_cl, bI_n, bI_zn, not_true, not_false_eq_true, true_implies, false_implies, Nat.reduceEqDiff, Nat.reduceMul, Classical.not_not, imp_self, implies_true, tt_z, s7, s8, tg_314, rf_314_0, tg_315, hI2, k_bet0 ha sf_315 (by omega) hs2 h62 hD2 k9 k10 (by omega) (by omega) (by omega) (by omega) hbt, i3_lt, i3n_add, Int.cast_ofNat_Int, hle, ev, show 1 < 6 from by omega, show 2 ≤ a + 5 from by omega]
        refine ih (j + 1) _ _ (by omega) (fun x k g1 g2 g3 => ?_) hL ?_ (fun k hk => ?_) (Or.inr ⟨z, hacc, hz, k9, k10, ?_, fun e => ?_⟩) h
        · rw [ly_ne (by omega), i2 _ _ (by omega), hF _ _ g1 g2 g3]
        · rw [ly_ne (by omega), i2 _ _ (by omega), h0]
        · rw [ly_ne (by omega), ly_ne (by omega), i2 _ _ (by omega), i2 _ _ (by omega)]; exact hD k hk
        · rw [ly_ne (by omega), i2 _ _ (by omega), k0]
        · rw [ly_ne (by omega), i2 _ _ (by omega), k1 e]
theorem l_lwO {I0 : Nat → Nat → Int32} {L0 : Nat → Nat → Int64} {lo0 hi0 lo lc hc : Int} {c0 c1 : Nat} {a4 : Option Value} (ha : sPup (tt n) a) (hd : a + 24 ≤ 51) (hn2 : n1 ≤ 2) (hn1 : 1 ≤ n1) (hs : rSin I0) (h6 : rP6 (blk I0 a) f n1 q m tk ps) (h01 : -32 ≤ lo0) (h02 : hi0 ≤ 31) (hc0 : lo0 + c0 = hi0 + 1) (hg0 : spG f q 0 = i3 hi0) (hl1 : -32 ≤ lc) (hl2 : hc ≤ 31) (hc1 : lc + c1 = hc + 1) (hlc : n1 = 2 → lc = lo) (h1c : n1 = 1 → c1 = 1 ∧ i3 lo = f 20) : ∀ (d i : Nat) (I1 : Nat → Nat → Int32) (L1 : Nat → Nat → Int64) (a8 : Option Value), i + d = c0 → FL a I0 I1 → (∀ x j, x ≠ 315 → L1 x j = L0 x j) → bdC I1 315 f → KC I1 L1 f n1 m (lwI f n1 m lo0 lo c1 i) → (∀ I2 L2, FL a I0 I2 → (∀ x j, x ≠ 315 → L2 x j = L0 x j) → KC I2 L2 f n1 m (lwI f n1 m lo0 lo c1 c0) → Q none (tt n, I2, L2)) → mWP tb_X8_findLowest Q 90 [some (.ref 314), some (.ref a), some (.ref 328), some (.ref (a + 5)), a4, some (.int (i3 lc)), some (.int (i3 hc)), some (.int (i3 (lo0 + i))), a8] [] (tt n, I1, L1) := by
  have a0 := ha.1
  obtain ⟨t1, r0, r1, r2, r3, r4⟩ := ha.2.1
  have tS := ha.2.2.2.1.1
  obtain ⟨s7, s8⟩ : sArr (tt n) (a + 5) 6 := ha.2.2.2.2.2.2.2.2.2.2.1
  intro d
  induction d with
  | zero =>
    intro i I1 L1 a8 hi hF hL hD hK h
    have : i = c0 := by omega
    subst this
    have hS1 : rSpa (blk I1 a) f q := rSpa_congr (c := blk I0 a) (hF (a + 6) 2 (by omega) (by omega) (by omega)) (fun k hk => ⟨hF (a + 7) k (by omega) (by omega) (by omega), hF (a + 8) k (by omega) (by omega) (by omega)⟩) (fun _ _ _ => rfl) h6.2.2.1
    simp (disch := omega) only [e_X8_findLowest_0, e_X8_findLowest_0n, e_X8_findLowest_1, e_X8_findLowest_4, e_X8_findLowest_7, e_X8_findLowest_7n, e_X8_findLowest_8, e_X8_findLowest_8n, e_X8_findLowest_9, e_X8_findLowest_9n, e_X8_findLowest_10, e_X8_findLowest_13, e_X8_findLowest_13n, e_X8_findLowest_14, e_X8_findLowest_17, e_X8_findLowest_17n, e_X8_findLowest_18, e_X8_findLowest_21, e_X8_findLowest_24, e_X8_findLowest_24n, e_X8_findLowest_25, e_X8_findLowest_28, e_X8_findLowest_31, e_X8_findLowest_32, e_X8_findLowest_35, e_X8_findLowest_36, e_X8_findLowest_39, e_X8_findLowest_40, e_X8_findLowest_42, e_X8_findLowest_44, e_X8_findLowest_47, e_X8_findLowest_47n, e_X8_findLowest_48, e_X8_findLowest_51, e_X8_findLowest_52, e_X8_findLowest_55, e_X8_findLowest_58, e_X8_findLowest_59, e_X8_findLowest_61, e_X8_findLowest_63, e_X8_findLowest_66, e_X8_findLowest_66n, e_X8_findLowest_67, e_X8_findLowest_70, e_X8_findLowest_71, e_X8_findLowest_74, e_X8_findLowest_77, e_X8_findLowest_78, e_X8_findLowest_80, e_X8_findLowest_80n, e_X8_findLowest_81, e_X8_findLowest_84, e_X8_findLowest_85, e_X8_findLowest_88, e_X8_findLowest_90, e_X8_findLowest_92, e_X8_findLowest_92n, e_X8_findLowest_93, e_X8_findLowest_96, e_X8_findLowest_97, e_X8_findLowest_100, e_X8_findLowest_104, e_X8_findLowest_105, e_X8_findLowest_107, e_X8_findLowest_108, e_X8_findLowest_110, e_X8_findLowest_112, e_X8_findLowest_114, e_X8_findLowest_116, e_X8_findLowest_119, e_X8_findLowest_119n, e_X8_findLowest_120, e_X8_findLowest_121, e_X8_findLowest_123, e_X8_findLowest_124, e_X8_findLowest_124n, e_X8_findLowest_125, e_X8_findLowest_128, e_X8_findLowest_128n, e_X8_findLowest_129, e_X8_findLowest_132, e_X8_findLowest_135, e_X8_findLowest_135n, e_X8_findLowest_136, e_X8_findLowest_136n, e_X8_findLowest_137, e_X8_findLowest_140, e_X8_findLowest_143, e_X8_findLowest_146, e_X8_findLowest_149, e_X8_findLowest_152, mNl_i, mNl_r, mNl_n, mNl_l, mNl_0, mRV_s, mRV_n, tl_s, tl_n, cs_0, cs_i, cs_r, cs_n, cs_l, Nat.reduceAdd, Nat.reduceLeDiff, true_and, and_true, eq_self_iff_true, if_true, if_false, Nat.lt_irrefl, s_lit, s_eq, s_le, s_lt, nI_add, pk_mul, s_in, s_cl, bI_n, bI_zn, not_true, not_false_eq_true, true_implies, false_implies, Nat.reduceEqDiff, Nat.reduceMul, Classical.not_not, imp_self, implies_true, tt_z, t1, r1, tS, k_greatestOf tt_z ha hS1 (show 0 < 6 by omega), hg0, i3_lt, show (hi0 < lo0 + (i : Int)) = True from eq_true (by omega)]
    exact h I1 L1 hF hL hK
  | succ d ih =>
    intro i I1 L1 a8 hi hF hL hD hK h
    have hS1 : rSpa (blk I1 a) f q := rSpa_congr (c := blk I0 a) (hF (a + 6) 2 (by omega) (by omega) (by omega)) (fun k hk => ⟨hF (a + 7) k (by omega) (by omega) (by omega), hF (a + 8) k (by omega) (by omega) (by omega)⟩) (fun _ _ _ => rfl) h6.2.2.1
    have ev : lo0 + (i : Int) + 1 = lo0 + ((i + 1 : Nat) : Int) := by omega
    rw [e_X8_findLowest_90]
    simp (disch := omega) only [e_X8_findLowest_0, e_X8_findLowest_0n, e_X8_findLowest_1, e_X8_findLowest_4, e_X8_findLowest_7, e_X8_findLowest_7n, e_X8_findLowest_8, e_X8_findLowest_8n, e_X8_findLowest_9, e_X8_findLowest_9n, e_X8_findLowest_10, e_X8_findLowest_13, e_X8_findLowest_13n, e_X8_findLowest_14, e_X8_findLowest_17, e_X8_findLowest_17n, e_X8_findLowest_18, e_X8_findLowest_21, e_X8_findLowest_24, e_X8_findLowest_24n, e_X8_findLowest_25, e_X8_findLowest_28, e_X8_findLowest_31, e_X8_findLowest_32, e_X8_findLowest_35, e_X8_findLowest_36, e_X8_findLowest_39, e_X8_findLowest_40, e_X8_findLowest_42, e_X8_findLowest_44, e_X8_findLowest_47, e_X8_findLowest_47n, e_X8_findLowest_48, e_X8_findLowest_51, e_X8_findLowest_52, e_X8_findLowest_55, e_X8_findLowest_58, e_X8_findLowest_59, e_X8_findLowest_61, e_X8_findLowest_63, e_X8_findLowest_66, e_X8_findLowest_66n, e_X8_findLowest_67, e_X8_findLowest_70, e_X8_findLowest_71, e_X8_findLowest_74, e_X8_findLowest_77, e_X8_findLowest_78, e_X8_findLowest_80, e_X8_findLowest_80n, e_X8_findLowest_81, e_X8_findLowest_84, e_X8_findLowest_85, e_X8_findLowest_88, e_X8_findLowest_92, e_X8_findLowest_92n, e_X8_findLowest_93, e_X8_findLowest_96, e_X8_findLowest_97, e_X8_findLowest_100, e_X8_findLowest_103, e_X8_findLowest_103n, e_X8_findLowest_104, e_X8_findLowest_105, e_X8_findLowest_107, e_X8_findLowest_108, e_X8_findLowest_110, e_X8_findLowest_114, e_X8_findLowest_116, e_X8_findLowest_119, e_X8_findLowest_119n, e_X8_findLowest_120, e_X8_findLowest_121, e_X8_findLowest_123, e_X8_findLowest_124, e_X8_findLowest_124n, e_X8_findLowest_125, e_X8_findLowest_128, e_X8_findLowest_128n, e_X8_findLowest_129, e_X8_findLowest_132, e_X8_findLowest_135, e_X8_findLowest_135n, e_X8_findLowest_136, e_X8_findLowest_136n, e_X8_findLowest_137, e_X8_findLowest_140, e_X8_findLowest_143, e_X8_findLowest_146, e_X8_findLowest_149, mNl_i, mNl_r, mNl_n, mNl_l, mNl_0, mRV_s, mRV_n, tl_s, tl_n, cs_0, cs_i, cs_r, cs_n, cs_l, Nat.reduceAdd, Nat.reduceLeDiff, true_and, and_true, eq_self_iff_true, if_true, if_false, Nat.lt_irrefl, s_lit, s_eq, s_le, s_lt, nI_add, pk_mul, s_in, s_cl, bI_n, bI_zn, not_true, not_false_eq_true, true_implies, false_implies, Nat.reduceEqDiff, Nat.reduceMul, Classical.not_not, imp_self, implies_true, tt_z, t1, r1, tS, s7, s8, k_greatestOf tt_z ha hS1 (show 0 < 6 by omega), hg0, i3_lt, show (hi0 < lo0 + (i : Int)) = False from eq_false (by omega), show 0 < 6 from by omega, show 2 ≤ a + 5 from by omega]
    have hbr : inR (i3 (lo0 + (i : Int))) (-32) 31 := ⟨by rw [i3_toInt (by omega) (by omega)]; omega, by rw [i3_toInt (by omega) (by omega)]; omega⟩
    have go := l_lwC (Q := Q) (n := n) (f := f) (I0 := I0) (L0 := L0) (b := i3 (lo0 + (i : Int))) (lo := lo) (lc := lc) (hc := hc) (c1 := c1) (acc0 := lwI f n1 m lo0 lo c1 i) (a4 := a4) ha hd hn2 hn1 hs h6 hbr hl1 hl2 hc1 hlc h1c c1 0 (mUI I1 (a + 5) 0 (i3 (lo0 + (i : Int)))) L1 (by omega)
    rw [show lc + ((0 : Nat) : Int) = lc by omega] at go
    refine go (fun x k g1 g2 g3 => by rw [mUI_no (by omega), hF _ _ g1 g2 g3]) hL (mUI_yes ⟨rfl, rfl⟩) (fun k hk => by rw [mUI_no (by omega), mUI_no (by omega)]; exact hD k hk) ?_ (fun I2 L2 hF2 hL2 hD2 hK2 => ?_)
    · rcases hK with hK | ⟨z, g1, g2, g3, g4, g5, g6⟩
      · exact Or.inl hK
      · exact Or.inr ⟨z, g1, g2, g3, g4, by rw [mUI_no (by omega)]; exact g5, fun e => by rw [mUI_no (by omega)]; exact g6 e⟩
    · simp (disch := omega) only [e_X8_findLowest_146, e_X8_findLowest_149, mNl_i, mNl_r, mNl_n, mNl_l, mNl_0, mRV_s, mRV_n, tl_s, tl_n, cs_0, cs_i, cs_r, cs_n, cs_l, Nat.reduceAdd, Nat.reduceLeDiff, true_and, and_true, eq_self_iff_true, if_true, if_false, Nat.lt_irrefl, s_lit, s_eq, s_le, s_lt, nI_add, pk_mul, s_in, s_cl, bI_n, bI_zn, not_true, not_false_eq_true, true_implies, false_implies, Nat.reduceEqDiff, Nat.reduceMul, Classical.not_not, imp_self, implies_true, i3n_add, Int.cast_ofNat_Int, ev]
      exact ih (i + 1) I2 L2 _ (by omega) hF2 hL2 hD2 hK2 h
end
