/-! ===== a step, purely: the first change that makes it better ===== -/
noncomputable def ifP {α : Type} (c : Prop) (x y : α) : α := @ite α c (Classical.propDecidable c) x y
theorem ifP_t {α : Type} {c : Prop} {x y : α} (h : c) : ifP c x y = x := by unfold ifP; rw [if_pos h]
theorem ifP_f {α : Type} {c : Prop} {x y : α} (h : ¬ c) : ifP c x y = y := by unfold ifP; rw [if_neg h]
def btF (f f0 : Nat → Int32) (n m : Nat) : Prop := bet (aeI f m) (dpI f n) (aeI f0 m) (dpI f0 n)
def tr1 (f : Nat → Int32) (n q m i : Nat) (d : Int32) : Prop := okB f q i d ∧ btF (bU f i d) f n m
def tr2 (f : Nat → Int32) (n q m i : Nat) (d : Int32) (j : Nat) (e : Int32) : Prop := okB f q i d ∧ okB f q j e ∧ btF (bU (bU f i d) j e) f n m
noncomputable def lq1 (f : Nat → Int32) (n q m : Nat) (s : Int32) : Nat → Nat → Option (Nat → Int32)
  | 0, _ => none
  | d + 1, i => ifP (tr1 f n q m i s) (some (bU f i s)) (ifP (tr1 f n q m i (-s)) (some (bU f i (-s))) (lq1 f n q m s d (i + 1)))
noncomputable def lq3 (f : Nat → Int32) (n q m : Nat) (s : Int32) (i : Nat) : Nat → Nat → Option (Nat → Int32)
  | 0, _ => none
  | d + 1, j => ifP (tr2 f n q m i s j s) (some (bU (bU f i s) j s)) (ifP (tr2 f n q m i s j (-s)) (some (bU (bU f i s) j (-s))) (ifP (tr2 f n q m i (-s) j s) (some (bU (bU f i (-s)) j s)) (ifP (tr2 f n q m i (-s) j (-s)) (some (bU (bU f i (-s)) j (-s))) (lq3 f n q m s i d (j + 1)))))
noncomputable def lq2 (f : Nat → Int32) (n q m : Nat) (s : Int32) : Nat → Nat → Option (Nat → Int32)
  | 0, _ => none
  | d + 1, i => match lq3 f n q m s i (n - (i + 1)) (i + 1) with
    | some g => some g
    | none => lq2 f n q m s d (i + 1)
noncomputable def stS (f : Nat → Int32) (n q m : Nat) : Option (Nat → Int32) := match lq1 f n q m (if f 128 = nI 0 then nI 1 else -nI 1) n 0 with
  | some g => some g
  | none => lq2 f n q m (if f 128 = nI 0 then nI 1 else -nI 1) n 0
noncomputable def rsS (n q m : Nat) : Nat → (Nat → Int32) → Nat × (Nat → Int32)
  | 0, f => (0, f)
  | k + 1, f => match stS f n q m with
    | none => (0, f)
    | some g => ((rsS n q m k g).1 + 1, (rsS n q m k g).2)
theorem fInv_12 {f : Nat → Int32} {n q m i j : Nat} {d e : Int32} (h : fInv f n q m) (hi : i < n) (hj : j < n) (hij : i ≠ j) (h1 : okB f q i d) (h2 : okB f q j e) : fInv (bU (bU f i d) j e) n q m := by
  have hn := h.1.1.1
  exact fInv_bU (fInv_bU h hi h1) hj (by rw [okB_bU (by omega) (by omega) (by omega)]; exact h2)
/-! ===== the first side ===== -/
def SC (I : Nat → Nat → Int32) (L : Nat → Nat → Int64) (a : Nat) (f : Nat → Int32) (n1 q m tk ps : Nat) : Prop := rSin I ∧ rP6 (blk I a) f n1 q m tk ps ∧ bdC I 315 f ∧ L 315 9 = i6 (aeI f m) ∧ L 315 10 = i6 (dpI f n1)
def FC (a : Nat) (I : Nat → Nat → Int32) (L : Nat → Nat → Int64) (I' : Nat → Nat → Int32) (L' : Nat → Nat → Int64) : Prop := (∀ x j, ¬ (x = a + 5 ∧ j < 6) → ¬ (315 < x ∧ x ≤ 324) → I' x j = I x j) ∧ ∀ x j, ¬ (x = 315 ∧ (j = 9 ∨ j = 10)) → L' x j = L x j
theorem FC_r {a : Nat} {I : Nat → Nat → Int32} {L : Nat → Nat → Int64} : FC a I L I L := ⟨fun _ _ _ _ => rfl, fun _ _ _ => rfl⟩
theorem FC_t {a : Nat} {I I' I'' : Nat → Nat → Int32} {L L' L'' : Nat → Nat → Int64} (h1 : FC a I L I' L') (h2 : FC a I' L' I'' L'') : FC a I L I'' L'' := ⟨fun x j g1 g2 => (h2.1 x j g1 g2).trans (h1.1 x j g1 g2), fun x j g => (h2.2 x j g).trans (h1.2 x j g)⟩
theorem rP6_bU {c c' : Nat → Nat → Int32} {f : Nat → Int32} {d : Int32} {n q m tk ps b : Nat} (h : rP6 c f n q m tk ps) (hb : b < n) (hx : okB f q b d) (hc : ∀ off j, pAll off j = true → ¬ (off = 5 ∧ j = b) → c' off j = c off j) (c1 : c' 5 b = f (19 + b) + d) : rP6 c' (bU f b d) n q m tk ps := by
  have hV := (fInv_bU (fInv_of h) hb hx).1.1
  obtain ⟨hLim, hPin, hSpa, hCro, hBar, hHol, hHan, hGes, hPos⟩ := h
  have hn := hLim.1
  have hf : ∀ i, i < 239 → ¬ (i = 19 + b) → bU f b d i = f i := fun i _ h => bU_n h
  refine ⟨⟨hn, by rw [hc 1 4 (by decide) (by omega)]; exact hLim.2.1, by rw [hf _ (by omega) (by omega)]; exact hLim.2.2.1, fun k hk => ?_⟩, rPin_up (hc 1 5 (by decide) (by omega)) (hc 1 6 (by decide) (by omega)) (hf 25 (by omega) (by omega)) (hf 26 (by omega) (by omega)) (fun k hk => if e : k = b then Or.inr (by subst e; rw [bU_y]; exact okB_in ⟨hSpa.2.1, fun k hk => (hSpa.2.2 k hk).2.2⟩ hx) else Or.inl (hf (19 + k) (by omega) (by omega))) hPin, rSpa_congr (hc 6 2 (by decide) (by omega)) (fun k hk => ⟨hc 7 k (pA_6 k hk).2.2.2.2.1 (by omega), hc 8 k (pA_6 k hk).2.2.2.2.2.1 (by omega)⟩) (fun i hi hi2 => hf i (by omega) (by omega)) hSpa, rCro_congr (hc 9 2 (by decide) (by omega)) (hc 9 3 (by decide) (by omega)) (hc 9 4 (by decide) (by omega)) (fun i hi hi2 => hf i (by omega) (by omega)) hCro, rBar_congr (fun k hk => ⟨hc 10 k (pA_6 k hk).2.2.2.2.2.2.1 (by omega), hc 11 k (pA_6 k hk).2.2.2.2.2.2.2 (by omega)⟩) (fun i hi hi2 => hf i (by omega) (by omega)) hBar, rHol_congr (hc 12 6 (by decide) (by omega)) (fun k hk => ⟨hc 13 k (pA_12 k hk).1 (by omega), hc 14 k (pA_12 k hk).2.1 (by omega), hc 15 k (pA_12 k hk).2.2.1 (by omega), hc 16 k (pA_12 k hk).2.2.2.1 (by omega), hc 17 k (pA_12 k hk).2.2.2.2.1 (by omega), hc 18 k (pA_12 k hk).2.2.2.2.2.1 (by omega)⟩) (fun i hi hi2 => hf i (by omega) (by omega)) hHol, rHan_congr (hc 0 5 (by decide) (by omega)) (hf 128 (by omega) (by omega)) hHan, rGes_congr (hc 19 4 (by decide) (by omega)) (fun k hk => ⟨hc 20 k (pA_12 k hk).2.2.2.2.2.2.1 (by omega), hc 21 k (pA_12 k hk).2.2.2.2.2.2.2.1 (by omega), hc 22 k (pA_12 k hk).2.2.2.2.2.2.2.2 (by omega)⟩) (fun i hi hi2 => hf i (by omega) (by omega)) hGes, rPos_congr (hc 19 5 (by decide) (by omega)) (fun k hk => hc 23 k (pA_72 k hk) (by omega)) (fun i hi hi2 => hf i (by omega) (by omega)) hPos⟩
  obtain ⟨l1, l2, l3, l4, l5⟩ := hLim.2.2.2 k hk
  obtain ⟨v1, v2, v3, v4⟩ := hV.2 k hk
  refine ⟨?_, ?_, ?_, ?_, v1, v2, v3, v4⟩
  · rw [hc 2 k (pA_6 k (by omega)).1 (by omega), hf _ (by omega) (by omega)]; exact l1
  · rw [hc 3 k (pA_6 k (by omega)).2.1 (by omega), hf _ (by omega) (by omega)]; exact l2
  · rw [hc 4 k (pA_6 k (by omega)).2.2.1 (by omega), hf _ (by omega) (by omega)]; exact l3
  · by_cases e : k = b
    · subst e; rw [c1, bU_y]
    · rw [hc 5 k (pA_6 k (by omega)).2.2.2.1 (by omega), hf _ (by omega) (by omega)]; exact l4
theorem bdC_bU {I : Nat → Nat → Int32} {F i : Nat} {f : Nat → Int32} {d : Int32} (hi : i < 6) (h : bdC I F f) : bdC I F (bU f i d) := fun j hj => by rw [bB_bU hi, bB_bU hi]; exact h j hj
theorem in12 : (1 : Int32) = nI 1 := rfl
section
variable {Q : mQo} {n : Nat} {I : Nat → Nat → Int32} {L : Nat → Nat → Int64} {f : Nat → Int32} {a n1 q m tk ps i j : Nat} {d e : Int32}
theorem SC_b (hS : SC I L a f n1 q m tk ps) : (0 ≤ aeI f m ∧ aeI f m ≤ 1000000000) ∧ (-1000000000 ≤ dpI f n1 ∧ dpI f n1 ≤ 1000000000) := by
  have hA := fAll_of hS.2.1
  have c1 := ae_b hA m (Nat.le_refl m)
  have c2 := dp_b hA n1 (Nat.le_refl n1)
  have hn := hA.1.1
  have hm := hA.2.2.2.1
  omega
theorem s_try1 (ha : sPup (tt n) a) (hd : a + 24 ≤ 294) (hi : i < n1) (hS : SC I L a f n1 q m tk ps) (h1 : tr1 f n1 q m i d → ∀ I' L', FC a I L I' L' → SC I' L' a (bU f i d) n1 q m tk ps → Q (some (.int 1)) (tt n, I', L')) (h0 : ¬ tr1 f n1 q m i d → ∀ I' L', FC a I L I' L' → SC I' L' a f n1 q m tk ps → Q (some (.int 0)) (tt n, I', L')) : C_X8_tryOne [.ref 314, .ref a, .int (nI i), .int d] (tt n, I, L) Q := by
  have hb := SC_b hS
  obtain ⟨hs, h6, hD, e1, e2⟩ := id hS
  have hn : n1 ≤ 6 := h6.1.1
  have a0 := ha.1
  obtain ⟨t1, r0, r1, r2, r3, r4⟩ := ha.2.1
  obtain ⟨t2, -, -, -, w3⟩ := ha.2.2.1
  have t6 := ha.2.2.2.1.1
  obtain ⟨s5, s6⟩ : sArr (tt n) (a + 5) 6 := ha.2.2.2.2.2.2.2.2.2.2.1
  have z : I (a + 5) i = f (19 + i) := (h6.1.2.2.2 i hi).2.2.2.1
  by_cases hok : okB f q i d
  · have hok' : wi (spL f q i) (f (19 + i) + d) (spG f q i) := hok
    generalize hI1 : mUI I (a + 5) i (f (19 + i) + d) = I1
    have y1 : I1 (a + 5) i = f (19 + i) + d := by rw [← hI1, mUI_yes ⟨rfl, rfl⟩]
    have n1' : ∀ x j, ¬ (x = a + 5 ∧ j = i) → I1 x j = I x j := fun x j h => by rw [← hI1, mUI_no h]
    have hs1 : rSin I1 := fun j hj => by rw [n1' _ _ (by omega), n1' _ _ (by omega)]; exact hs j hj
    have g6 : rP6 (blk I1 a) (bU f i d) n1 q m tk ps := rP6_bU h6 hi hok (fun off j hp h => n1' _ _ (by omega)) y1
    have gD : bdC I1 315 (bU f i d) := bdC_bU (by omega) (fun j hj => by rw [n1' _ _ (by omega), n1' _ _ (by omega)]; exact hD j hj)
    by_cases ht : btF (bU f i d) f n1 m
    · simp (disch := omega) only [c_X8_tryOne, e_X8_tryOne_0, e_X8_tryOne_0n, e_X8_tryOne_1, e_X8_tryOne_4, e_X8_tryOne_7, e_X8_tryOne_7n, e_X8_tryOne_9, e_X8_tryOne_9n, e_X8_tryOne_10, e_X8_tryOne_13, e_X8_tryOne_14, e_X8_tryOne_14n, e_X8_tryOne_16, e_X8_tryOne_17, e_X8_tryOne_18, e_X8_tryOne_19, e_X8_tryOne_20, e_X8_tryOne_23, e_X8_tryOne_26, e_X8_tryOne_27, e_X8_tryOne_28, e_X8_tryOne_28n, e_X8_tryOne_30, e_X8_tryOne_31, e_X8_tryOne_32, e_X8_tryOne_33, e_X8_tryOne_34, e_X8_tryOne_35, e_X8_tryOne_36, e_X8_tryOne_36n, e_X8_tryOne_37, e_X8_tryOne_40, e_X8_tryOne_40n, e_X8_tryOne_41, e_X8_tryOne_44, e_X8_tryOne_47, e_X8_tryOne_48, e_X8_tryOne_49, e_X8_tryOne_49n, e_X8_tryOne_51, e_X8_tryOne_52, e_X8_tryOne_53, e_X8_tryOne_54, e_X8_tryOne_55, e_X8_tryOne_56, e_X8_tryOne_57, e_X8_tryOne_58, mNl_i, mNl_r, mNl_n, mNl_l, mNl_0, mRV_s, mRV_n, tl_s, tl_n, cs_0, cs_i, cs_r, cs_n, cs_l, Nat.reduceAdd, Nat.reduceLeDiff, true_and, and_true, eq_self_iff_true, if_true, if_false, Nat.lt_irrefl, s_lit, s_eq, s_le, s_lt, nI_add, pk_mul, s_in, s_cl, bI_n, bI_zn, not_true, not_false_eq_true, true_implies, false_implies, Nat.reduceEqDiff, Nat.reduceMul, Classical.not_not, imp_self, implies_true, tt_z, t1, r0, r1, t2, w3, t6, s5, s6, tg_314, rf_314_0, tg_315, z, k_allow tt_z ha h6.2.2.1 (show i < 6 by omega), hok', hI1, k_bet1 ha sf_315 (by omega) hs1 g6 gD e1 e2 hb.1.1 (by omega) (by omega) (by omega) ht, or_true, true_or, show i < 6 from by omega, show 2 ≤ a + 5 from by omega]
      refine h1 ⟨hok, ht⟩ _ _ ⟨fun x j g1 g2 => ?_, fun x j g => ?_⟩ ⟨?_, rP6_ly (by omega) g6, bdC_ly gD, ?_, ?_⟩
      · rw [ly_ne (by omega), n1' _ _ (by omega)]
      · rw [mUL_no (by omega), mUL_no (by omega)]
      · exact fun j hj => by rw [ly_ne (by omega), ly_ne (by omega)]; exact hs1 j hj
      · rw [mUL_no (by omega), mUL_yes (by omega)]
      · rw [mUL_yes (by omega)]
    · have y2 : lyC I1 315 (bU f i d) n1 (a + 5) i = f (19 + i) + d := by rw [ly_ne (by omega)]; exact y1
      simp (disch := omega) only [c_X8_tryOne, e_X8_tryOne_0, e_X8_tryOne_0n, e_X8_tryOne_1, e_X8_tryOne_4, e_X8_tryOne_7, e_X8_tryOne_7n, e_X8_tryOne_9, e_X8_tryOne_9n, e_X8_tryOne_10, e_X8_tryOne_13, e_X8_tryOne_14, e_X8_tryOne_14n, e_X8_tryOne_16, e_X8_tryOne_17, e_X8_tryOne_18, e_X8_tryOne_19, e_X8_tryOne_20, e_X8_tryOne_23, e_X8_tryOne_26, e_X8_tryOne_27, e_X8_tryOne_28, e_X8_tryOne_28n, e_X8_tryOne_30, e_X8_tryOne_31, e_X8_tryOne_32, e_X8_tryOne_33, e_X8_tryOne_34, e_X8_tryOne_35, e_X8_tryOne_36, e_X8_tryOne_36n, e_X8_tryOne_37, e_X8_tryOne_40, e_X8_tryOne_40n, e_X8_tryOne_41, e_X8_tryOne_44, e_X8_tryOne_47, e_X8_tryOne_48, e_X8_tryOne_49, e_X8_tryOne_49n, e_X8_tryOne_51, e_X8_tryOne_52, e_X8_tryOne_53, e_X8_tryOne_54, e_X8_tryOne_55, e_X8_tryOne_56, e_X8_tryOne_57, e_X8_tryOne_58, mNl_i, mNl_r, mNl_n, mNl_l, mNl_0, mRV_s, mRV_n, tl_s, tl_n, cs_0, cs_i, cs_r, cs_n, cs_l, Nat.reduceAdd, Nat.reduceLeDiff, true_and, and_true, eq_self_iff_true, if_true, if_false, Nat.lt_irrefl, s_lit, s_eq, s_le, s_lt, nI_add, pk_mul, s_in, s_cl, bI_n, bI_zn, not_true, not_false_eq_true, true_implies, false_implies, Nat.reduceEqDiff, Nat.reduceMul, Classical.not_not, imp_self, implies_true, tt_z, t1, r0, r1, t2, w3, t6, s5, s6, tg_314, rf_314_0, tg_315, z, k_allow tt_z ha h6.2.2.1 (show i < 6 by omega), hok', hI1, k_bet0 ha sf_315 (by omega) hs1 g6 gD e1 e2 hb.1.1 (by omega) (by omega) (by omega) ht, y2, Int32.add_sub_cancel, or_true, true_or, show i < 6 from by omega, show 2 ≤ a + 5 from by omega]
      have gI : ∀ x j, ¬ (315 < x ∧ x ≤ 324) → mUI (lyC I1 315 (bU f i d) n1) (a + 5) i (f (19 + i)) x j = I x j := fun x j g => by
        by_cases hx : x = a + 5 ∧ j = i
        · rw [mUI_yes hx, hx.1, hx.2, z]
        · rw [mUI_no hx, ly_ne (by omega), n1' _ _ hx]
      have gD2 : bdC (mUI (lyC I1 315 (bU f i d) n1) (a + 5) i (f (19 + i))) 315 f := fun j hj => by
        rw [mUI_no (by omega), mUI_no (by omega), ly_ne (by omega), ly_ne (by omega), n1' _ _ (by omega), n1' _ _ (by omega)]; exact hD j hj
      exact h0 (fun z => ht z.2) _ _ ⟨fun x j g1 g2 => gI x j g2, fun x j g => rfl⟩ ⟨fun j hj => by rw [gI _ _ (by omega), gI _ _ (by omega)]; exact hs j hj, rP6_congr (fun off j hp => by have := pAll_lt hp; exact gI _ _ (by omega)) (fun _ _ => rfl) h6, gD2, e1, e2⟩
  · have hok' : ¬ wi (spL f q i) (f (19 + i) + d) (spG f q i) := hok
    simp (disch := omega) only [c_X8_tryOne, e_X8_tryOne_0, e_X8_tryOne_0n, e_X8_tryOne_1, e_X8_tryOne_4, e_X8_tryOne_7, e_X8_tryOne_7n, e_X8_tryOne_9, e_X8_tryOne_9n, e_X8_tryOne_10, e_X8_tryOne_13, e_X8_tryOne_14, e_X8_tryOne_14n, e_X8_tryOne_16, e_X8_tryOne_17, e_X8_tryOne_18, e_X8_tryOne_19, e_X8_tryOne_20, e_X8_tryOne_23, e_X8_tryOne_26, e_X8_tryOne_27, e_X8_tryOne_28, e_X8_tryOne_28n, e_X8_tryOne_30, e_X8_tryOne_31, e_X8_tryOne_32, e_X8_tryOne_33, e_X8_tryOne_34, e_X8_tryOne_35, e_X8_tryOne_36, e_X8_tryOne_36n, e_X8_tryOne_37, e_X8_tryOne_40, e_X8_tryOne_40n, e_X8_tryOne_41, e_X8_tryOne_44, e_X8_tryOne_47, e_X8_tryOne_48, e_X8_tryOne_49, e_X8_tryOne_49n, e_X8_tryOne_51, e_X8_tryOne_52, e_X8_tryOne_53, e_X8_tryOne_54, e_X8_tryOne_55, e_X8_tryOne_56, e_X8_tryOne_57, e_X8_tryOne_58, mNl_i, mNl_r, mNl_n, mNl_l, mNl_0, mRV_s, mRV_n, tl_s, tl_n, cs_0, cs_i, cs_r, cs_n, cs_l, Nat.reduceAdd, Nat.reduceLeDiff, true_and, and_true, eq_self_iff_true, if_true, if_false, Nat.lt_irrefl, s_lit, s_eq, s_le, s_lt, nI_add, pk_mul, s_in, s_cl, bI_n, bI_zn, not_true, not_false_eq_true, true_implies, false_implies, Nat.reduceEqDiff, Nat.reduceMul, Classical.not_not, imp_self, implies_true, tt_z, t1, r0, r1, t2, w3, t6, s5, s6, tg_314, rf_314_0, tg_315, z, k_allow tt_z ha h6.2.2.1 (show i < 6 by omega), hok', or_true, true_or, show i < 6 from by omega, show 2 ≤ a + 5 from by omega]
    exact h0 (fun z => hok z.1) _ _ FC_r hS
theorem s_try2 (ha : sPup (tt n) a) (hd : a + 24 ≤ 294) (hi : i < n1) (hj : j < n1) (hij : i ≠ j) (hS : SC I L a f n1 q m tk ps) (h1 : tr2 f n1 q m i d j e → ∀ I' L', FC a I L I' L' → SC I' L' a (bU (bU f i d) j e) n1 q m tk ps → Q (some (.int 1)) (tt n, I', L')) (h0 : ¬ tr2 f n1 q m i d j e → ∀ I' L', FC a I L I' L' → SC I' L' a f n1 q m tk ps → Q (some (.int 0)) (tt n, I', L')) : C_X8_tryTwo [.ref 314, .ref a, .int (nI i), .int d, .int (nI j), .int e] (tt n, I, L) Q := by
  have hb := SC_b hS
  obtain ⟨hs, h6, hD, e1, e2⟩ := id hS
  have hn : n1 ≤ 6 := h6.1.1
  have a0 := ha.1
  obtain ⟨t1, r0, r1, r2, r3, r4⟩ := ha.2.1
  obtain ⟨t2, -, -, -, w3⟩ := ha.2.2.1
  have t6 := ha.2.2.2.1.1
  obtain ⟨s5, s6⟩ : sArr (tt n) (a + 5) 6 := ha.2.2.2.2.2.2.2.2.2.2.1
  have z : I (a + 5) i = f (19 + i) := (h6.1.2.2.2 i hi).2.2.2.1
  have z' : I (a + 5) j = f (19 + j) := (h6.1.2.2.2 j hj).2.2.2.1
  have i6 : i < 6 := by omega
  have j6 : j < 6 := by omega
  have a5 : 2 ≤ a + 5 := by omega
  by_cases hok : okB f q i d
  · have hok1 : wi (spL f q i) (f (19 + i) + d) (spG f q i) := hok
    by_cases hok2 : okB f q j e
    · have hok3 : wi (spL f q j) (f (19 + j) + e) (spG f q j) := hok2
      have z2 : mUI I (a + 5) i (f (19 + i) + d) (a + 5) j = f (19 + j) := by rw [mUI_no (by omega)]; exact z'
      generalize hI1 : mUI (mUI I (a + 5) i (f (19 + i) + d)) (a + 5) j (f (19 + j) + e) = I1
      have y1 : I1 (a + 5) i = f (19 + i) + d := by rw [← hI1, mUI_no (by omega), mUI_yes ⟨rfl, rfl⟩]
      have y1' : I1 (a + 5) j = f (19 + j) + e := by rw [← hI1, mUI_yes ⟨rfl, rfl⟩]
      have n1' : ∀ x k, ¬ (x = a + 5 ∧ (k = i ∨ k = j)) → I1 x k = I x k := fun x k h => by rw [← hI1, mUI_no (by omega), mUI_no (by omega)]
      have hs1 : rSin I1 := fun j hj => by rw [n1' _ _ (by omega), n1' _ _ (by omega)]; exact hs j hj
      have g6 : rP6 (blk I1 a) (bU (bU f i d) j e) n1 q m tk ps := by
        have g5 : rP6 (blk (mUI I (a + 5) i (f (19 + i) + d)) a) (bU f i d) n1 q m tk ps := rP6_bU h6 hi hok (fun off j hp h => mUI_no (by omega)) (mUI_yes ⟨rfl, rfl⟩)
        refine rP6_bU g5 hj (by rw [okB_bU i6 j6 (by omega)]; exact hok2) (fun off k hp h => ?_) ?_
        · show I1 (a + off) k = mUI I (a + 5) i (f (19 + i) + d) (a + off) k
          rw [← hI1, mUI_no (by omega)]
        · rw [bU_n (by omega)]; exact y1'
      have gD : bdC I1 315 (bU (bU f i d) j e) := bdC_bU j6 (bdC_bU i6 (fun j hj => by rw [n1' _ _ (by omega), n1' _ _ (by omega)]; exact hD j hj))
      by_cases ht : btF (bU (bU f i d) j e) f n1 m
      · simp (disch := omega) only [c_X8_tryTwo, e_X8_tryTwo_0, e_X8_tryTwo_0n, e_X8_tryTwo_1, e_X8_tryTwo_4, e_X8_tryTwo_7, e_X8_tryTwo_7n, e_X8_tryTwo_9, e_X8_tryTwo_9n, e_X8_tryTwo_10, e_X8_tryTwo_13, e_X8_tryTwo_14, e_X8_tryTwo_14n, e_X8_tryTwo_16, e_X8_tryTwo_17, e_X8_tryTwo_18, e_X8_tryTwo_19, e_X8_tryTwo_20, e_X8_tryTwo_23, e_X8_tryTwo_26, e_X8_tryTwo_26n, e_X8_tryTwo_27, e_X8_tryTwo_30, e_X8_tryTwo_32, e_X8_tryTwo_32n, e_X8_tryTwo_34, e_X8_tryTwo_36, e_X8_tryTwo_37, e_X8_tryTwo_39, e_X8_tryTwo_40, e_X8_tryTwo_43, e_X8_tryTwo_46, e_X8_tryTwo_47, e_X8_tryTwo_48, e_X8_tryTwo_48n, e_X8_tryTwo_50, e_X8_tryTwo_51, e_X8_tryTwo_52, e_X8_tryTwo_53, e_X8_tryTwo_54, e_X8_tryTwo_55, e_X8_tryTwo_56, e_X8_tryTwo_56n, e_X8_tryTwo_58, e_X8_tryTwo_60, e_X8_tryTwo_61, e_X8_tryTwo_62, e_X8_tryTwo_64, e_X8_tryTwo_65, e_X8_tryTwo_66, e_X8_tryTwo_66n, e_X8_tryTwo_67, e_X8_tryTwo_70, e_X8_tryTwo_70n, e_X8_tryTwo_71, e_X8_tryTwo_74, e_X8_tryTwo_77, e_X8_tryTwo_78, e_X8_tryTwo_79, e_X8_tryTwo_79n, e_X8_tryTwo_81, e_X8_tryTwo_82, e_X8_tryTwo_83, e_X8_tryTwo_84, e_X8_tryTwo_85, e_X8_tryTwo_86, e_X8_tryTwo_87, e_X8_tryTwo_87n, e_X8_tryTwo_89, e_X8_tryTwo_91, e_X8_tryTwo_92, e_X8_tryTwo_93, e_X8_tryTwo_95, e_X8_tryTwo_96, e_X8_tryTwo_97, e_X8_tryTwo_98, mNl_i, mNl_r, mNl_n, mNl_l, mNl_0, mRV_s, mRV_n, tl_s, tl_n, cs_0, cs_i, cs_r, cs_n, cs_l, Nat.reduceAdd, Nat.reduceLeDiff, true_and, and_true, eq_self_iff_true, if_true, if_false, Nat.lt_irrefl, s_lit, s_eq, s_le, s_lt, nI_add, pk_mul, s_in, s_cl, bI_n, bI_zn, not_true, not_false_eq_true, true_implies, false_implies, Nat.reduceEqDiff, Nat.reduceMul, Classical.not_not, imp_self, implies_true, tt_z, t1, r0, r1, t2, w3, t6, s5, s6, tg_314, rf_314_0, tg_315, z, z', z2, k_allow tt_z ha h6.2.2.1 i6, k_allow tt_z ha h6.2.2.1 j6, hok1, hok3, hI1, k_bet1 ha sf_315 (by omega) hs1 g6 gD e1 e2 hb.1.1 (by omega) (by omega) (by omega) ht, or_true, true_or, i6, j6, a5]
        refine h1 ⟨hok, hok2, ht⟩ _ _ ⟨fun x j g1 g2 => ?_, fun x j g => ?_⟩ ⟨?_, rP6_ly (by omega) g6, bdC_ly gD, ?_, ?_⟩
        · rw [ly_ne (by omega), n1' _ _ (by omega)]
        · rw [mUL_no (by omega), mUL_no (by omega)]
        · exact fun j hj => by rw [ly_ne (by omega), ly_ne (by omega)]; exact hs1 j hj
        · rw [mUL_no (by omega), mUL_yes (by omega)]
        · rw [mUL_yes (by omega)]
      · have y2 : lyC I1 315 (bU (bU f i d) j e) n1 (a + 5) i = f (19 + i) + d := by rw [ly_ne (by omega)]; exact y1
        have y3 : mUI (lyC I1 315 (bU (bU f i d) j e) n1) (a + 5) i (f (19 + i)) (a + 5) j = f (19 + j) + e := by rw [mUI_no (by omega), ly_ne (by omega)]; exact y1'
        simp (disch := omega) only [c_X8_tryTwo, e_X8_tryTwo_0, e_X8_tryTwo_0n, e_X8_tryTwo_1, e_X8_tryTwo_4, e_X8_tryTwo_7, e_X8_tryTwo_7n, e_X8_tryTwo_9, e_X8_tryTwo_9n, e_X8_tryTwo_10, e_X8_tryTwo_13, e_X8_tryTwo_14, e_X8_tryTwo_14n, e_X8_tryTwo_16, e_X8_tryTwo_17, e_X8_tryTwo_18, e_X8_tryTwo_19, e_X8_tryTwo_20, e_X8_tryTwo_23, e_X8_tryTwo_26, e_X8_tryTwo_26n, e_X8_tryTwo_27, e_X8_tryTwo_30, e_X8_tryTwo_32, e_X8_tryTwo_32n, e_X8_tryTwo_34, e_X8_tryTwo_36, e_X8_tryTwo_37, e_X8_tryTwo_39, e_X8_tryTwo_40, e_X8_tryTwo_43, e_X8_tryTwo_46, e_X8_tryTwo_47, e_X8_tryTwo_48, e_X8_tryTwo_48n, e_X8_tryTwo_50, e_X8_tryTwo_51, e_X8_tryTwo_52, e_X8_tryTwo_53, e_X8_tryTwo_54, e_X8_tryTwo_55, e_X8_tryTwo_56, e_X8_tryTwo_56n, e_X8_tryTwo_58, e_X8_tryTwo_60, e_X8_tryTwo_61, e_X8_tryTwo_62, e_X8_tryTwo_64, e_X8_tryTwo_65, e_X8_tryTwo_66, e_X8_tryTwo_66n, e_X8_tryTwo_67, e_X8_tryTwo_70, e_X8_tryTwo_70n, e_X8_tryTwo_71, e_X8_tryTwo_74, e_X8_tryTwo_77, e_X8_tryTwo_78, e_X8_tryTwo_79, e_X8_tryTwo_79n, e_X8_tryTwo_81, e_X8_tryTwo_82, e_X8_tryTwo_83, e_X8_tryTwo_84, e_X8_tryTwo_85, e_X8_tryTwo_86, e_X8_tryTwo_87, e_X8_tryTwo_87n, e_X8_tryTwo_89, e_X8_tryTwo_91, e_X8_tryTwo_92, e_X8_tryTwo_93, e_X8_tryTwo_95, e_X8_tryTwo_96, e_X8_tryTwo_97, e_X8_tryTwo_98, mNl_i, mNl_r, mNl_n, mNl_l, mNl_0, mRV_s, mRV_n, tl_s, tl_n, cs_0, cs_i, cs_r, cs_n, cs_l, Nat.reduceAdd, Nat.reduceLeDiff, true_and, and_true, eq_self_iff_true, if_true, if_false, Nat.lt_irrefl, s_lit, s_eq, s_le, s_lt, nI_add, pk_mul, s_in, s_cl, bI_n, bI_zn, not_true, not_false_eq_true, true_implies, false_implies, Nat.reduceEqDiff, Nat.reduceMul, Classical.not_not, imp_self, implies_true, tt_z, t1, r0, r1, t2, w3, t6, s5, s6, tg_314, rf_314_0, tg_315, z, z', z2, k_allow tt_z ha h6.2.2.1 i6, k_allow tt_z ha h6.2.2.1 j6, hok1, hok3, hI1, k_bet0 ha sf_315 (by omega) hs1 g6 gD e1 e2 hb.1.1 (by omega) (by omega) (by omega) ht, y2, y3, Int32.add_sub_cancel, or_true, true_or, i6, j6, a5]
        have gI : ∀ x k, ¬ (315 < x ∧ x ≤ 324) → mUI (mUI (lyC I1 315 (bU (bU f i d) j e) n1) (a + 5) i (f (19 + i))) (a + 5) j (f (19 + j)) x k = I x k := fun x k g => by
          by_cases hx : x = a + 5 ∧ k = j
          · rw [mUI_yes hx, hx.1, hx.2, z']
          · rw [mUI_no hx]
            by_cases hy : x = a + 5 ∧ k = i
            · rw [mUI_yes hy, hy.1, hy.2, z]
            · rw [mUI_no hy, ly_ne (by omega), n1' _ _ (by omega)]
        have gD2 : bdC (mUI (mUI (lyC I1 315 (bU (bU f i d) j e) n1) (a + 5) i (f (19 + i))) (a + 5) j (f (19 + j))) 315 f := fun k hk => by
          rw [mUI_no (by omega), mUI_no (by omega), mUI_no (by omega), mUI_no (by omega), ly_ne (by omega), ly_ne (by omega), n1' _ _ (by omega), n1' _ _ (by omega)]; exact hD k hk
        exact h0 (fun z => ht z.2.2) _ _ ⟨fun x j g1 g2 => gI x j g2, fun x j g => rfl⟩ ⟨fun j hj => by rw [gI _ _ (by omega), gI _ _ (by omega)]; exact hs j hj, rP6_congr (fun off j hp => by have := pAll_lt hp; exact gI _ _ (by omega)) (fun _ _ => rfl) h6, gD2, e1, e2⟩
    · have hok3 : ¬ wi (spL f q j) (f (19 + j) + e) (spG f q j) := hok2
      simp (disch := omega) only [c_X8_tryTwo, e_X8_tryTwo_0, e_X8_tryTwo_0n, e_X8_tryTwo_1, e_X8_tryTwo_4, e_X8_tryTwo_7, e_X8_tryTwo_7n, e_X8_tryTwo_9, e_X8_tryTwo_9n, e_X8_tryTwo_10, e_X8_tryTwo_13, e_X8_tryTwo_14, e_X8_tryTwo_14n, e_X8_tryTwo_16, e_X8_tryTwo_17, e_X8_tryTwo_18, e_X8_tryTwo_19, e_X8_tryTwo_20, e_X8_tryTwo_23, e_X8_tryTwo_26, e_X8_tryTwo_26n, e_X8_tryTwo_27, e_X8_tryTwo_30, e_X8_tryTwo_32, e_X8_tryTwo_32n, e_X8_tryTwo_34, e_X8_tryTwo_36, e_X8_tryTwo_37, e_X8_tryTwo_39, e_X8_tryTwo_40, e_X8_tryTwo_43, e_X8_tryTwo_46, e_X8_tryTwo_47, e_X8_tryTwo_48, e_X8_tryTwo_48n, e_X8_tryTwo_50, e_X8_tryTwo_51, e_X8_tryTwo_52, e_X8_tryTwo_53, e_X8_tryTwo_54, e_X8_tryTwo_55, e_X8_tryTwo_56, e_X8_tryTwo_56n, e_X8_tryTwo_58, e_X8_tryTwo_60, e_X8_tryTwo_61, e_X8_tryTwo_62, e_X8_tryTwo_64, e_X8_tryTwo_65, e_X8_tryTwo_66, e_X8_tryTwo_66n, e_X8_tryTwo_67, e_X8_tryTwo_70, e_X8_tryTwo_70n, e_X8_tryTwo_71, e_X8_tryTwo_74, e_X8_tryTwo_77, e_X8_tryTwo_78, e_X8_tryTwo_79, e_X8_tryTwo_79n, e_X8_tryTwo_81, e_X8_tryTwo_82, e_X8_tryTwo_83, e_X8_tryTwo_84, e_X8_tryTwo_85, e_X8_tryTwo_86, e_X8_tryTwo_87, e_X8_tryTwo_87n, e_X8_tryTwo_89, e_X8_tryTwo_91, e_X8_tryTwo_92, e_X8_tryTwo_93, e_X8_tryTwo_95, e_X8_tryTwo_96, e_X8_tryTwo_97, e_X8_tryTwo_98, mNl_i, mNl_r, mNl_n, mNl_l, mNl_0, mRV_s, mRV_n, tl_s, tl_n, cs_0, cs_i, cs_r, cs_n, cs_l, Nat.reduceAdd, Nat.reduceLeDiff, true_and, and_true, eq_self_iff_true, if_true, if_false, Nat.lt_irrefl, s_lit, s_eq, s_le, s_lt, nI_add, pk_mul, s_in, s_cl, bI_n, bI_zn, not_true, not_false_eq_true, true_implies, false_implies, Nat.reduceEqDiff, Nat.reduceMul, Classical.not_not, imp_self, implies_true, tt_z, t1, r0, r1, t2, w3, t6, s5, s6, tg_314, rf_314_0, tg_315, z, z', k_allow tt_z ha h6.2.2.1 i6, k_allow tt_z ha h6.2.2.1 j6, hok1, hok3, or_true, true_or, i6, j6, a5]
      exact h0 (fun z => hok2 z.2.1) _ _ FC_r hS
  · have hok1 : ¬ wi (spL f q i) (f (19 + i) + d) (spG f q i) := hok
    simp (disch := omega) only [c_X8_tryTwo, e_X8_tryTwo_0, e_X8_tryTwo_0n, e_X8_tryTwo_1, e_X8_tryTwo_4, e_X8_tryTwo_7, e_X8_tryTwo_7n, e_X8_tryTwo_9, e_X8_tryTwo_9n, e_X8_tryTwo_10, e_X8_tryTwo_13, e_X8_tryTwo_14, e_X8_tryTwo_14n, e_X8_tryTwo_16, e_X8_tryTwo_17, e_X8_tryTwo_18, e_X8_tryTwo_19, e_X8_tryTwo_20, e_X8_tryTwo_23, e_X8_tryTwo_26, e_X8_tryTwo_26n, e_X8_tryTwo_27, e_X8_tryTwo_30, e_X8_tryTwo_32, e_X8_tryTwo_32n, e_X8_tryTwo_34, e_X8_tryTwo_36, e_X8_tryTwo_37, e_X8_tryTwo_39, e_X8_tryTwo_40, e_X8_tryTwo_43, e_X8_tryTwo_46, e_X8_tryTwo_47, e_X8_tryTwo_48, e_X8_tryTwo_48n, e_X8_tryTwo_50, e_X8_tryTwo_51, e_X8_tryTwo_52, e_X8_tryTwo_53, e_X8_tryTwo_54, e_X8_tryTwo_55, e_X8_tryTwo_56, e_X8_tryTwo_56n, e_X8_tryTwo_58, e_X8_tryTwo_60, e_X8_tryTwo_61, e_X8_tryTwo_62, e_X8_tryTwo_64, e_X8_tryTwo_65, e_X8_tryTwo_66, e_X8_tryTwo_66n, e_X8_tryTwo_67, e_X8_tryTwo_70, e_X8_tryTwo_70n, e_X8_tryTwo_71, e_X8_tryTwo_74, e_X8_tryTwo_77, e_X8_tryTwo_78, e_X8_tryTwo_79, e_X8_tryTwo_79n, e_X8_tryTwo_81, e_X8_tryTwo_82, e_X8_tryTwo_83, e_X8_tryTwo_84, e_X8_tryTwo_85, e_X8_tryTwo_86, e_X8_tryTwo_87, e_X8_tryTwo_87n, e_X8_tryTwo_89, e_X8_tryTwo_91, e_X8_tryTwo_92, e_X8_tryTwo_93, e_X8_tryTwo_95, e_X8_tryTwo_96, e_X8_tryTwo_97, e_X8_tryTwo_98, mNl_i, mNl_r, mNl_n, mNl_l, mNl_0, mRV_s, mRV_n, tl_s, tl_n, cs_0, cs_i, cs_r, cs_n, cs_l, Nat.reduceAdd, Nat.reduceLeDiff, true_and, and_true, eq_self_iff_true, if_true, if_false, Nat.lt_irrefl, s_lit, s_eq, s_le, s_lt, nI_add, pk_mul, s_in, s_cl, bI_n, bI_zn, not_true, not_false_eq_true, true_implies, false_implies, Nat.reduceEqDiff, Nat.reduceMul, Classical.not_not, imp_self, implies_true, tt_z, t1, r0, r1, t2, w3, t6, s5, s6, tg_314, rf_314_0, tg_315, z, z', k_allow tt_z ha h6.2.2.1 i6, k_allow tt_z ha h6.2.2.1 j6, hok1, or_true, true_or, i6, j6, a5]
    exact h0 (fun z => hok z.1) _ _ FC_r hS
end
