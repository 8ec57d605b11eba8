/-! ===== play: promise 27 ===== -/
theorem fInv_congr {f f' : Nat → Int32} {n q m : Nat} (h : fInv f n q m) (e : ∀ i, i < 129 → f' i = f i) : fInv f' n q m := by
  obtain ⟨⟨h1, h2, h3, h4⟩, h5, h6, h7, h8⟩ := h
  have hn := h1.1
  have hm := h4.1
  refine ⟨⟨⟨hn, fun k hk => ?_⟩, ?_, ?_, ⟨hm, fun k hk => ?_⟩⟩, ?_, ?_, ?_, ?_⟩
  · rw [e _ (by omega), e _ (by omega), e _ (by omega), e _ (by omega)]
    exact h1.2 k hk
  · unfold fPin; rw [e _ (by omega), e _ (by omega)]; exact h2
  · unfold fCro
    rw [e _ (by omega), e _ (by omega), e _ (by omega)]
    refine ⟨h3.1, h3.2.1, h3.2.2.1, fun k hk => ?_⟩
    rw [e _ (by omega), e _ (by omega)]
    exact h3.2.2.2 k hk
  · rw [e _ (by omega), e _ (by omega), e _ (by omega), e _ (by omega), e _ (by omega), e _ (by omega)]
    exact h4.2 k hk
  · have hq : q ≤ 6 := by rcases h5.1 with ⟨-, z⟩ | ⟨-, z⟩ <;> omega
    refine ⟨by rw [e _ (by omega)]; exact h5.1, fun k hk => ?_⟩
    rw [e _ (by omega), e _ (by omega)]
    exact h5.2 k hk
  · rw [e _ (by omega)]; exact h6
  · rw [e _ (by omega)]; exact h7
  · rw [e _ (by omega)]; exact h8
def cU (h : Nat → Int32) (t : Nat) : Nat → Int32 := fun i => if i = 40 then h (130 + 3 * t) else if i = 41 then h (131 + 3 * t) else if i = 42 then h (132 + 3 * t) else h i
def poU (g : Nat → Int32) (t : Nat) : Nat → Int32 := fun i => if 167 + 6 * t ≤ i ∧ i < 173 + 6 * t then g (19 + (i - (167 + 6 * t))) else g i
noncomputable def plF (n q m N : Nat) (f : Nat → Int32) : Nat → (Nat → Int32) × Nat
  | 0 => (f, 0)
  | t + 1 => (poU (rsS n q m N (cU (plF n q m N f t).1 t)).2 t, (plF n q m N f t).2 + (rsS n q m N (cU (plF n q m N f t).1 t)).1)
theorem cU_n {h : Nat → Int32} {t i : Nat} (hi : ¬ (40 ≤ i ∧ i < 43)) : cU h t i = h i := by unfold cU; rw [if_neg (by omega), if_neg (by omega), if_neg (by omega)]
theorem cU_40 {h : Nat → Int32} {t : Nat} : cU h t 40 = h (130 + 3 * t) := rfl
theorem cU_41 {h : Nat → Int32} {t : Nat} : cU h t 41 = h (131 + 3 * t) := rfl
theorem cU_42 {h : Nat → Int32} {t : Nat} : cU h t 42 = h (132 + 3 * t) := rfl
theorem po_n {g : Nat → Int32} {t i : Nat} (hi : ¬ (167 + 6 * t ≤ i ∧ i < 173 + 6 * t)) : poU g t i = g i := by unfold poU; rw [if_neg hi]
theorem po_y {g : Nat → Int32} {t k : Nat} (hk : k < 6) : poU g t (167 + 6 * t + k) = g (19 + k) := by
  unfold poU; rw [if_pos (by omega), show 167 + 6 * t + k - (167 + 6 * t) = k by omega]
/-- the first t poses are those of now -/
def rPN (c : Nat → Nat → Int32) (f : Nat → Int32) (n t : Nat) : Prop := ∀ k, k < t → ∀ i, i < 6 → (i < n → c 23 (6 * k + i) = f (167 + 6 * k + i)) ∧ (n ≤ i → c 23 (6 * k + i) = 0) ∧ (i < n → inR (f (167 + 6 * k + i)) (-32) 31)
theorem rP6_cU {c c' : Nat → Nat → Int32} {f : Nat → Int32} {n q m tk ps t : Nat} (h : rP6 c f n q m tk ps) (ht : t < tk) (hc : ∀ off j, pAll off j = true → ¬ (off = 9 ∧ (j = 2 ∨ j = 3 ∨ j = 4)) → c' off j = c off j) (c1 : c' 9 2 = f (130 + 3 * t)) (c2 : c' 9 3 = f (131 + 3 * t)) (c3 : c' 9 4 = f (132 + 3 * t)) : rP6 c' (cU f t) n q m tk ps := by
  obtain ⟨hLim, hPin, hSpa, hCro, hBar, hHol, hHan, hGes, hPos⟩ := h
  have hf : ∀ i, i < 239 → ¬ (40 ≤ i ∧ i < 43) → cU f t i = f i := fun i _ h => cU_n h
  obtain ⟨-, -, -, b1, b2, b3⟩ := hGes.2.2.2 t ht
  exact ⟨rLim_congr (hc 1 4 (by decide) (by omega)) (fun k hk => ⟨hc 2 k (pA_6 k hk).1 (by omega), hc 3 k (pA_6 k hk).2.1 (by omega), hc 4 k (pA_6 k hk).2.2.1 (by omega), hc 5 k (pA_6 k hk).2.2.2.1 (by omega)⟩) (fun i hi => hf i (by omega) (by omega)) hLim, rPin_congr (hc 1 5 (by decide) (by omega)) (hc 1 6 (by decide) (by omega)) (hf 25 (by omega) (by omega)) (hf 26 (by omega) (by omega)) (fun k hk => hf (19 + k) (by omega) (by omega)) hPin, rSpa_congr (hc 6 2 (by decide) (by omega)) (fun k hk => ⟨hc 7 k (pA_6 k hk).2.2.2.2.1 (by omega), hc 8 k (pA_6 k hk).2.2.2.2.2.1 (by omega)⟩) (fun i hi hi2 => hf i (by omega) (by omega)) hSpa, ⟨c1, c2, c3, b1, b2, b3⟩, rBar_congr (fun k hk => ⟨hc 10 k (pA_6 k hk).2.2.2.2.2.2.1 (by omega), hc 11 k (pA_6 k hk).2.2.2.2.2.2.2 (by omega)⟩) (fun i hi hi2 => hf i (by omega) (by omega)) hBar, rHol_congr (hc 12 6 (by decide) (by omega)) (fun k hk => ⟨hc 13 k (pA_12 k hk).1 (by omega), hc 14 k (pA_12 k hk).2.1 (by omega), hc 15 k (pA_12 k hk).2.2.1 (by omega), hc 16 k (pA_12 k hk).2.2.2.1 (by omega), hc 17 k (pA_12 k hk).2.2.2.2.1 (by omega), hc 18 k (pA_12 k hk).2.2.2.2.2.1 (by omega)⟩) (fun i hi hi2 => hf i (by omega) (by omega)) hHol, rHan_congr (hc 0 5 (by decide) (by omega)) (hf 128 (by omega) (by omega)) hHan, rGes_congr (hc 19 4 (by decide) (by omega)) (fun k hk => ⟨hc 20 k (pA_12 k hk).2.2.2.2.2.2.1 (by omega), hc 21 k (pA_12 k hk).2.2.2.2.2.2.2.1 (by omega), hc 22 k (pA_12 k hk).2.2.2.2.2.2.2.2 (by omega)⟩) (fun i hi hi2 => hf i (by omega) (by omega)) hGes, rPos_congr (hc 19 5 (by decide) (by omega)) (fun k hk => hc 23 k (pA_72 k hk) (by omega)) (fun i hi hi2 => hf i (by omega) (by omega)) hPos⟩
theorem rP6_po {c c' : Nat → Nat → Int32} {f : Nat → Int32} {n q m tk ps t : Nat} (h : rP6 c f n q m tk ps) (ht : t < 12) (hc : ∀ off j, pAll off j = true → ¬ (off = 23 ∧ 6 * t ≤ j ∧ j < 6 * t + 6) → c' off j = c off j) (c1 : ∀ i, i < 6 → c' 23 (6 * t + i) = if i < n then c 5 i else 0) (hN : rPN c f n t) : rP6 c' (poU f t) n q m tk ps ∧ rPN c' (poU f t) n (t + 1) := by
  obtain ⟨hLim, hPin, hSpa, hCro, hBar, hHol, hHan, hGes, hPos⟩ := h
  have hf : ∀ i, i < 239 → ¬ (167 + 6 * t ≤ i ∧ i < 173 + 6 * t) → poU f t i = f i := fun i _ h => po_n h
  have hrow : ∀ k, k < 12 → (∀ i, i < 6 → (i < n → c 23 (6 * k + i) = f (167 + 6 * k + i)) ∧ (n ≤ i → c 23 (6 * k + i) = 0) ∧ (i < n → inR (f (167 + 6 * k + i)) (-32) 31)) ∨ k = t → ∀ i, i < 6 → (i < n → c' 23 (6 * k + i) = poU f t (167 + 6 * k + i)) ∧ (n ≤ i → c' 23 (6 * k + i) = 0) ∧ (i < n → inR (poU f t (167 + 6 * k + i)) (-32) 31) := by
    intro k hk h i hi
    by_cases e : k = t
    · subst e
      rw [c1 i hi, po_y hi]
      refine ⟨fun g => ?_, fun g => ?_, fun g => ?_⟩
      · rw [if_pos g]; exact (hLim.2.2.2 i g).2.2.2.1
      · rw [if_neg (by omega)]
      · exact (hLim.2.2.2 i g).2.2.2.2.2.2.2
    · rw [hc 23 _ (pA_72 _ (by omega)) (by omega), po_n (by omega)]
      rcases h with h | h
      · exact h i hi
      · exact absurd h e
  refine ⟨⟨rLim_congr (hc 1 4 (by decide) (by omega)) (fun k hk => ⟨hc 2 k (pA_6 k hk).1 (by omega), hc 3 k (pA_6 k hk).2.1 (by omega), hc 4 k (pA_6 k hk).2.2.1 (by omega), hc 5 k (pA_6 k hk).2.2.2.1 (by omega)⟩) (fun i hi => hf i (by omega) (by omega)) hLim, rPin_congr (hc 1 5 (by decide) (by omega)) (hc 1 6 (by decide) (by omega)) (hf 25 (by omega) (by omega)) (hf 26 (by omega) (by omega)) (fun k hk => hf (19 + k) (by omega) (by omega)) hPin, rSpa_congr (hc 6 2 (by decide) (by omega)) (fun k hk => ⟨hc 7 k (pA_6 k hk).2.2.2.2.1 (by omega), hc 8 k (pA_6 k hk).2.2.2.2.2.1 (by omega)⟩) (fun i hi hi2 => hf i (by omega) (by omega)) hSpa, rCro_congr (hc 9 2 (by decide) (by omega)) (hc 9 3 (by decide) (by omega)) (hc 9 4 (by decide) (by omega)) (fun i hi hi2 => hf i (by omega) (by omega)) hCro, rBar_congr (fun k hk => ⟨hc 10 k (pA_6 k hk).2.2.2.2.2.2.1 (by omega), hc 11 k (pA_6 k hk).2.2.2.2.2.2.2 (by omega)⟩) (fun i hi hi2 => hf i (by omega) (by omega)) hBar, rHol_congr (hc 12 6 (by decide) (by omega)) (fun k hk => ⟨hc 13 k (pA_12 k hk).1 (by omega), hc 14 k (pA_12 k hk).2.1 (by omega), hc 15 k (pA_12 k hk).2.2.1 (by omega), hc 16 k (pA_12 k hk).2.2.2.1 (by omega), hc 17 k (pA_12 k hk).2.2.2.2.1 (by omega), hc 18 k (pA_12 k hk).2.2.2.2.2.1 (by omega)⟩) (fun i hi hi2 => hf i (by omega) (by omega)) hHol, rHan_congr (hc 0 5 (by decide) (by omega)) (hf 128 (by omega) (by omega)) hHan, rGes_congr (hc 19 4 (by decide) (by omega)) (fun k hk => ⟨hc 20 k (pA_12 k hk).2.2.2.2.2.2.1 (by omega), hc 21 k (pA_12 k hk).2.2.2.2.2.2.2.1 (by omega), hc 22 k (pA_12 k hk).2.2.2.2.2.2.2.2 (by omega)⟩) (fun i hi hi2 => hf i (by omega) (by omega)) hGes, ?_⟩, ?_⟩
  · obtain ⟨o1, o1', o2, o3, o4⟩ := hPos
    refine ⟨o1, o1', by rw [hc 19 5 (by decide) (by omega)]; exact o2, by rw [po_n (by omega)]; exact o3, fun k hk i hi => ?_⟩
    exact hrow k (by omega) (Or.inl (fun i hi => o4 k hk i hi)) i hi
  · intro k hk i hi
    by_cases e : k = t
    · exact hrow k (by omega) (Or.inr e) i hi
    · exact hrow k (by omega) (Or.inl (fun i hi => hN k (by omega) i hi)) i hi
def kpP (I : Nat → Nat → Int32) (a n1 t k : Nat) : Nat → Nat → Int32 := fun x j => if x = a + 23 ∧ 6 * t ≤ j ∧ j < 6 * t + k then (if j - 6 * t < n1 then I (a + 5) (j - 6 * t) else nI 0) else I x j
def poM (I : Nat → Nat → Int32) (p t k : Nat) : Nat → Nat → Int32 := fun x j => if x = 330 ∧ 239 * p + (167 + 6 * t) ≤ j ∧ j < 239 * p + (167 + 6 * t) + k then I 330 (239 * p + (19 + (j - (239 * p + (167 + 6 * t))))) else I x j
section
variable {Q : mQo} {n : Nat} {I : Nat → Nat → Int32} {L : Nat → Nat → Int64} {a p n1 t k x j : Nat}
theorem kp_y (h : j < k) : kpP I a n1 t k (a + 23) (6 * t + j) = if j < n1 then I (a + 5) j else nI 0 := by
  unfold kpP; rw [if_pos (by omega), show 6 * t + j - 6 * t = j by omega]
theorem kp_n (h : ¬ (x = a + 23 ∧ 6 * t ≤ j ∧ j < 6 * t + k)) : kpP I a n1 t k x j = I x j := by unfold kpP; rw [if_neg h]
theorem kp_s {v : Int32} (hv : v = if k < n1 then I (a + 5) k else nI 0) : mUI (kpP I a n1 t k) (a + 23) (6 * t + k) v = kpP I a n1 t (k + 1) := by
  funext x j
  by_cases hx : x = a + 23 ∧ j = 6 * t + k
  · rw [mUI_yes hx, hx.1, hx.2, kp_y (by omega), hv]
  · rw [mUI_no hx]
    unfold kpP
    by_cases e : x = a + 23 ∧ 6 * t ≤ j ∧ j < 6 * t + k
    · rw [if_pos e, if_pos (show x = a + 23 ∧ 6 * t ≤ j ∧ j < 6 * t + (k + 1) by omega)]
    · rw [if_neg e, if_neg (by omega)]
theorem kp_0 : kpP I a n1 t 0 = I := by funext x j; exact kp_n (by omega)
theorem pm_y (h : j < k) : poM I p t k 330 (239 * p + (167 + 6 * t + j)) = I 330 (239 * p + (19 + j)) := by
  unfold poM; rw [if_pos (by omega), show 239 * p + (167 + 6 * t + j) - (239 * p + (167 + 6 * t)) = j by omega]
theorem pm_n (h : ¬ (x = 330 ∧ 239 * p + (167 + 6 * t) ≤ j ∧ j < 239 * p + (167 + 6 * t) + k)) : poM I p t k x j = I x j := by unfold poM; rw [if_neg h]
theorem pm_s : mUI (poM I p t k) 330 (239 * p + (167 + 6 * t + k)) (I 330 (239 * p + (19 + k))) = poM I p t (k + 1) := by
  funext x j
  by_cases hx : x = 330 ∧ j = 239 * p + (167 + 6 * t + k)
  · rw [mUI_yes hx, hx.1, hx.2, pm_y (by omega)]
  · rw [mUI_no hx]
    unfold poM
    by_cases e : x = 330 ∧ 239 * p + (167 + 6 * t) ≤ j ∧ j < 239 * p + (167 + 6 * t) + k
    · rw [if_pos e, if_pos (by omega)]
    · rw [if_neg e, if_neg (by omega)]
theorem pm_0 : poM I p t 0 = I := by funext x j; exact pm_n (by omega)
theorem l_kpP (ha : sPup (tt n) a) (hn : n1 ≤ 6) (ht : t < 12) (hc : I (a + 1) 4 = nI n1) : ∀ (d k : Nat), k + d = 6 → mWP tb_X2_keepPose Q 2 [some (.ref (a + 19)), some (.int (nI t)), some (.ref (a + 1)), some (.int (nI k))] [] (tt n, kpP I a n1 t k, L) = Q none (tt n, kpP I a n1 t 6, L) := by
  have a0 := ha.1
  obtain ⟨tL, w0, w1, w2, w3⟩ := ha.2.2.1
  obtain ⟨tG, g0, g1, g2, g3⟩ := ha.2.2.2.2.2.2.1
  obtain ⟨-, -, -, ⟨s7, s8⟩, -, -, -, -, -, -, -, -, -, -, -, -, -, ⟨s23, z23⟩⟩ := ha.2.2.2.2.2.2.2
  intro d
  induction d with
  | zero =>
    intro k hk
    have : k = 6 := by omega
    subst this
    simp (disch := omega) only [e_X2_keepPose_0, e_X2_keepPose_1, e_X2_keepPose_2, e_X2_keepPose_3, e_X2_keepPose_5, e_X2_keepPose_9, e_X2_keepPose_12, e_X2_keepPose_14, e_X2_keepPose_15, e_X2_keepPose_16, e_X2_keepPose_17, e_X2_keepPose_18, e_X2_keepPose_19, e_X2_keepPose_19n, e_X2_keepPose_20, e_X2_keepPose_23, e_X2_keepPose_26, e_X2_keepPose_26n, e_X2_keepPose_27, e_X2_keepPose_30, e_X2_keepPose_31, e_X2_keepPose_32, e_X2_keepPose_35, e_X2_keepPose_36, e_X2_keepPose_37, e_X2_keepPose_40, e_X2_keepPose_43, mNl_i, mNl_r, mNl_n, mNl_l, mNl_0, mRV_s, mRV_n, tl_s, tl_n, cs_0, cs_i, cs_r, cs_n, cs_l, Nat.reduceAdd, Nat.reduceLeDiff, true_and, and_true, eq_self_iff_true, if_true, if_false, Nat.lt_irrefl, s_lit, s_eq, s_le, s_lt, nI_add, pk_mul, s_in, s_cl, bI_n, bI_zn, not_true, not_false_eq_true, true_implies, false_implies, Nat.reduceEqDiff, Nat.reduceMul, Classical.not_not, imp_self, implies_true, Nat.le_refl]
  | succ d ih =>
    intro k hk
    rw [e_X2_keepPose_2]
    by_cases h : k < n1
    · simp (disch := omega) only [e_X2_keepPose_0, e_X2_keepPose_1, e_X2_keepPose_3, e_X2_keepPose_5, e_X2_keepPose_8, e_X2_keepPose_8n, e_X2_keepPose_9, e_X2_keepPose_12, e_X2_keepPose_14, e_X2_keepPose_15, e_X2_keepPose_16, e_X2_keepPose_17, e_X2_keepPose_18, e_X2_keepPose_19, e_X2_keepPose_19n, e_X2_keepPose_20, e_X2_keepPose_23, e_X2_keepPose_26, e_X2_keepPose_26n, e_X2_keepPose_27, e_X2_keepPose_30, e_X2_keepPose_31, e_X2_keepPose_32, e_X2_keepPose_35, e_X2_keepPose_36, e_X2_keepPose_37, e_X2_keepPose_40, mNl_i, mNl_r, mNl_n, mNl_l, mNl_0, mRV_s, mRV_n, tl_s, tl_n, cs_0, cs_i, cs_r, cs_n, cs_l, Nat.reduceAdd, Nat.reduceLeDiff, true_and, and_true, eq_self_iff_true, if_true, if_false, Nat.lt_irrefl, s_lit, s_eq, s_le, s_lt, nI_add, pk_mul, s_in, s_cl, bI_n, bI_zn, not_true, not_false_eq_true, true_implies, false_implies, Nat.reduceEqDiff, Nat.reduceMul, Classical.not_not, imp_self, implies_true, tL, w3, tG, g3, s7, s8, s23, z23, kp_n, hc, show (6 ≤ k) = False from eq_false (by omega), show (n1 ≤ k) = False from eq_false (by omega), show k < 6 from by omega, show 6 * t + k < 72 from by omega, show 2 ≤ a + 23 from by omega]
      rw [kp_s (by rw [if_pos h]), ih (k + 1) (by omega)]
    · simp (disch := omega) only [e_X2_keepPose_0, e_X2_keepPose_1, e_X2_keepPose_3, e_X2_keepPose_5, e_X2_keepPose_8, e_X2_keepPose_8n, e_X2_keepPose_9, e_X2_keepPose_12, e_X2_keepPose_14, e_X2_keepPose_15, e_X2_keepPose_16, e_X2_keepPose_17, e_X2_keepPose_18, e_X2_keepPose_19, e_X2_keepPose_19n, e_X2_keepPose_20, e_X2_keepPose_23, e_X2_keepPose_26, e_X2_keepPose_26n, e_X2_keepPose_27, e_X2_keepPose_30, e_X2_keepPose_31, e_X2_keepPose_32, e_X2_keepPose_35, e_X2_keepPose_36, e_X2_keepPose_37, e_X2_keepPose_40, mNl_i, mNl_r, mNl_n, mNl_l, mNl_0, mRV_s, mRV_n, tl_s, tl_n, cs_0, cs_i, cs_r, cs_n, cs_l, Nat.reduceAdd, Nat.reduceLeDiff, true_and, and_true, eq_self_iff_true, if_true, if_false, Nat.lt_irrefl, s_lit, s_eq, s_le, s_lt, nI_add, pk_mul, s_in, s_cl, bI_n, bI_zn, not_true, not_false_eq_true, true_implies, false_implies, Nat.reduceEqDiff, Nat.reduceMul, Classical.not_not, imp_self, implies_true, tL, w3, tG, g3, s7, s8, s23, z23, kp_n, hc, show (6 ≤ k) = False from eq_false (by omega), show (n1 ≤ k) = True from eq_true (by omega), show k < 6 from by omega, show 6 * t + k < 72 from by omega, show 2 ≤ a + 23 from by omega]
      rw [kp_s (by rw [if_neg h]), ih (k + 1) (by omega)]
theorem k_keepP (ha : sPup (tt n) a) (hn : n1 ≤ 6) (ht : t < 12) (hc : I (a + 1) 4 = nI n1) : C_X2_keepPose [.ref (a + 19), .int (nI t), .ref (a + 1)] (tt n, I, L) Q = Q none (tt n, kpP I a n1 t 6, L) := by
  have h := l_kpP (Q := Q) (I := I) (L := L) ha hn ht hc 6 0 (by omega)
  rw [kp_0] at h
  simp (disch := omega) only [c_X2_keepPose, e_X2_keepPose_0, e_X2_keepPose_1, mNl_i, mNl_r, mNl_n, mNl_l, mNl_0, mRV_s, mRV_n, tl_s, tl_n, cs_0, cs_i, cs_r, cs_n, cs_l, Nat.reduceAdd, Nat.reduceLeDiff, true_and, and_true, eq_self_iff_true, if_true, if_false, Nat.lt_irrefl, s_lit, s_eq, s_le, s_lt, nI_add, pk_mul, s_in, s_cl, bI_n, bI_zn, not_true, not_false_eq_true, true_implies, false_implies, Nat.reduceEqDiff, Nat.reduceMul, Classical.not_not, imp_self, implies_true, h]
theorem l_poM {a2 a3 : Option Value} (hp : p < 2) (ht : t < 12) : ∀ (d k : Nat), k + d = 6 → mWP tb_X11_play Q 127 [some (.ref 329), some (.int (nI p)), a2, a3, some (.int (nI t)), some (.int (nI k))] [] (tt n, poM I p t k, L) = mWP tb_X11_play Q 167 [some (.ref 329), some (.int (nI p)), a2, a3, some (.int (nI t)), some (.int (nI 6))] [] (tt n, poM I p t 6, L) := by
  intro d
  induction d with
  | zero =>
    intro k hk
    have : k = 6 := by omega
    subst this
    simp (disch := omega) only [e_X11_play_127, e_X11_play_129, e_X11_play_131, mNl_i, mNl_r, mNl_n, mNl_l, mNl_0, mRV_s, mRV_n, tl_s, tl_n, cs_0, cs_i, cs_r, cs_n, cs_l, Nat.reduceAdd, Nat.reduceLeDiff, true_and, and_true, eq_self_iff_true, if_true, if_false, Nat.lt_irrefl, s_lit, s_eq, s_le, s_lt, nI_add, pk_mul, s_in, s_cl, bI_n, bI_zn, not_true, not_false_eq_true, true_implies, false_implies, Nat.reduceEqDiff, Nat.reduceMul, Classical.not_not, imp_self, implies_true, Nat.le_refl]
  | succ d ih =>
    intro k hk
    rw [e_X11_play_127]
    simp (disch := omega) only [e_X11_play_0, e_X11_play_1, e_X11_play_4, e_X11_play_7, e_X11_play_8, e_X11_play_9, e_X11_play_11, e_X11_play_14, e_X11_play_17, e_X11_play_20, e_X11_play_21, e_X11_play_21n, e_X11_play_22, e_X11_play_23, e_X11_play_26, e_X11_play_29, e_X11_play_32, e_X11_play_32n, e_X11_play_33, e_X11_play_34, e_X11_play_35, e_X11_play_38, e_X11_play_41, e_X11_play_44, e_X11_play_45, e_X11_play_45n, e_X11_play_46, e_X11_play_49, e_X11_play_50, e_X11_play_51, e_X11_play_52, e_X11_play_54, e_X11_play_56, e_X11_play_56n, e_X11_play_57, e_X11_play_58, e_X11_play_61, e_X11_play_64, e_X11_play_67, e_X11_play_67n, e_X11_play_68, e_X11_play_69, e_X11_play_69n, e_X11_play_70, e_X11_play_71, e_X11_play_74, e_X11_play_75, e_X11_play_77, e_X11_play_78, e_X11_play_79, e_X11_play_82, e_X11_play_82n, e_X11_play_83, e_X11_play_84, e_X11_play_87, e_X11_play_88, e_X11_play_90, e_X11_play_91, e_X11_play_92, e_X11_play_93, e_X11_play_94, e_X11_play_97, e_X11_play_97n, e_X11_play_98, e_X11_play_99, e_X11_play_102, e_X11_play_103, e_X11_play_105, e_X11_play_106, e_X11_play_107, e_X11_play_108, e_X11_play_109, e_X11_play_112, e_X11_play_115, e_X11_play_116, e_X11_play_116n, e_X11_play_117, e_X11_play_118, e_X11_play_119, e_X11_play_122, e_X11_play_123, e_X11_play_124, e_X11_play_125, e_X11_play_129, e_X11_play_131, e_X11_play_134, e_X11_play_134n, e_X11_play_135, e_X11_play_136, e_X11_play_139, e_X11_play_141, e_X11_play_143, e_X11_play_144, e_X11_play_145, e_X11_play_147, e_X11_play_148, e_X11_play_148n, e_X11_play_149, e_X11_play_150, e_X11_play_152, e_X11_play_154, e_X11_play_155, e_X11_play_158, e_X11_play_161, e_X11_play_164, e_X11_play_170, e_X11_play_173, e_X11_play_173n, e_X11_play_174, e_X11_play_175, e_X11_play_178, e_X11_play_178n, e_X11_play_179, e_X11_play_180, e_X11_play_183, e_X11_play_186, e_X11_play_189, e_X11_play_190, e_X11_play_191, mNl_i, mNl_r, mNl_n, mNl_l, mNl_0, mRV_s, mRV_n, tl_s, tl_n, cs_0, cs_i, cs_r, cs_n, cs_l, Nat.reduceAdd, Nat.reduceLeDiff, true_and, and_true, eq_self_iff_true, if_true, if_false, Nat.lt_irrefl, s_lit, s_eq, s_le, s_lt, nI_add, pk_mul, s_in, s_cl, bI_n, bI_zn, not_true, not_false_eq_true, true_implies, false_implies, Nat.reduceEqDiff, Nat.reduceMul, Classical.not_not, imp_self, implies_true, tt_z, tg_329, k_get, k_put, pm_n, show (6 ≤ k) = False from eq_false (by omega)]
    rw [pm_s, ih (k + 1) (by omega)]
end
def FP (a : Nat) (I I' : Nat → Nat → Int32) : Prop := ∀ x j, ¬ (x = a + 5 ∧ j < 6) → ¬ (x = a + 9 ∧ (j = 2 ∨ j = 3 ∨ j = 4)) → ¬ (x = a + 23 ∧ j < 72) → ¬ (315 < x ∧ x ≤ 324) → I' x j = I x j
def FPm (p : Nat) (I I' : Nat → Nat → Int32) : Prop := ∀ x j, ¬ (x = 330 ∧ 239 * p ≤ j ∧ j < 239 * p + 239) → x ≠ 337 → I' x j = I x j
section
variable {Q : mQo} {n : Nat} {f : Nat → Int32} {a p n1 q m tk ps N : Nat}
theorem l_plC {I0 : Nat → Nat → Int32} {L0 : Nat → Nat → Int64} (ha : sPup (tt n) a) (hd : a + 24 ≤ 51) (hN : N ≤ 100) : ∀ (d t : Nat) (I1 : Nat → Nat → Int32) (L1 : Nat → Nat → Int64), t + d = tk → FP a I0 I1 → (∀ x j, x ≠ 315 → L1 x j = L0 x j) → rSin I1 → rP6 (blk I1 a) (plF n1 q m N f t).1 n1 q m tk ps → rPN (blk I1 a) (plF n1 q m N f t).1 n1 t → (plF n1 q m N f t).2 ≤ 100 * t → (∀ I2 L2, FP a I0 I2 → (∀ x j, x ≠ 315 → L2 x j = L0 x j) → rP6 (blk I2 a) (plF n1 q m N f tk).1 n1 q m tk ps → rPN (blk I2 a) (plF n1 q m N f tk).1 n1 tk → Q (some (.long (i6 (plF n1 q m N f tk).2))) (tt n, mUI I2 (a + 19) 5 (nI tk), L2)) → mWP tb_X10_play Q 69 [some (.ref 2), some (.int (nI p)), some (.int (nI N)), some (.ref a), some (.long (i6 (plF n1 q m N f t).2)), none, some (.int (nI t))] [] (tt n, I1, L1) := by
  have a0 := ha.1
  obtain ⟨t1, r0, r1, r2, r3, r4⟩ := ha.2.1
  obtain ⟨tL, w0, w1, w2, w3⟩ := ha.2.2.1
  have tC := ha.2.2.2.2.1.1
  obtain ⟨tG, g0, g1, g2, g3⟩ := ha.2.2.2.2.2.2.1
  obtain ⟨-, -, -, -, -, -, -, -, -, -, -, -, -, -, ⟨s20, z20⟩, ⟨s21, z21⟩, ⟨s22, z22⟩, -⟩ := ha.2.2.2.2.2.2.2
  intro d
  induction d with
  | zero =>
    intro t I1 L1 ht hF hL hs h6 hP hc h
    have : t = tk := by omega
    subst this
    have hk : t ≤ 12 := h6.2.2.2.2.2.2.2.1.1
    have v7 : I1 (a + 19) 4 = nI t := h6.2.2.2.2.2.2.2.1.2.1
    simp (disch := omega) only [e_X10_play_0, e_X10_play_0n, e_X10_play_1, e_X10_play_2, e_X10_play_5, e_X10_play_5n, e_X10_play_6, e_X10_play_6n, e_X10_play_7, e_X10_play_7n, e_X10_play_10, e_X10_play_11, e_X10_play_12, e_X10_play_14, e_X10_play_17, e_X10_play_20, e_X10_play_23, e_X10_play_24, e_X10_play_24n, e_X10_play_25, e_X10_play_28, e_X10_play_31, e_X10_play_34, e_X10_play_34n, e_X10_play_35, e_X10_play_38, e_X10_play_41, e_X10_play_44, e_X10_play_47, e_X10_play_48, e_X10_play_48n, e_X10_play_49, e_X10_play_52, e_X10_play_52n, e_X10_play_53, e_X10_play_56, e_X10_play_56n, e_X10_play_57, e_X10_play_60, e_X10_play_63, e_X10_play_64, e_X10_play_66, e_X10_play_67, e_X10_play_69, e_X10_play_71, e_X10_play_71n, e_X10_play_72, e_X10_play_75, e_X10_play_78, e_X10_play_82, e_X10_play_85, e_X10_play_85n, e_X10_play_86, e_X10_play_89, e_X10_play_92, e_X10_play_94, e_X10_play_95, e_X10_play_95n, e_X10_play_96, e_X10_play_99, e_X10_play_102, e_X10_play_104, e_X10_play_105, e_X10_play_105n, e_X10_play_106, e_X10_play_109, e_X10_play_112, e_X10_play_114, e_X10_play_115, e_X10_play_118, e_X10_play_120, e_X10_play_120n, e_X10_play_121, e_X10_play_124, e_X10_play_124n, e_X10_play_125, e_X10_play_126, e_X10_play_129, e_X10_play_130, e_X10_play_131, e_X10_play_133, e_X10_play_133n, e_X10_play_134, e_X10_play_137, e_X10_play_139, e_X10_play_139n, e_X10_play_140, e_X10_play_143, e_X10_play_146, e_X10_play_149, e_X10_play_152, e_X10_play_152n, e_X10_play_153, e_X10_play_156, e_X10_play_156n, e_X10_play_157, e_X10_play_160, e_X10_play_163, e_X10_play_166, e_X10_play_168, mNl_i, mNl_r, mNl_n, mNl_l, mNl_0, mRV_s, mRV_n, tl_s, tl_n, cs_0, cs_i, cs_r, cs_n, cs_l, Nat.reduceAdd, Nat.reduceLeDiff, true_and, and_true, eq_self_iff_true, if_true, if_false, Nat.lt_irrefl, s_lit, s_eq, s_le, s_lt, nI_add, pk_mul, s_in, s_cl, bI_n, bI_zn, not_true, not_false_eq_true, true_implies, false_implies, Nat.reduceEqDiff, Nat.reduceMul, Classical.not_not, imp_self, implies_true, t1, r4, tG, v7, Nat.le_refl]
    exact h I1 L1 hF hL h6 hP
  | succ d ih =>
    intro t I1 L1 ht hF hL hs h6 hP hc h
    have hk : tk ≤ 12 := h6.2.2.2.2.2.2.2.1.1
    have hn : n1 ≤ 6 := h6.1.1
    have v7 : I1 (a + 19) 4 = nI tk := h6.2.2.2.2.2.2.2.1.2.1
    obtain ⟨c1, c2, c3, -⟩ := h6.2.2.2.2.2.2.2.1.2.2.2 t (by omega)
    generalize hh : (plF n1 q m N f t).1 = h0 at h6 hP c1 c2 c3
    have c1 : I1 (a + 20) t = h0 (130 + 3 * t) := c1
    have c2 : I1 (a + 21) t = h0 (131 + 3 * t) := c2
    have c3 : I1 (a + 22) t = h0 (132 + 3 * t) := c3
    rw [e_X10_play_69]
    simp (disch := omega) only [e_X10_play_0, e_X10_play_0n, e_X10_play_1, e_X10_play_2, e_X10_play_5, e_X10_play_5n, e_X10_play_6, e_X10_play_6n, e_X10_play_7, e_X10_play_7n, e_X10_play_10, e_X10_play_11, e_X10_play_12, e_X10_play_14, e_X10_play_17, e_X10_play_20, e_X10_play_23, e_X10_play_24, e_X10_play_24n, e_X10_play_25, e_X10_play_28, e_X10_play_31, e_X10_play_34, e_X10_play_34n, e_X10_play_35, e_X10_play_38, e_X10_play_41, e_X10_play_44, e_X10_play_47, e_X10_play_48, e_X10_play_48n, e_X10_play_49, e_X10_play_52, e_X10_play_52n, e_X10_play_53, e_X10_play_56, e_X10_play_56n, e_X10_play_57, e_X10_play_60, e_X10_play_63, e_X10_play_64, e_X10_play_66, e_X10_play_67, e_X10_play_71, e_X10_play_71n, e_X10_play_72, e_X10_play_75, e_X10_play_78, e_X10_play_81, e_X10_play_81n, e_X10_play_82, e_X10_play_85, e_X10_play_85n, e_X10_play_86, e_X10_play_89, e_X10_play_92, e_X10_play_94, e_X10_play_95, e_X10_play_95n, e_X10_play_96, e_X10_play_99, e_X10_play_102, e_X10_play_104, e_X10_play_105, e_X10_play_105n, e_X10_play_106, e_X10_play_109, e_X10_play_112, e_X10_play_114, e_X10_play_115, e_X10_play_118, e_X10_play_120, e_X10_play_120n, e_X10_play_121, e_X10_play_124, e_X10_play_124n, e_X10_play_125, e_X10_play_126, e_X10_play_129, e_X10_play_130, e_X10_play_131, e_X10_play_133, e_X10_play_133n, e_X10_play_134, e_X10_play_137, e_X10_play_139, e_X10_play_139n, e_X10_play_140, e_X10_play_143, e_X10_play_146, e_X10_play_149, e_X10_play_153, e_X10_play_156, e_X10_play_156n, e_X10_play_157, e_X10_play_160, e_X10_play_163, e_X10_play_166, e_X10_play_168, c_X0_put, e_X0_put_0, e_X0_put_0n, e_X0_put_1, e_X0_put_2, e_X0_put_5, e_X0_put_5n, e_X0_put_6, e_X0_put_7, e_X0_put_10, e_X0_put_10n, e_X0_put_11, e_X0_put_12, e_X0_put_15, mNl_i, mNl_r, mNl_n, mNl_l, mNl_0, mRV_s, mRV_n, tl_s, tl_n, cs_0, cs_i, cs_r, cs_n, cs_l, Nat.reduceAdd, Nat.reduceLeDiff, true_and, and_true, eq_self_iff_true, if_true, if_false, Nat.lt_irrefl, s_lit, s_eq, s_le, s_lt, nI_add, pk_mul, s_in, s_cl, bI_n, bI_zn, not_true, not_false_eq_true, true_implies, false_implies, Nat.reduceEqDiff, Nat.reduceMul, Classical.not_not, imp_self, implies_true, tt_z, tg_2, rf_2_0, rf_2_1, rf_2_2, rf_2_3, rf_2_4, rf_2_5, rf_2_6, rf_2_7, rf_2_8, rf_2_9, tg_314, t1, r0, r2, r4, tC, tG, g0, g1, g2, s20, z20, s21, z21, s22, z22, v7, c1, c2, c3, show (tk ≤ t) = False from eq_false (by omega), show t < 12 from by omega]
    generalize hI2 : mUI (mUI (mUI I1 (a + 9) 2 (h0 (130 + 3 * t))) (a + 9) 3 (h0 (131 + 3 * t))) (a + 9) 4 (h0 (132 + 3 * t)) = I2
    have i2 : ∀ x j, ¬ (x = a + 9 ∧ (j = 2 ∨ j = 3 ∨ j = 4)) → I2 x j = I1 x j := fun x j g => by rw [← hI2, mUI_no (by omega), mUI_no (by omega), mUI_no (by omega)]
    have hs2 : rSin I2 := fun j hj => by rw [i2 _ _ (by omega), i2 _ _ (by omega)]; exact hs j hj
    have h62 : rP6 (blk I2 a) (cU h0 t) n1 q m tk ps := rP6_cU h6 (by omega) (fun off j hq hne => i2 _ _ (by omega)) (by show I2 (a + 9) 2 = _; rw [← hI2, mUI_no (by omega), mUI_no (by omega), mUI_yes ⟨rfl, rfl⟩]) (by show I2 (a + 9) 3 = _; rw [← hI2, mUI_no (by omega), mUI_yes ⟨rfl, rfl⟩]) (by show I2 (a + 9) 4 = _; rw [← hI2, mUI_yes ⟨rfl, rfl⟩])
    refine s_settle ha (by omega) (by omega) hs2 h62 (fun I3 L3 hF3 hs3 h63 => ?_)
    have v1 : I3 (a + 1) 4 = nI n1 := h63.1.2.1
    have hle := rsS_le (n1 := n1) (q := q) (m := m) N (cU h0 t)
    have ec : (plF n1 q m N f (t + 1)).2 = (plF n1 q m N f t).2 + (rsS n1 q m N (cU h0 t)).1 := by rw [← hh]; rfl
    have ef : (plF n1 q m N f (t + 1)).1 = poU (rsS n1 q m N (cU h0 t)).2 t := by rw [← hh]; rfl
    simp (disch := omega) only [e_X10_play_0, e_X10_play_0n, e_X10_play_1, e_X10_play_2, e_X10_play_5, e_X10_play_5n, e_X10_play_6, e_X10_play_6n, e_X10_play_7, e_X10_play_7n, e_X10_play_10, e_X10_play_11, e_X10_play_12, e_X10_play_14, e_X10_play_17, e_X10_play_20, e_X10_play_23, e_X10_play_24, e_X10_play_24n, e_X10_play_25, e_X10_play_28, e_X10_play_31, e_X10_play_34, e_X10_play_34n, e_X10_play_35, e_X10_play_38, e_X10_play_41, e_X10_play_44, e_X10_play_47, e_X10_play_48, e_X10_play_48n, e_X10_play_49, e_X10_play_52, e_X10_play_52n, e_X10_play_53, e_X10_play_56, e_X10_play_56n, e_X10_play_57, e_X10_play_60, e_X10_play_63, e_X10_play_64, e_X10_play_66, e_X10_play_67, e_X10_play_71, e_X10_play_71n, e_X10_play_72, e_X10_play_75, e_X10_play_78, e_X10_play_81, e_X10_play_81n, e_X10_play_82, e_X10_play_85, e_X10_play_85n, e_X10_play_86, e_X10_play_89, e_X10_play_92, e_X10_play_94, e_X10_play_95, e_X10_play_95n, e_X10_play_96, e_X10_play_99, e_X10_play_102, e_X10_play_104, e_X10_play_105, e_X10_play_105n, e_X10_play_106, e_X10_play_109, e_X10_play_112, e_X10_play_114, e_X10_play_115, e_X10_play_118, e_X10_play_120, e_X10_play_120n, e_X10_play_121, e_X10_play_124, e_X10_play_124n, e_X10_play_125, e_X10_play_126, e_X10_play_129, e_X10_play_130, e_X10_play_131, e_X10_play_133, e_X10_play_133n, e_X10_play_134, e_X10_play_137, e_X10_play_139, e_X10_play_139n, e_X10_play_140, e_X10_play_143, e_X10_play_146, e_X10_play_149, e_X10_play_153, e_X10_play_156, e_X10_play_156n, e_X10_play_157, e_X10_play_160, e_X10_play_163, e_X10_play_166, e_X10_play_168, mNl_i, mNl_r, mNl_n, mNl_l, mNl_0, mRV_s, mRV_n, tl_s, tl_n, cs_0, cs_i, cs_r, cs_n, cs_l, Nat.reduceAdd, Nat.reduceLeDiff, true_and, and_true, eq_self_iff_true, if_true, if_false, Nat.lt_irrefl, s_lit, s_eq, s_le, s_lt, nI_add, pk_mul, s_in, s_cl, bI_n, bI_zn, not_true, not_false_eq_true, true_implies, false_implies, Nat.reduceEqDiff, Nat.reduceMul, Classical.not_not, imp_self, implies_true, tt_z, tg_2, rf_2_0, rf_2_1, rf_2_2, rf_2_3, rf_2_4, rf_2_5, rf_2_6, rf_2_7, rf_2_8, rf_2_9, t1, r0, r4, tL, tG, k_keepP ha hn (show t < 12 by omega) v1, nI_l6, i6_add]
    have hP3 : rPN (blk I3 a) (rsS n1 q m N (cU h0 t)).2 n1 t := fun k hk i hi => by
      have e : blk I3 a 23 (6 * k + i) = blk I1 a 23 (6 * k + i) := by
        show I3 (a + 23) _ = I1 (a + 23) _
        rw [hF3.1 _ _ (by omega) (by omega), i2 _ _ (by omega)]
      rw [e, rs_fr (by omega) hn, cU_n (by omega)]
      exact hP k hk i hi
    obtain ⟨p6, pN⟩ := rP6_po (c' := blk (kpP I3 a n1 t 6) a) h63 (show t < 12 by omega) (fun off j hq hne => kp_n (by omega)) (fun i hi => kp_y hi) hP3
    have e2 : ((plF n1 q m N f t).2 : Int) + ((rsS n1 q m N (cU h0 t)).1 : Int) = ((plF n1 q m N f (t + 1)).2 : Int) := by rw [ec]; omega
    rw [e2]
    refine ih (t + 1) _ _ (by omega) (fun x j q1 q2 q3 q4 => ?_) (fun x j hx => ?_) (fun j hj => ?_) (by rw [ef]; exact p6) (by rw [ef]; exact pN) (by rw [ec]; omega) h
    · rw [kp_n (by omega), hF3.1 _ _ q1 q4, i2 _ _ q2, hF _ _ q1 q2 q3 q4]
    · rw [hF3.2 _ _ (by omega), hL _ _ hx]
    · rw [kp_n (by omega), kp_n (by omega)]; exact hs3 j hj
theorem l_plM {I0 : Nat → Nat → Int32} {L0 : Nat → Nat → Int64} (hp : p < 2) (hN : N ≤ 100) (hk : tk ≤ 12) : ∀ (d t : Nat) (I1 : Nat → Nat → Int32) (L1 : Nat → Nat → Int64) (a5 : Option Value), t + d = tk → FPm p I0 I1 → (∀ u j, ¬ (333 ≤ u ∧ u ≤ 336) → ¬ (u = 329 ∧ (j = 10 ∨ j = 11)) → L1 u j = L0 u j) → SN I1 p (plF n1 q m N f t).1 n1 q m → (∀ t, t ≤ tk → (plF n1 q m N f t).1 129 = nI tk ∧ ∀ s, s < tk → inR ((plF n1 q m N f t).1 (130 + 3 * s)) (-300) 300 ∧ inR ((plF n1 q m N f t).1 (131 + 3 * s)) (-300) 300 ∧ inR ((plF n1 q m N f t).1 (132 + 3 * s)) (-32) 31) → (∀ I2 L2, FPm p I0 I2 → (∀ u j, ¬ (333 ≤ u ∧ u ≤ 336) → ¬ (u = 329 ∧ (j = 10 ∨ j = 11)) → L2 u j = L0 u j) → SN I2 p (plF n1 q m N f tk).1 n1 q m → Q (some (.long (nI (plF n1 q m N f tk).2).toInt64)) (tt n, mUI I2 330 (239 * p + 166) (nI tk), L2)) → mWP tb_X11_play Q 54 [some (.ref 329), some (.int (nI p)), some (.int (nI N)), some (.int (nI (plF n1 q m N f t).2)), some (.int (nI t)), a5] [] (tt n, I1, L1) := by
  intro d
  induction d with
  | zero =>
    intro t I1 L1 a5 ht hF hL hS hG h
    have : t = tk := by omega
    subst this
    have v7 : I1 330 (239 * p + 129) = nI t := by rw [hS.2.1 _ (by omega)]; exact (hG t (by omega)).1
    simp (disch := omega) only [e_X11_play_0, e_X11_play_1, e_X11_play_4, e_X11_play_7, e_X11_play_8, e_X11_play_9, e_X11_play_11, e_X11_play_14, e_X11_play_17, e_X11_play_20, e_X11_play_21, e_X11_play_21n, e_X11_play_22, e_X11_play_23, e_X11_play_26, e_X11_play_29, e_X11_play_32, e_X11_play_32n, e_X11_play_33, e_X11_play_34, e_X11_play_35, e_X11_play_38, e_X11_play_41, e_X11_play_44, e_X11_play_45, e_X11_play_45n, e_X11_play_46, e_X11_play_49, e_X11_play_50, e_X11_play_51, e_X11_play_52, e_X11_play_54, e_X11_play_56, e_X11_play_56n, e_X11_play_57, e_X11_play_58, e_X11_play_61, e_X11_play_64, e_X11_play_68, e_X11_play_69, e_X11_play_69n, e_X11_play_70, e_X11_play_71, e_X11_play_74, e_X11_play_75, e_X11_play_77, e_X11_play_78, e_X11_play_79, e_X11_play_82, e_X11_play_82n, e_X11_play_83, e_X11_play_84, e_X11_play_87, e_X11_play_88, e_X11_play_90, e_X11_play_91, e_X11_play_92, e_X11_play_93, e_X11_play_94, e_X11_play_97, e_X11_play_97n, e_X11_play_98, e_X11_play_99, e_X11_play_102, e_X11_play_103, e_X11_play_105, e_X11_play_106, e_X11_play_107, e_X11_play_108, e_X11_play_109, e_X11_play_112, e_X11_play_115, e_X11_play_116, e_X11_play_116n, e_X11_play_117, e_X11_play_118, e_X11_play_119, e_X11_play_122, e_X11_play_123, e_X11_play_124, e_X11_play_125, e_X11_play_127, e_X11_play_129, e_X11_play_131, e_X11_play_134, e_X11_play_134n, e_X11_play_135, e_X11_play_136, e_X11_play_139, e_X11_play_141, e_X11_play_143, e_X11_play_144, e_X11_play_145, e_X11_play_147, e_X11_play_148, e_X11_play_148n, e_X11_play_149, e_X11_play_150, e_X11_play_152, e_X11_play_154, e_X11_play_155, e_X11_play_158, e_X11_play_161, e_X11_play_164, e_X11_play_167, e_X11_play_170, e_X11_play_173, e_X11_play_173n, e_X11_play_174, e_X11_play_175, e_X11_play_178, e_X11_play_178n, e_X11_play_179, e_X11_play_180, e_X11_play_183, e_X11_play_186, e_X11_play_189, e_X11_play_190, e_X11_play_191, mNl_i, mNl_r, mNl_n, mNl_l, mNl_0, mRV_s, mRV_n, tl_s, tl_n, cs_0, cs_i, cs_r, cs_n, cs_l, Nat.reduceAdd, Nat.reduceLeDiff, true_and, and_true, eq_self_iff_true, if_true, if_false, Nat.lt_irrefl, s_lit, s_eq, s_le, s_lt, nI_add, pk_mul, s_in, s_cl, bI_n, bI_zn, not_true, not_false_eq_true, true_implies, false_implies, Nat.reduceEqDiff, Nat.reduceMul, Classical.not_not, imp_self, implies_true, tt_z, tg_329, k_get, k_put, v7, Nat.le_refl]
    exact h I1 L1 hF hL hS
  | succ d ih =>
    intro t I1 L1 a5 ht hF hL hS hG h
    have v7 : I1 330 (239 * p + 129) = nI tk := by rw [hS.2.1 _ (by omega)]; exact (hG t (by omega)).1
    obtain ⟨b1, b2, b3⟩ := (hG t (by omega)).2 t (by omega)
    generalize hh : (plF n1 q m N f t).1 = h0 at hS b1 b2 b3
    obtain ⟨hs, hI, hV⟩ := hS
    have hn : n1 ≤ 6 := hV.1.1.1
    have c1 : I1 330 (239 * p + (130 + 3 * t)) = h0 (130 + 3 * t) := hI _ (by omega)
    have c2 : I1 330 (239 * p + (130 + 3 * t + 1)) = h0 (131 + 3 * t) := by rw [show 130 + 3 * t + 1 = 131 + 3 * t by omega]; exact hI _ (by omega)
    have c3 : I1 330 (239 * p + (130 + 3 * t + 2)) = h0 (132 + 3 * t) := by rw [show 130 + 3 * t + 2 = 132 + 3 * t by omega]; exact hI _ (by omega)
    rw [e_X11_play_54]
    simp (disch := omega) only [e_X11_play_0, e_X11_play_1, e_X11_play_4, e_X11_play_7, e_X11_play_8, e_X11_play_9, e_X11_play_11, e_X11_play_14, e_X11_play_17, e_X11_play_20, e_X11_play_21, e_X11_play_21n, e_X11_play_22, e_X11_play_23, e_X11_play_26, e_X11_play_29, e_X11_play_32, e_X11_play_32n, e_X11_play_33, e_X11_play_34, e_X11_play_35, e_X11_play_38, e_X11_play_41, e_X11_play_44, e_X11_play_45, e_X11_play_45n, e_X11_play_46, e_X11_play_49, e_X11_play_50, e_X11_play_51, e_X11_play_52, e_X11_play_56, e_X11_play_56n, e_X11_play_57, e_X11_play_58, e_X11_play_61, e_X11_play_64, e_X11_play_67, e_X11_play_67n, e_X11_play_68, e_X11_play_69, e_X11_play_69n, e_X11_play_70, e_X11_play_71, e_X11_play_74, e_X11_play_75, e_X11_play_77, e_X11_play_78, e_X11_play_79, e_X11_play_82, e_X11_play_82n, e_X11_play_83, e_X11_play_84, e_X11_play_87, e_X11_play_88, e_X11_play_90, e_X11_play_91, e_X11_play_92, e_X11_play_93, e_X11_play_94, e_X11_play_97, e_X11_play_97n, e_X11_play_98, e_X11_play_99, e_X11_play_102, e_X11_play_103, e_X11_play_105, e_X11_play_106, e_X11_play_107, e_X11_play_108, e_X11_play_109, e_X11_play_112, e_X11_play_115, e_X11_play_116, e_X11_play_116n, e_X11_play_117, e_X11_play_118, e_X11_play_119, e_X11_play_122, e_X11_play_123, e_X11_play_124, e_X11_play_125, e_X11_play_129, e_X11_play_131, e_X11_play_134, e_X11_play_134n, e_X11_play_135, e_X11_play_136, e_X11_play_139, e_X11_play_141, e_X11_play_143, e_X11_play_144, e_X11_play_145, e_X11_play_147, e_X11_play_148, e_X11_play_148n, e_X11_play_149, e_X11_play_150, e_X11_play_152, e_X11_play_154, e_X11_play_155, e_X11_play_158, e_X11_play_161, e_X11_play_164, e_X11_play_167, e_X11_play_170, e_X11_play_174, e_X11_play_175, e_X11_play_178, e_X11_play_178n, e_X11_play_179, e_X11_play_180, e_X11_play_183, e_X11_play_186, e_X11_play_189, e_X11_play_190, e_X11_play_191, c_X11_setCross, e_X11_setCross_0, e_X11_setCross_0n, e_X11_setCross_1, e_X11_setCross_2, e_X11_setCross_4, e_X11_setCross_5, e_X11_setCross_8, e_X11_setCross_8n, e_X11_setCross_9, e_X11_setCross_10, e_X11_setCross_12, e_X11_setCross_13, e_X11_setCross_16, e_X11_setCross_16n, e_X11_setCross_17, e_X11_setCross_18, e_X11_setCross_20, e_X11_setCross_22, e_X11_setCross_25, mNl_i, mNl_r, mNl_n, mNl_l, mNl_0, mRV_s, mRV_n, tl_s, tl_n, cs_0, cs_i, cs_r, cs_n, cs_l, Nat.reduceAdd, Nat.reduceLeDiff, true_and, and_true, eq_self_iff_true, if_true, if_false, Nat.lt_irrefl, s_lit, s_eq, s_le, s_lt, nI_add, pk_mul, s_in, s_cl, bI_n, bI_zn, not_true, not_false_eq_true, true_implies, false_implies, Nat.reduceEqDiff, Nat.reduceMul, Classical.not_not, imp_self, implies_true, tt_z, tg_329, k_get, k_put, v7, c1, c2, c3, show (tk ≤ t) = False from eq_false (by omega)]
    generalize hI2 : mUI (mUI (mUI I1 330 (239 * p + 40) (h0 (130 + 3 * t))) 330 (239 * p + 41) (h0 (131 + 3 * t))) 330 (239 * p + 42) (h0 (132 + 3 * t)) = I2
    have i2 : ∀ x j, ¬ (x = 330 ∧ 239 * p + 40 ≤ j ∧ j < 239 * p + 43) → I2 x j = I1 x j := fun x j g => by rw [← hI2, mUI_no (by omega), mUI_no (by omega), mUI_no (by omega)]
    have hs2 : rSin I2 := fun j hj => by rw [i2 _ _ (by omega), i2 _ _ (by omega)]; exact hs j hj
    have hI2' : isF I2 p (cU h0 t) := fun u hu => by
      by_cases e1 : 40 ≤ u ∧ u < 43
      · rcases (show u = 40 ∨ u = 41 ∨ u = 42 by omega) with rfl | rfl | rfl
        · rw [← hI2, mUI_no (by omega), mUI_no (by omega), mUI_yes ⟨rfl, rfl⟩, cU_40]
        · rw [← hI2, mUI_no (by omega), mUI_yes ⟨rfl, rfl⟩, cU_41]
        · rw [← hI2, mUI_yes ⟨rfl, rfl⟩, cU_42]
      · rw [i2 _ _ (by omega), cU_n e1]; exact hI u hu
    have hV2 : fInv (cU h0 t) n1 q m := by
      obtain ⟨⟨h1, h2, h3, h4⟩, h5, h6, h7, h8⟩ := hV
      have hm := h4.1
      refine ⟨⟨⟨hn, fun k hk => ?_⟩, ?_, ?_, ⟨hm, fun k hk => ?_⟩⟩, ?_, ?_, ?_, ?_⟩
      · rw [cU_n (by omega), cU_n (by omega), cU_n (by omega), cU_n (by omega)]
        exact h1.2 k hk
      · unfold fPin; rw [cU_n (by omega), cU_n (by omega)]; exact h2
      · unfold fCro
        rw [cU_40, cU_41, cU_42]
        refine ⟨b1, b2, b3, fun k hk => ?_⟩
        rw [cU_n (by omega), cU_n (by omega)]
        exact h3.2.2.2 k hk
      · rw [cU_n (by omega), cU_n (by omega), cU_n (by omega), cU_n (by omega), cU_n (by omega), cU_n (by omega)]
        exact h4.2 k hk
      · have hq : q ≤ 6 := by rcases h5.1 with ⟨-, z⟩ | ⟨-, z⟩ <;> omega
        refine ⟨by rw [cU_n (by omega)]; exact h5.1, fun k hk => ?_⟩
        rw [cU_n (by omega), cU_n (by omega)]
        exact h5.2 k hk
      · rw [cU_n (by omega)]; exact h6
      · rw [cU_n (by omega)]; exact h7
      · rw [cU_n (by omega)]; exact h8
    refine s_restM hp (by omega) ⟨hs2, hI2', hV2⟩ (fun I3 L3 hF3 hS3 => ?_)
    have ec : (plF n1 q m N f (t + 1)).2 = (plF n1 q m N f t).2 + (rsS n1 q m N (cU h0 t)).1 := by rw [← hh]; rfl
    have ef : (plF n1 q m N f (t + 1)).1 = poU (rsS n1 q m N (cU h0 t)).2 t := by rw [← hh]; rfl
    have kf := fun (Q : mQo) (a3 : Option Value) => l_poM (Q := Q) (n := n) (I := I3) (L := L3) (a2 := some (.int (nI N))) (a3 := a3) hp (show t < 12 by omega) 6 0 (by omega)
    simp only [pm_0] at kf
    simp (disch := omega) only [e_X11_play_0, e_X11_play_1, e_X11_play_4, e_X11_play_7, e_X11_play_8, e_X11_play_9, e_X11_play_11, e_X11_play_14, e_X11_play_17, e_X11_play_20, e_X11_play_21, e_X11_play_21n, e_X11_play_22, e_X11_play_23, e_X11_play_26, e_X11_play_29, e_X11_play_32, e_X11_play_32n, e_X11_play_33, e_X11_play_34, e_X11_play_35, e_X11_play_38, e_X11_play_41, e_X11_play_44, e_X11_play_45, e_X11_play_45n, e_X11_play_46, e_X11_play_49, e_X11_play_50, e_X11_play_51, e_X11_play_52, e_X11_play_56, e_X11_play_56n, e_X11_play_57, e_X11_play_58, e_X11_play_61, e_X11_play_64, e_X11_play_67, e_X11_play_67n, e_X11_play_68, e_X11_play_69, e_X11_play_69n, e_X11_play_70, e_X11_play_71, e_X11_play_74, e_X11_play_75, e_X11_play_77, e_X11_play_78, e_X11_play_79, e_X11_play_82, e_X11_play_82n, e_X11_play_83, e_X11_play_84, e_X11_play_87, e_X11_play_88, e_X11_play_90, e_X11_play_91, e_X11_play_92, e_X11_play_93, e_X11_play_94, e_X11_play_97, e_X11_play_97n, e_X11_play_98, e_X11_play_99, e_X11_play_102, e_X11_play_103, e_X11_play_105, e_X11_play_106, e_X11_play_107, e_X11_play_108, e_X11_play_109, e_X11_play_112, e_X11_play_115, e_X11_play_116, e_X11_play_116n, e_X11_play_117, e_X11_play_118, e_X11_play_119, e_X11_play_122, e_X11_play_123, e_X11_play_124, e_X11_play_125, e_X11_play_129, e_X11_play_131, e_X11_play_134, e_X11_play_134n, e_X11_play_135, e_X11_play_136, e_X11_play_139, e_X11_play_141, e_X11_play_143, e_X11_play_144, e_X11_play_145, e_X11_play_147, e_X11_play_148, e_X11_play_148n, e_X11_play_149, e_X11_play_150, e_X11_play_152, e_X11_play_154, e_X11_play_155, e_X11_play_158, e_X11_play_161, e_X11_play_164, e_X11_play_167, e_X11_play_170, e_X11_play_174, e_X11_play_175, e_X11_play_178, e_X11_play_178n, e_X11_play_179, e_X11_play_180, e_X11_play_183, e_X11_play_186, e_X11_play_189, e_X11_play_190, e_X11_play_191, mNl_i, mNl_r, mNl_n, mNl_l, mNl_0, mRV_s, mRV_n, tl_s, tl_n, cs_0, cs_i, cs_r, cs_n, cs_l, Nat.reduceAdd, Nat.reduceLeDiff, true_and, and_true, eq_self_iff_true, if_true, if_false, Nat.lt_irrefl, s_lit, s_eq, s_le, s_lt, nI_add, pk_mul, s_in, s_cl, bI_n, bI_zn, not_true, not_false_eq_true, true_implies, false_implies, Nat.reduceEqDiff, Nat.reduceMul, Classical.not_not, imp_self, implies_true, tt_z, tg_329, kf]
    rw [← ec]
    refine ih (t + 1) _ _ _ (by omega) (fun x j q1 q2 => ?_) (fun x j q1 q2 => ?_) ⟨fun j hj => ?_, fun u hu => ?_, ?_⟩ hG h
    · rw [pm_n (by omega), hF3.1 _ _ (by omega) q2, i2 _ _ (by omega), hF _ _ q1 q2]
    · rw [hF3.2 _ _ q1 q2, hL _ _ q1 q2]
    · rw [pm_n (by omega), pm_n (by omega)]; exact hS3.1 j hj
    · rw [ef]
      by_cases e1 : 167 + 6 * t ≤ u ∧ u < 173 + 6 * t
      · obtain ⟨j, rfl⟩ : ∃ j, u = 167 + 6 * t + j := ⟨u - (167 + 6 * t), by omega⟩
        rw [pm_y (by omega), po_y (by omega)]
        exact hS3.2.1 _ (by omega)
      · rw [pm_n (by omega), po_n e1]
        exact hS3.2.1 u hu
    · rw [ef]
      exact fInv_congr hS3.2.2 (fun i hi => po_n (by omega))
end
