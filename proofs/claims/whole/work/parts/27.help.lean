/-! ===== small methods of both sides ===== -/
noncomputable def bI (c : Prop) : Int32 := @ite _ c (Classical.propDecidable c) 1 0
theorem bI_t {c : Prop} (h : c) : bI c = 1 := by unfold bI; rw [if_pos h]
theorem bI_f {c : Prop} (h : ¬ c) : bI c = 0 := by unfold bI; rw [if_neg h]
theorem bI_0 {c : Prop} : (bI c = 0) = ¬ c := by
  by_cases h : c
  · rw [bI_t h]; simp [h]
  · rw [bI_f h]; simp [h]
theorem bI_n {c : Prop} : (bI c = nI 0) = ¬ c := bI_0
theorem bI_z {c : Prop} : ((bI c = 0) ∨ (bI c = 1)) = True := by
  by_cases h : c
  · rw [bI_t h]; simp
  · rw [bI_f h]; simp
theorem bI_zn {c : Prop} : (¬ c ∨ (bI c = nI 1)) = True := by
  by_cases h : c
  · rw [bI_t h]; exact eq_true (Or.inr rfl)
  · exact eq_true (Or.inl h)
def wi (lo v hi : Int32) : Prop := lo ≤ v ∧ v ≤ hi
def plc (x y : Int32) : Prop := wi (-300) x 300 ∧ wi (-300) y 300
section
variable {Q : mQo} {t : mTT} {n : Nat} {I : Nat → Nat → Int32} {L : Nat → Nat → Int64}
theorem wi_split {A B : Prop} {v lo hi : Int32} {X : Int32 → Prop} (hA : A = X 0) (hB : B = X 1) : ((v < lo → A) ∧ (¬ v < lo → (hi < v → A) ∧ (¬ hi < v → B))) = X (bI (wi lo v hi)) := by
  by_cases h1 : v < lo
  · have : ¬ wi lo v hi := fun z => absurd z.1 (Int32.not_le.mpr h1)
    rw [bI_f this]; simp [h1, hA]
  · by_cases h2 : hi < v
    · have : ¬ wi lo v hi := fun z => absurd z.2 (Int32.not_le.mpr h2)
      rw [bI_f this]; simp [h1, h2, hA]
    · have : wi lo v hi := ⟨Int32.not_lt.mp h1, Int32.not_lt.mp h2⟩
      rw [bI_t this]; simp [h1, h2, hB]
theorem k_isWithin {v lo hi : Int32} : C_X10_isWithin [.int v, .int lo, .int hi] (t, I, L) Q = Q (some (.int (bI (wi lo v hi)))) (t, I, L) := by
  simp only [c_X10_isWithin, e_X10_isWithin_0, e_X10_isWithin_1, e_X10_isWithin_2, e_X10_isWithin_5, e_X10_isWithin_6, e_X10_isWithin_7, e_X10_isWithin_10, e_X10_isWithin_11, e_X10_isWithin_14, e_X10_isWithin_15, mNl_i, mNl_r, mNl_n, mNl_l, mNl_0, mRV_s, mRV_n, tl_s, tl_n, cs_0, cs_i, cs_r, cs_n, cs_l, Nat.reduceAdd, Nat.reduceLeDiff, true_and, and_true, eq_self_iff_true, if_true, if_false]
  exact wi_split (X := fun r => Q (some (.int r)) (t, I, L)) (by simp) (by simp)
theorem k_isIn {v lo hi : Int32} : C_X11_isIn [.int v, .int lo, .int hi] (t, I, L) Q = Q (some (.int (bI (wi lo v hi)))) (t, I, L) := by
  simp only [c_X11_isIn, e_X11_isIn_0, e_X11_isIn_1, e_X11_isIn_2, e_X11_isIn_5, e_X11_isIn_6, e_X11_isIn_7, e_X11_isIn_10, e_X11_isIn_11, e_X11_isIn_14, e_X11_isIn_15, mNl_i, mNl_r, mNl_n, mNl_l, mNl_0, mRV_s, mRV_n, tl_s, tl_n, cs_0, cs_i, cs_r, cs_n, cs_l, Nat.reduceAdd, Nat.reduceLeDiff, true_and, and_true, eq_self_iff_true, if_true, if_false]
  exact wi_split (X := fun r => Q (some (.int r)) (t, I, L)) (by simp) (by simp)
theorem k_puppetOf {pu : Int32} : C_X10_puppetOf [.ref 2, .int pu] (tt n, I, L) Q = ((pu = 0 → Q (some (.ref 3)) (tt n, I, L)) ∧ (¬ pu = 0 → (pu = 1 → Q (some (.ref 27)) (tt n, I, L)) ∧ (¬ pu = 1 → Q (some .null) (tt n, I, L)))) := by
  simp only [c_X10_puppetOf, e_X10_puppetOf_0, e_X10_puppetOf_1, e_X10_puppetOf_4, e_X10_puppetOf_4n, e_X10_puppetOf_5, e_X10_puppetOf_8, e_X10_puppetOf_8n, e_X10_puppetOf_9, e_X10_puppetOf_10, e_X10_puppetOf_11, e_X10_puppetOf_14, e_X10_puppetOf_14n, e_X10_puppetOf_15, e_X10_puppetOf_18, e_X10_puppetOf_21, e_X10_puppetOf_22, e_X10_puppetOf_22n, mNl_i, mNl_r, mNl_n, mNl_l, mNl_0, mRV_s, mRV_n, tl_s, tl_n, cs_0, cs_i, cs_r, cs_n, cs_l, Nat.reduceAdd, Nat.reduceLeDiff, true_and, and_true, eq_self_iff_true, if_true, if_false, tg_2, rf_2_0, rf_2_1]
theorem and_split {A B : Prop} {X : Int32 → Prop} {C : Prop} (hA : C = X 0) : ((A → (B → X 1) ∧ (¬ B → C)) ∧ (¬ A → C)) = X (bI (A ∧ B)) := by
  by_cases h1 : A
  · by_cases h2 : B
    · rw [bI_t ⟨h1, h2⟩]; simp [h1, h2]
    · rw [bI_f (fun z => h2 z.2)]; simp [h1, h2, hA]
  · rw [bI_f (fun z => h1 z.1)]; simp [h1, hA]
theorem k_isPlaceC {x y : Int32} (hz : mZr t = t) : C_X10_isPlace [.int x, .int y] (t, I, L) Q = Q (some (.int (bI (plc x y)))) (t, I, L) := by
  simp only [c_X10_isPlace, e_X10_isPlace_0, e_X10_isPlace_1, e_X10_isPlace_4, e_X10_isPlace_7, e_X10_isPlace_10, e_X10_isPlace_13, e_X10_isPlace_14, e_X10_isPlace_17, e_X10_isPlace_20, e_X10_isPlace_23, e_X10_isPlace_26, e_X10_isPlace_27, e_X10_isPlace_30, e_X10_isPlace_31, mNl_i, mNl_r, mNl_n, mNl_l, mNl_0, mRV_s, mRV_n, tl_s, tl_n, cs_0, cs_i, cs_r, cs_n, cs_l, Nat.reduceAdd, Nat.reduceLeDiff, true_and, and_true, eq_self_iff_true, if_true, if_false, hz, k_isWithin, bI_0]
  by_cases h1 : wi (-300) x 300 <;> by_cases h2 : wi (-300) y 300
  · rw [bI_t (show plc x y from ⟨h1, h2⟩)]; simp [h1, h2]
  · rw [bI_f (show ¬ plc x y from fun z => h2 z.2)]; simp [h1, h2]
  · rw [bI_f (show ¬ plc x y from fun z => h1 z.1)]; simp [h1]
  · rw [bI_f (show ¬ plc x y from fun z => h1 z.1)]; simp [h1]
theorem k_isPlaceM {x y : Int32} (hz : mZr t = t) : C_X11_isPlace [.int x, .int y] (t, I, L) Q = Q (some (.int (bI (plc x y)))) (t, I, L) := by
  simp only [c_X11_isPlace, e_X11_isPlace_0, e_X11_isPlace_1, e_X11_isPlace_4, e_X11_isPlace_7, e_X11_isPlace_10, e_X11_isPlace_13, e_X11_isPlace_14, e_X11_isPlace_17, e_X11_isPlace_20, e_X11_isPlace_23, e_X11_isPlace_26, e_X11_isPlace_27, e_X11_isPlace_30, e_X11_isPlace_31, mNl_i, mNl_r, mNl_n, mNl_l, mNl_0, mRV_s, mRV_n, tl_s, tl_n, cs_0, cs_i, cs_r, cs_n, cs_l, Nat.reduceAdd, Nat.reduceLeDiff, true_and, and_true, eq_self_iff_true, if_true, if_false, hz, k_isIn, bI_0]
  by_cases h1 : wi (-300) x 300 <;> by_cases h2 : wi (-300) y 300
  · rw [bI_t (show plc x y from ⟨h1, h2⟩)]; simp [h1, h2]
  · rw [bI_f (show ¬ plc x y from fun z => h2 z.2)]; simp [h1, h2]
  · rw [bI_f (show ¬ plc x y from fun z => h1 z.1)]; simp [h1]
  · rw [bI_f (show ¬ plc x y from fun z => h1 z.1)]; simp [h1]
/-- which puppet: 0, 1 or none -/
def pup (pu : Int32) : Prop := wi 0 pu 1
theorem pup_cases (pu : Int32) : pu = nI 0 ∨ pu = nI 1 ∨ ¬ pup pu := by
  by_cases h : pup pu
  · obtain ⟨h1, h2⟩ := h
    have a1 : (0 : Int) ≤ pu.toInt := Int32.le_iff_toInt_le.mp h1
    have a2 : pu.toInt ≤ 1 := Int32.le_iff_toInt_le.mp h2
    rcases (show pu.toInt = 0 ∨ pu.toInt = 1 by omega) with e | e
    · exact Or.inl (Int32.toInt_inj.mp e)
    · exact Or.inr (Or.inl (Int32.toInt_inj.mp e))
  · exact Or.inr (Or.inr h)
theorem pup_0 : pup (nI 0) := ⟨by decide, by decide⟩
theorem pup_1 : pup (nI 1) := ⟨by decide, by decide⟩
theorem pup_n0 {pu : Int32} (h : ¬ pup pu) : (pu = nI 0) = False := eq_false (fun e => h (by rw [e]; exact pup_0))
theorem pup_n1 {pu : Int32} (h : ¬ pup pu) : (pu = nI 1) = False := eq_false (fun e => h (by rw [e]; exact pup_1))
theorem k_isPuppet {pu : Int32} (hz : mZr t = t) : C_X11_isPuppet [.int pu] (t, I, L) Q = Q (some (.int (bI (pup pu)))) (t, I, L) := by
  simp only [c_X11_isPuppet, e_X11_isPuppet_0, e_X11_isPuppet_1, e_X11_isPuppet_2, e_X11_isPuppet_3, e_X11_isPuppet_6, mNl_i, mNl_r, mNl_n, mNl_l, mNl_0, mRV_s, mRV_n, tl_s, tl_n, cs_0, cs_i, cs_r, cs_n, cs_l, Nat.reduceAdd, Nat.reduceLeDiff, true_and, and_true, eq_self_iff_true, if_true, if_false, hz, k_isIn, bI_z]
  rfl
theorem k_get {p w : Nat} (h : 239 * p + w < 478) : C_X11_get [.ref 329, .int (nI p), .int (nI w)] (tt n, I, L) Q = Q (some (.int (I 330 (239 * p + w)))) (tt n, I, L) := by
  simp (disch := omega) only [c_X11_get, e_X11_get_0, e_X11_get_0n, e_X11_get_1, e_X11_get_4, e_X11_get_7, e_X11_get_8, e_X11_get_9, e_X11_get_10, e_X11_get_11, e_X11_get_12, mNl_i, mNl_r, mNl_n, mNl_l, mNl_0, mRV_s, mRV_n, tl_s, tl_n, cs_0, cs_i, cs_r, cs_n, cs_l, Nat.reduceAdd, Nat.reduceLeDiff, true_and, and_true, eq_self_iff_true, if_true, if_false, tg_329, rf_329_0, tg_330, ln_330, s_lit, pk_mul, nI_add, s_in, s_cl, h]
theorem k_put {p w : Nat} {v : Int32} (h : 239 * p + w < 478) : C_X11_put [.ref 329, .int (nI p), .int (nI w), .int v] (tt n, I, L) Q = Q none (tt n, mUI I 330 (239 * p + w) v, L) := by
  simp (disch := omega) only [c_X11_put, e_X11_put_0, e_X11_put_0n, e_X11_put_1, e_X11_put_4, e_X11_put_7, e_X11_put_8, e_X11_put_9, e_X11_put_10, e_X11_put_11, e_X11_put_12, e_X11_put_13, mNl_i, mNl_r, mNl_n, mNl_l, mNl_0, mRV_s, mRV_n, tl_s, tl_n, cs_0, cs_i, cs_r, cs_n, cs_l, Nat.reduceAdd, Nat.reduceLeDiff, true_and, and_true, eq_self_iff_true, if_true, if_false, tg_329, rf_329_0, tg_330, ln_330, s_lit, pk_mul, nI_add, s_in, s_cl, h, show (2 ≤ 330) = True from eq_true (by decide)]
end
