/-! ===== small methods of both sides ===== -/
def plc (x y : Int32) : Prop := (-300 ≤ x ∧ x ≤ 300) ∧ (-300 ≤ y ∧ y ≤ 300)
theorem b10 {c : Prop} [Decidable c] : ((if c then (1 : Int32) else 0) = 0) = ¬ c := by by_cases h : c <;> simp [h]
theorem b10b {c : Prop} [Decidable c] : (((if c then (1 : Int32) else 0) = 0) ∨ ((if c then (1 : Int32) else 0) = 1)) = True := by by_cases h : c <;> simp [h]
section
variable {Q : mQo} {t : mTT} {n : Nat} {I : Nat → Nat → Int32} {L : Nat → Nat → Int64}
theorem k_isWithin {v lo hi : Int32} : C_X10_isWithin [.int v, .int lo, .int hi] (t, I, L) Q = Q (some (.int (if lo ≤ v ∧ v ≤ hi then 1 else 0))) (t, I, L) := by
  simp only [c_X10_isWithin, e_X10_isWithin_0, e_X10_isWithin_1, e_X10_isWithin_2, e_X10_isWithin_5, e_X10_isWithin_6, e_X10_isWithin_7, e_X10_isWithin_10, e_X10_isWithin_11, e_X10_isWithin_14, e_X10_isWithin_15, mNl_i, mNl_r, mNl_n, mNl_l, mNl_0, mRV_s, mRV_n, tl_s, tl_n, cs_0, cs_i, cs_r, cs_n, cs_l, Nat.reduceAdd, Nat.reduceLeDiff, true_and, and_true, eq_self_iff_true, if_true, if_false]
  by_cases h1 : v < lo <;> by_cases h2 : hi < v <;> simp [h1, h2, Int32.not_lt.mp, Int32.not_le.mpr, Int32.not_lt] <;> simp_all [Int32.not_le, Int32.not_lt]
theorem k_isIn {v lo hi : Int32} : C_X11_isIn [.int v, .int lo, .int hi] (t, I, L) Q = Q (some (.int (if lo ≤ v ∧ v ≤ hi then 1 else 0))) (t, I, L) := by
  simp only [c_X11_isIn, e_X11_isIn_0, e_X11_isIn_1, e_X11_isIn_2, e_X11_isIn_5, e_X11_isIn_6, e_X11_isIn_7, e_X11_isIn_10, e_X11_isIn_11, e_X11_isIn_14, e_X11_isIn_15, mNl_i, mNl_r, mNl_n, mNl_l, mNl_0, mRV_s, mRV_n, tl_s, tl_n, cs_0, cs_i, cs_r, cs_n, cs_l, Nat.reduceAdd, Nat.reduceLeDiff, true_and, and_true, eq_self_iff_true, if_true, if_false]
  by_cases h1 : v < lo <;> by_cases h2 : hi < v <;> simp [h1, h2, Int32.not_lt.mp, Int32.not_le.mpr, Int32.not_lt] <;> simp_all [Int32.not_le, Int32.not_lt]
theorem k_puppetOf {pu : Int32} : C_X10_puppetOf [.ref 2, .int pu] (tt n, I, L) Q = ((pu = 0 → Q (some (.ref 3)) (tt n, I, L)) ∧ (¬ pu = 0 → (pu = 1 → Q (some (.ref 27)) (tt n, I, L)) ∧ (¬ pu = 1 → Q (some .null) (tt n, I, L)))) := by
  simp only [c_X10_puppetOf, e_X10_puppetOf_0, e_X10_puppetOf_1, e_X10_puppetOf_4, e_X10_puppetOf_4n, e_X10_puppetOf_5, e_X10_puppetOf_8, e_X10_puppetOf_8n, e_X10_puppetOf_9, e_X10_puppetOf_10, e_X10_puppetOf_11, e_X10_puppetOf_14, e_X10_puppetOf_14n, e_X10_puppetOf_15, e_X10_puppetOf_18, e_X10_puppetOf_21, e_X10_puppetOf_22, e_X10_puppetOf_22n, mNl_i, mNl_r, mNl_n, mNl_l, mNl_0, mRV_s, mRV_n, tl_s, tl_n, cs_0, cs_i, cs_r, cs_n, cs_l, Nat.reduceAdd, Nat.reduceLeDiff, true_and, and_true, eq_self_iff_true, if_true, if_false, tg_2, rf_2_0, rf_2_1]
theorem k_isPlaceC {x y : Int32} [Decidable (plc x y)] (hz : mZr t = t) : C_X10_isPlace [.int x, .int y] (t, I, L) Q = Q (some (.int (if plc x y then 1 else 0))) (t, I, L) := by
  simp only [c_X10_isPlace, e_X10_isPlace_0, e_X10_isPlace_1, e_X10_isPlace_4, e_X10_isPlace_7, e_X10_isPlace_10, e_X10_isPlace_13, e_X10_isPlace_14, e_X10_isPlace_17, e_X10_isPlace_20, e_X10_isPlace_23, e_X10_isPlace_26, e_X10_isPlace_27, e_X10_isPlace_30, e_X10_isPlace_31, mNl_i, mNl_r, mNl_n, mNl_l, mNl_0, mRV_s, mRV_n, tl_s, tl_n, cs_0, cs_i, cs_r, cs_n, cs_l, Nat.reduceAdd, Nat.reduceLeDiff, true_and, and_true, eq_self_iff_true, if_true, if_false, hz, k_isWithin, b10]
  by_cases h1 : -300 ≤ x ∧ x ≤ 300 <;> by_cases h2 : -300 ≤ y ∧ y ≤ 300 <;> simp [h1, h2, plc]
theorem k_isPlaceM {x y : Int32} [Decidable (plc x y)] (hz : mZr t = t) : C_X11_isPlace [.int x, .int y] (t, I, L) Q = Q (some (.int (if plc x y then 1 else 0))) (t, I, L) := by
  simp only [c_X11_isPlace, e_X11_isPlace_0, e_X11_isPlace_1, e_X11_isPlace_4, e_X11_isPlace_7, e_X11_isPlace_10, e_X11_isPlace_13, e_X11_isPlace_14, e_X11_isPlace_17, e_X11_isPlace_20, e_X11_isPlace_23, e_X11_isPlace_26, e_X11_isPlace_27, e_X11_isPlace_30, e_X11_isPlace_31, mNl_i, mNl_r, mNl_n, mNl_l, mNl_0, mRV_s, mRV_n, tl_s, tl_n, cs_0, cs_i, cs_r, cs_n, cs_l, Nat.reduceAdd, Nat.reduceLeDiff, true_and, and_true, eq_self_iff_true, if_true, if_false, hz, k_isIn, b10]
  by_cases h1 : -300 ≤ x ∧ x ≤ 300 <;> by_cases h2 : -300 ≤ y ∧ y ≤ 300 <;> simp [h1, h2, plc]
theorem pup_cases (pu : Int32) : pu = 0 ∨ pu = 1 ∨ ¬ (0 ≤ pu ∧ pu ≤ 1) := by
  by_cases h : 0 ≤ pu ∧ pu ≤ 1
  · obtain ⟨h1, h2⟩ := h
    have a1 : (0 : Int) ≤ pu.toInt := Int32.le_iff_toInt_le.mp h1
    have a2 : pu.toInt ≤ 1 := Int32.le_iff_toInt_le.mp h2
    rcases (show pu.toInt = 0 ∨ pu.toInt = 1 by omega) with e | e
    · exact Or.inl (Int32.toInt_inj.mp e)
    · exact Or.inr (Or.inl (Int32.toInt_inj.mp e))
  · exact Or.inr (Or.inr h)
theorem pup_ne {pu : Int32} (h : ¬ (0 ≤ pu ∧ pu ≤ 1)) : ¬ pu = 0 ∧ ¬ pu = 1 := ⟨fun e => h (by rw [e]; decide), fun e => h (by rw [e]; decide)⟩
theorem k_isPuppet {pu : Int32} (hz : mZr t = t) : C_X11_isPuppet [.int pu] (t, I, L) Q = Q (some (.int (if 0 ≤ pu ∧ pu ≤ 1 then 1 else 0))) (t, I, L) := by
  simp only [c_X11_isPuppet, e_X11_isPuppet_0, e_X11_isPuppet_1, e_X11_isPuppet_2, e_X11_isPuppet_3, e_X11_isPuppet_6, mNl_i, mNl_r, mNl_n, mNl_l, mNl_0, mRV_s, mRV_n, tl_s, tl_n, cs_0, cs_i, cs_r, cs_n, cs_l, Nat.reduceAdd, Nat.reduceLeDiff, true_and, and_true, eq_self_iff_true, if_true, if_false, hz, k_isIn, b10b]
theorem k_get {p w : Nat} (h : 239 * p + w < 478) : C_X11_get [.ref 329, .int (nI p), .int (nI w)] (tt n, I, L) Q = Q (some (.int (I 330 (239 * p + w)))) (tt n, I, L) := by
  simp (disch := omega) only [c_X11_get, e_X11_get_0, e_X11_get_0n, e_X11_get_1, e_X11_get_4, e_X11_get_7, e_X11_get_8, e_X11_get_9, e_X11_get_10, e_X11_get_11, e_X11_get_12, mNl_i, mNl_r, mNl_n, mNl_l, mNl_0, mRV_s, mRV_n, tl_s, tl_n, cs_0, cs_i, cs_r, cs_n, cs_l, Nat.reduceAdd, Nat.reduceLeDiff, true_and, and_true, eq_self_iff_true, if_true, if_false, tg_329, rf_329_0, tg_330, ln_330, s_lit, pk_mul, nI_add, s_in, s_cl, h]
theorem k_put {p w : Nat} {v : Int32} (h : 239 * p + w < 478) : C_X11_put [.ref 329, .int (nI p), .int (nI w), .int v] (tt n, I, L) Q = Q none (tt n, mUI I 330 (239 * p + w) v, L) := by
  simp (disch := omega) only [c_X11_put, e_X11_put_0, e_X11_put_0n, e_X11_put_1, e_X11_put_4, e_X11_put_7, e_X11_put_8, e_X11_put_9, e_X11_put_10, e_X11_put_11, e_X11_put_12, e_X11_put_13, mNl_i, mNl_r, mNl_n, mNl_l, mNl_0, mRV_s, mRV_n, tl_s, tl_n, cs_0, cs_i, cs_r, cs_n, cs_l, Nat.reduceAdd, Nat.reduceLeDiff, true_and, and_true, eq_self_iff_true, if_true, if_false, tg_329, rf_329_0, tg_330, ln_330, s_lit, pk_mul, nI_add, s_in, s_cl, h, show (2 ≤ 330) = True from eq_true (by decide)]
end
