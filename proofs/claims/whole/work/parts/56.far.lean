/-! ===== how far, how much too long, how deep ===== -/
noncomputable def faI (f : Nat → Int32) (l b : Nat) (s : Int) : Int := cr ((sp f 0 l s - bB f 0 b) * (sp f 0 l s - bB f 0 b) + (sp f 1 l s - bB f 1 b) * (sp f 1 l s - bB f 1 b))
noncomputable def fbI (f : Nat → Int32) (b : Nat) : Int := cr ((G f 5 0 - bB f 0 b) * (G f 5 0 - bB f 0 b) + (G f 6 0 - bB f 1 b) * (G f 6 0 - bB f 1 b))
def hLb (f : Nat → Int32) (h : Nat) : Nat := (f (57 + 6 * h)).toInt.toNat
def hBr (f : Nat → Int32) (h : Nat) : Nat := (f (59 + 6 * h)).toInt.toNat
def hSp (f : Nat → Int32) (h : Nat) : Int := (f (58 + 6 * h)).toInt
noncomputable def frI (f : Nat → Int32) (h : Nat) : Int := if f (56 + 6 * h) = nI 4 then 0 else if f (56 + 6 * h) = nI 1 then faI f (hLb f h) (hBr f h) (hSp f h) + fbI f (hBr f h) else faI f (hLb f h) (hBr f h) (hSp f h)
def lnI (f : Nat → Int32) (h : Nat) : Int := 1024 * ((f (60 + 6 * h)).toInt - (f (61 + 6 * h)).toInt)
noncomputable def exI (f : Nat → Int32) (h : Nat) : Int := mxI 0 (if f (56 + 6 * h) = nI 4 then -sp f 1 (hLb f h) (hSp f h) else if f (56 + 6 * h) = nI 3 then abI (frI f h - lnI f h) - 1024 else frI f h - lnI f h)
def tauI (f : Nat → Int32) (h : Nat) : Prop := ¬ f (56 + 6 * h) = nI 4 ∧ lnI f h - 512 ≤ frI f h
def dpI (f : Nat → Int32) : Nat → Int
  | 0 => 0
  | k + 1 => dpI f k + (f (7 + k)).toInt * (G f 4 k + G f 6 k)
noncomputable def aeI (f : Nat → Int32) : Nat → Int
  | 0 => 0
  | k + 1 => aeI f k + exI f k
/-- what is known of the holds -/
def fHol (f : Nat → Int32) (n m : Nat) : Prop := m ≤ 12 ∧ ∀ h, h < m → inR (f (56 + 6 * h)) 0 4 ∧ inR (f (57 + 6 * h)) 0 ((n : Int) - 1) ∧ inR (f (58 + 6 * h)) 0 100 ∧ inR (f (59 + 6 * h)) 0 5 ∧ inR (f (60 + 6 * h)) 0 500 ∧ inR (f (61 + 6 * h)) 0 (f (60 + 6 * h)).toInt
theorem fHol_of {c : Nat → Nat → Int32} {f : Nat → Int32} {n m : Nat} (h : rHol c f n m) : fHol f n m := ⟨h.1, fun k hk => (h.2.2.2 k hk).2⟩
/-- all that is known of a row -/
def fAll (f : Nat → Int32) (n m : Nat) : Prop := fLim f n ∧ fPin f ∧ fCro f ∧ fHol f n m
theorem fAll_of {c : Nat → Nat → Int32} {f : Nat → Int32} {n q m tk ps : Nat} (h : rP6 c f n q m tk ps) : fAll f n m := ⟨fLim_of h.1, ⟨h.2.1.2.2.1, h.2.1.2.2.2.1⟩, fCro_of h.2.2.2.1 h.2.2.2.2.1, fHol_of h.2.2.2.2.2.1⟩
section
variable {f : Nat → Int32} {n m h : Nat}
theorem h_l (hA : fAll f n m) (hh : h < m) : f (57 + 6 * h) = nI (hLb f h) ∧ hLb f h < n := by
  obtain ⟨-, ⟨a1, a2⟩, -⟩ := hA.2.2.2.2 h hh
  have hn := hA.1.1
  have e : hLb f h = (f (57 + 6 * h)).toInt.toNat := rfl
  exact ⟨Int32.toInt_inj.mp (by rw [s_toI (by omega)]; omega), by omega⟩
theorem h_b (hA : fAll f n m) (hh : h < m) : f (59 + 6 * h) = nI (hBr f h) ∧ hBr f h < 6 := by
  obtain ⟨-, -, -, ⟨a1, a2⟩, -⟩ := hA.2.2.2.2 h hh
  have e : hBr f h = (f (59 + 6 * h)).toInt.toNat := rfl
  exact ⟨Int32.toInt_inj.mp (by rw [s_toI (by omega)]; omega), by omega⟩
theorem h_s (hA : fAll f n m) (hh : h < m) : f (58 + 6 * h) = i3 (hSp f h) ∧ 0 ≤ hSp f h ∧ hSp f h ≤ 100 := by
  obtain ⟨-, -, a, -⟩ := hA.2.2.2.2 h hh
  exact ⟨(i3_t _).symm, a.1, a.2⟩
theorem ln_b (hA : fAll f n m) (hh : h < m) : 0 ≤ lnI f h ∧ lnI f h ≤ 512000 := by
  obtain ⟨-, -, -, -, ⟨a1, a2⟩, b1, b2⟩ := hA.2.2.2.2 h hh
  unfold lnI; omega
theorem dd_b {u v x y : Int} (h1 : -921600 ≤ u) (h2 : u ≤ 921600) (h3 : -512000 ≤ v) (h4 : v ≤ 512000) (h5 : -921600 ≤ x) (h6 : x ≤ 921600) (h7 : -512000 ≤ y) (h8 : y ≤ 512000) : 0 ≤ (u - v) * (u - v) + (x - y) * (x - y) ∧ (u - v) * (u - v) + (x - y) * (x - y) ≤ 9000000000000 := by
  have s1 := sq_nn (u - v)
  have s2 := sq_nn (x - y)
  have s3 := sq_b (x := u - v) (B := 1433600) (by omega) (by omega)
  have s4 := sq_b (x := x - y) (B := 1433600) (by omega) (by omega)
  omega
/-- the numbers of hold h within bounds -/
theorem h_A (hA : fAll f n m) (hh : h < m) : ((-921600 ≤ sp f 0 (hLb f h) (hSp f h) ∧ sp f 0 (hLb f h) (hSp f h) ≤ 921600) ∧ (-921600 ≤ sp f 1 (hLb f h) (hSp f h) ∧ sp f 1 (hLb f h) (hSp f h) ≤ 921600)) ∧ ((-512000 ≤ bB f 0 (hBr f h) ∧ bB f 0 (hBr f h) ≤ 512000) ∧ (-512000 ≤ bB f 1 (hBr f h) ∧ bB f 1 (hBr f h) ≤ 512000)) ∧ ((-921600 ≤ G f 5 0 ∧ G f 5 0 ≤ 921600) ∧ (-921600 ≤ G f 6 0 ∧ G f 6 0 ≤ 921600)) := by
  obtain ⟨l1, l2⟩ := h_l hA hh
  obtain ⟨-, s1, s2⟩ := h_s hA hh
  obtain ⟨-, b2⟩ := h_b hA hh
  obtain ⟨-, -, -, -, -, g5, g6⟩ := G_b hA.1 hA.2.1 0 (by omega)
  exact ⟨sp_b hA.1 hA.2.1 l2 s1 s2, bB_b hA.2.2.1 b2, by omega, by omega⟩
theorem fA_b (hA : fAll f n m) (hh : h < m) : 0 ≤ faI f (hLb f h) (hBr f h) (hSp f h) ∧ faI f (hLb f h) (hBr f h) (hSp f h) ≤ 3000000 := by
  obtain ⟨⟨⟨x1, x2⟩, x3, x4⟩, ⟨⟨y1, y2⟩, y3, y4⟩, -⟩ := h_A hA hh
  have := dd_b x1 x2 y1 y2 x3 x4 y3 y4
  exact cr_le this.1 (by omega) (by omega)
theorem fB_b (hA : fAll f n m) (hh : h < m) : 0 ≤ fbI f (hBr f h) ∧ fbI f (hBr f h) ≤ 3000000 := by
  obtain ⟨-, ⟨⟨y1, y2⟩, y3, y4⟩, ⟨x1, x2⟩, x3, x4⟩ := h_A hA hh
  have := dd_b x1 x2 y1 y2 x3 x4 y3 y4
  exact cr_le this.1 (by omega) (by omega)
theorem fr_b (hA : fAll f n m) (hh : h < m) : 0 ≤ frI f h ∧ frI f h ≤ 6000000 := by
  have h1 := fA_b hA hh
  have h2 := fB_b hA hh
  unfold frI
  split
  · omega
  · split <;> omega
theorem ex_b (hA : fAll f n m) (hh : h < m) : 0 ≤ exI f h ∧ exI f h ≤ 10000000 := by
  have h1 := fr_b hA hh
  have h2 := ln_b hA hh
  obtain ⟨⟨-, x3, x4⟩, -⟩ := h_A hA hh
  have h3 := ab_b (x := frI f h - lnI f h) (B := 7000000) (by omega) (by omega)
  unfold exI mxI
  split <;> split <;> (try split) <;> omega
theorem ae_b (hA : fAll f n m) : ∀ k, k ≤ m → 0 ≤ aeI f k ∧ aeI f k ≤ 10000000 * k := by
  intro k
  induction k with
  | zero => intro _; unfold aeI; omega
  | succ k ih =>
    intro hk
    have h1 := ih (by omega)
    have h2 := ex_b hA (show k < m by omega)
    unfold aeI
    omega
theorem ae_mono (hA : fAll f n m) : ∀ j k, j ≤ k → k ≤ m → aeI f j ≤ aeI f k := by
  intro j k h
  induction h with
  | refl => intro _; exact Int.le_refl _
  | step h ih =>
    intro hk
    have h1 := ih (by omega)
    have h2 := ex_b hA (show _ < m from hk)
    show _ ≤ aeI f _ + exI f _
    omega
theorem dp_b (hA : fAll f n m) : ∀ k, k ≤ n → -(100000000 * (k : Int)) ≤ dpI f k ∧ dpI f k ≤ 100000000 * k := by
  intro k
  induction k with
  | zero => intro _; unfold dpI; omega
  | succ k ih =>
    intro hk
    have h1 := ih (by omega)
    have hn := hA.1.1
    obtain ⟨-, ⟨w1, w2⟩, -⟩ := hA.1.2 k (by omega)
    obtain ⟨-, -, -, -, g4, -, g6⟩ := G_b hA.1 hA.2.1 k (by omega)
    have hm := mul_b (a := (f (7 + k)).toInt) (b := G f 4 k + G f 6 k) (A := 50) (B := 2000000) (by omega) w2 (by omega) (by omega)
    unfold dpI
    omega
end
section
variable {Q : mQo} {n : Nat} {I : Nat → Nat → Int32} {L : Nat → Nat → Int64} {f : Nat → Int32} {a F n1 m h : Nat}
theorem k_farC (ha : sPup (tt n) a) (hF : sFig (tt n) F) (hA : fAll f n1 m) (hH : rHol (blk I a) f n1 m) (hM : ldC I F f n1) (hD : bdC I F f) (hh : h < m) : C_X1_far [.ref F, .ref (a + 12), .int (nI h)] (tt n, I, L) Q = Q (some (.long (i6 (frI f h)))) (tt n, I, L) := by
  obtain ⟨-, -, -, -, -, ⟨t1, r0, r1, r2, r3, r4, r5⟩, -, -, -, -, -, -, -, -, -, ⟨s1, s2⟩, ⟨s3, s4⟩, ⟨s5, s6⟩, ⟨s7, s8⟩, -⟩ := id ha
  obtain ⟨F0, F1, ⟨q0, q1, q2, q3, q4, q5, q6, q7, q8⟩, -, -, -, -, -, ⟨u6, v6⟩, ⟨u7, v7⟩, ⟨u8, v8⟩, ⟨u9, v9⟩⟩ := id hF
  obtain ⟨l1, l2⟩ := h_l hA hh
  obtain ⟨b1, b2⟩ := h_b hA hh
  obtain ⟨p1, p2, p3⟩ := h_s hA hh
  have hn := hA.1.1
  have hm := hA.2.2.2.1
  obtain ⟨⟨⟨x1, x2⟩, x3, x4⟩, ⟨⟨y1, y2⟩, y3, y4⟩, ⟨w1, w2⟩, w3, w4⟩ := h_A hA hh
  obtain ⟨⟨z0, z1, z2, z3, -⟩, -⟩ := hH.2.2.2 h hh
  have z0 : I (a + 13) h = f (56 + 6 * h) := z0
  have z1 : I (a + 15) h = nI (hLb f h) := by rw [← l1]; exact z1
  have z2 : I (a + 16) h = i3 (hSp f h) := by rw [← p1]; exact z2
  have z3 : I (a + 14) h = nI (hBr f h) := by rw [← b1]; exact z3
  obtain ⟨d1, d2⟩ := hD _ b2
  have hn0 : 0 < n1 := by omega
  obtain ⟨-, -, -, -, -, m5, m6⟩ := hM 0 hn0
  unfold frI
  by_cases k4 : f (56 + 6 * h) = nI 4
  · rw [if_pos k4]
    simp (disch := omega) only [c_X1_far, e_X1_far_0, e_X1_far_0n, e_X1_far_1, e_X1_far_4, e_X1_far_5, e_X1_far_6, e_X1_far_7, e_X1_far_10, e_X1_far_11, e_X1_far_12, e_X1_far_12n, e_X1_far_13, e_X1_far_16, e_X1_far_17, e_X1_far_18, e_X1_far_19, e_X1_far_19n, e_X1_far_20, e_X1_far_23, e_X1_far_24, e_X1_far_25, e_X1_far_27, e_X1_far_27n, e_X1_far_28, e_X1_far_31, e_X1_far_32, e_X1_far_33, e_X1_far_35, e_X1_far_35n, e_X1_far_36, e_X1_far_38, e_X1_far_40, e_X1_far_43, e_X1_far_43n, e_X1_far_44, e_X1_far_47, e_X1_far_48, e_X1_far_49, e_X1_far_50, e_X1_far_51, e_X1_far_51n, e_X1_far_52, e_X1_far_54, e_X1_far_56, e_X1_far_59, e_X1_far_59n, e_X1_far_60, e_X1_far_63, e_X1_far_64, e_X1_far_65, e_X1_far_66, e_X1_far_67, e_X1_far_70, e_X1_far_72, e_X1_far_72n, e_X1_far_73, e_X1_far_76, e_X1_far_77, e_X1_far_78, e_X1_far_79, e_X1_far_82, e_X1_far_84, e_X1_far_84n, e_X1_far_85, e_X1_far_88, e_X1_far_89, e_X1_far_90, e_X1_far_90n, e_X1_far_91, e_X1_far_94, e_X1_far_95, e_X1_far_96, e_X1_far_97, e_X1_far_98, e_X1_far_98n, e_X1_far_99, e_X1_far_102, e_X1_far_103, e_X1_far_104, e_X1_far_104n, e_X1_far_105, e_X1_far_108, e_X1_far_109, e_X1_far_110, e_X1_far_111, e_X1_far_112, e_X1_far_115, e_X1_far_116, e_X1_far_118, e_X1_far_120, mNl_i, mNl_r, mNl_n, mNl_l, mNl_0, mRV_s, mRV_n, tl_s, tl_n, cs_0, cs_i, cs_r, cs_n, cs_l, Nat.reduceAdd, Nat.reduceLeDiff, true_and, and_true, eq_self_iff_true, if_true, if_false, Nat.lt_irrefl, s_lit, s_eq, s_le, s_lt, nI_add, pk_mul, s_in, s_cl, bI_n, bI_zn, not_true, not_false_eq_true, true_implies, false_implies, Nat.reduceEqDiff, Nat.reduceMul, Classical.not_not, imp_self, implies_true, t1, r0, s1, s2, z0, k4, i6_0, show h < 12 from by omega]
  · rw [if_neg k4]
    by_cases k1 : f (56 + 6 * h) = nI 1
    · rw [if_pos k1]
      simp (disch := omega) only [c_X1_far, e_X1_far_0, e_X1_far_0n, e_X1_far_1, e_X1_far_4, e_X1_far_5, e_X1_far_6, e_X1_far_7, e_X1_far_10, e_X1_far_11, e_X1_far_12, e_X1_far_12n, e_X1_far_13, e_X1_far_16, e_X1_far_17, e_X1_far_18, e_X1_far_19, e_X1_far_19n, e_X1_far_20, e_X1_far_23, e_X1_far_24, e_X1_far_25, e_X1_far_27, e_X1_far_27n, e_X1_far_28, e_X1_far_31, e_X1_far_32, e_X1_far_33, e_X1_far_35, e_X1_far_35n, e_X1_far_36, e_X1_far_38, e_X1_far_40, e_X1_far_43, e_X1_far_43n, e_X1_far_44, e_X1_far_47, e_X1_far_48, e_X1_far_49, e_X1_far_50, e_X1_far_51, e_X1_far_51n, e_X1_far_52, e_X1_far_54, e_X1_far_56, e_X1_far_59, e_X1_far_59n, e_X1_far_60, e_X1_far_63, e_X1_far_64, e_X1_far_65, e_X1_far_66, e_X1_far_67, e_X1_far_70, e_X1_far_72, e_X1_far_72n, e_X1_far_73, e_X1_far_76, e_X1_far_77, e_X1_far_78, e_X1_far_79, e_X1_far_82, e_X1_far_84, e_X1_far_84n, e_X1_far_85, e_X1_far_88, e_X1_far_89, e_X1_far_90, e_X1_far_90n, e_X1_far_91, e_X1_far_94, e_X1_far_95, e_X1_far_96, e_X1_far_97, e_X1_far_98, e_X1_far_98n, e_X1_far_99, e_X1_far_102, e_X1_far_103, e_X1_far_104, e_X1_far_104n, e_X1_far_105, e_X1_far_108, e_X1_far_109, e_X1_far_110, e_X1_far_111, e_X1_far_112, e_X1_far_115, e_X1_far_116, e_X1_far_118, e_X1_far_120, mNl_i, mNl_r, mNl_n, mNl_l, mNl_0, mRV_s, mRV_n, tl_s, tl_n, cs_0, cs_i, cs_r, cs_n, cs_l, Nat.reduceAdd, Nat.reduceLeDiff, true_and, and_true, eq_self_iff_true, if_true, if_false, Nat.lt_irrefl, s_lit, s_eq, s_le, s_lt, nI_add, pk_mul, s_in, s_cl, bI_n, bI_zn, not_true, not_false_eq_true, true_implies, false_implies, Nat.reduceEqDiff, Nat.reduceMul, Classical.not_not, imp_self, implies_true, tt_z, t1, r0, r1, r2, r3, s1, s2, s3, s4, s5, s6, s7, s8, F1, q5, q6, q7, q8, u6, v6, u7, v7, u8, v8, u9, v9, z0, z1, z2, z3, d1, d2, m5, m6, k1, k_spotXC hF hM hn l2, k_spotYC hF hM hn l2, i3_sub, i3_l, k_dist (hz := tt_z), i6_add, show (1 = 4) = False from eq_false (by omega), show h < 12 from by omega, b2, show 0 < 6 from by omega]
      rfl
    · rw [if_neg k1]
      simp (disch := omega) only [c_X1_far, e_X1_far_0, e_X1_far_0n, e_X1_far_1, e_X1_far_4, e_X1_far_5, e_X1_far_6, e_X1_far_7, e_X1_far_10, e_X1_far_11, e_X1_far_12, e_X1_far_12n, e_X1_far_13, e_X1_far_16, e_X1_far_17, e_X1_far_18, e_X1_far_19, e_X1_far_19n, e_X1_far_20, e_X1_far_23, e_X1_far_24, e_X1_far_25, e_X1_far_27, e_X1_far_27n, e_X1_far_28, e_X1_far_31, e_X1_far_32, e_X1_far_33, e_X1_far_35, e_X1_far_35n, e_X1_far_36, e_X1_far_38, e_X1_far_40, e_X1_far_43, e_X1_far_43n, e_X1_far_44, e_X1_far_47, e_X1_far_48, e_X1_far_49, e_X1_far_50, e_X1_far_51, e_X1_far_51n, e_X1_far_52, e_X1_far_54, e_X1_far_56, e_X1_far_59, e_X1_far_59n, e_X1_far_60, e_X1_far_63, e_X1_far_64, e_X1_far_65, e_X1_far_66, e_X1_far_67, e_X1_far_70, e_X1_far_72, e_X1_far_72n, e_X1_far_73, e_X1_far_76, e_X1_far_77, e_X1_far_78, e_X1_far_79, e_X1_far_82, e_X1_far_84, e_X1_far_84n, e_X1_far_85, e_X1_far_88, e_X1_far_89, e_X1_far_90, e_X1_far_90n, e_X1_far_91, e_X1_far_94, e_X1_far_95, e_X1_far_96, e_X1_far_97, e_X1_far_98, e_X1_far_98n, e_X1_far_99, e_X1_far_102, e_X1_far_103, e_X1_far_104, e_X1_far_104n, e_X1_far_105, e_X1_far_108, e_X1_far_109, e_X1_far_110, e_X1_far_111, e_X1_far_112, e_X1_far_115, e_X1_far_116, e_X1_far_118, e_X1_far_120, mNl_i, mNl_r, mNl_n, mNl_l, mNl_0, mRV_s, mRV_n, tl_s, tl_n, cs_0, cs_i, cs_r, cs_n, cs_l, Nat.reduceAdd, Nat.reduceLeDiff, true_and, and_true, eq_self_iff_true, if_true, if_false, Nat.lt_irrefl, s_lit, s_eq, s_le, s_lt, nI_add, pk_mul, s_in, s_cl, bI_n, bI_zn, not_true, not_false_eq_true, true_implies, false_implies, Nat.reduceEqDiff, Nat.reduceMul, Classical.not_not, imp_self, implies_true, tt_z, t1, r0, r1, r2, r3, s1, s2, s3, s4, s5, s6, s7, s8, F1, q5, q6, q7, q8, u6, v6, u7, v7, u8, v8, u9, v9, z0, z1, z2, z3, d1, d2, m5, m6, eq_false k1, eq_false k4, k_spotXC hF hM hn l2, k_spotYC hF hM hn l2, i3_sub, i3_l, k_dist (hz := tt_z), i6_add, show h < 12 from by omega, b2, show 0 < 6 from by omega]
      rfl
theorem k_free (ha : sPup (tt n) a) (hA : fAll f n1 m) (hH : rHol (blk I a) f n1 m) (hh : h < m) : C_X4_free [.ref (a + 12), .int (nI h)] (tt n, I, L) Q = Q (some (.int (i3 (lnI f h)))) (tt n, I, L) := by
  obtain ⟨-, -, -, -, -, ⟨t1, r0, r1, r2, r3, r4, r5⟩, -, -, -, -, -, -, -, -, -, -, -, -, -, ⟨s9, s10⟩, ⟨s11, s12⟩, -⟩ := id ha
  have hm := hA.2.2.2.1
  obtain ⟨⟨-, -, -, -, z4, z5⟩, -⟩ := hH.2.2.2 h hh
  have z4 : I (a + 17) h = i3 (f (60 + 6 * h)).toInt := by rw [i3_t]; exact z4
  have z5 : I (a + 18) h = i3 (f (61 + 6 * h)).toInt := by rw [i3_t]; exact z5
  simp (disch := omega) only [c_X4_free, e_X4_free_0, e_X4_free_3, e_X4_free_3n, e_X4_free_4, e_X4_free_7, e_X4_free_8, e_X4_free_9, e_X4_free_9n, e_X4_free_10, e_X4_free_13, e_X4_free_14, e_X4_free_15, e_X4_free_16, e_X4_free_17, mNl_i, mNl_r, mNl_n, mNl_l, mNl_0, mRV_s, mRV_n, tl_s, tl_n, cs_0, cs_i, cs_r, cs_n, cs_l, Nat.reduceAdd, Nat.reduceLeDiff, true_and, and_true, eq_self_iff_true, if_true, if_false, Nat.lt_irrefl, s_lit, s_eq, s_le, s_lt, nI_add, pk_mul, s_in, s_cl, bI_n, bI_zn, not_true, not_false_eq_true, true_implies, false_implies, Nat.reduceEqDiff, Nat.reduceMul, Classical.not_not, imp_self, implies_true, t1, r4, r5, s9, s10, s11, s12, z4, z5, i3_sub, n3_mul, Int.cast_ofNat_Int, show h < 12 from by omega]
  rfl
theorem k_tooC (ha : sPup (tt n) a) (hF : sFig (tt n) F) (hA : fAll f n1 m) (hH : rHol (blk I a) f n1 m) (hM : ldC I F f n1) (hh : h < m) : C_X1_tooLong [.ref F, .ref (a + 12), .int (nI h), .long (i6 (frI f h))] (tt n, I, L) Q = Q (some (.long (i6 (exI f h)))) (tt n, I, L) := by
  obtain ⟨-, -, -, -, -, ⟨t1, r0, r1, r2, r3, r4, r5⟩, -, -, -, -, -, -, -, -, -, ⟨s1, s2⟩, ⟨s3, s4⟩, ⟨s5, s6⟩, ⟨s7, s8⟩, -⟩ := id ha
  obtain ⟨l1, l2⟩ := h_l hA hh
  obtain ⟨p1, p2, p3⟩ := h_s hA hh
  have hn := hA.1.1
  have hm := hA.2.2.2.1
  obtain ⟨⟨⟨x1, x2⟩, x3, x4⟩, -⟩ := h_A hA hh
  obtain ⟨⟨z0, z1, z2, z3, -⟩, -⟩ := hH.2.2.2 h hh
  have z0 : I (a + 13) h = f (56 + 6 * h) := z0
  have z1 : I (a + 15) h = nI (hLb f h) := by rw [← l1]; exact z1
  have z2 : I (a + 16) h = i3 (hSp f h) := by rw [← p1]; exact z2
  have e1 := fr_b hA hh
  have e2 := ln_b hA hh
  have e3 := ab_b (x := frI f h - lnI f h) (B := 7000000) (by omega) (by omega)
  unfold exI
  by_cases k4 : f (56 + 6 * h) = nI 4
  · rw [if_pos k4]
    simp (disch := omega) only [c_X1_tooLong, e_X1_tooLong_0, e_X1_tooLong_1, e_X1_tooLong_1n, e_X1_tooLong_2, e_X1_tooLong_3, e_X1_tooLong_6, e_X1_tooLong_7, e_X1_tooLong_8, e_X1_tooLong_10, e_X1_tooLong_10n, e_X1_tooLong_11, e_X1_tooLong_14, e_X1_tooLong_15, e_X1_tooLong_16, e_X1_tooLong_17, e_X1_tooLong_20, e_X1_tooLong_20n, e_X1_tooLong_21, e_X1_tooLong_21n, e_X1_tooLong_22, e_X1_tooLong_25, e_X1_tooLong_26, e_X1_tooLong_27, e_X1_tooLong_27n, e_X1_tooLong_28, e_X1_tooLong_31, e_X1_tooLong_32, e_X1_tooLong_33, e_X1_tooLong_36, e_X1_tooLong_37, e_X1_tooLong_38, e_X1_tooLong_40, e_X1_tooLong_43, e_X1_tooLong_43n, e_X1_tooLong_44, e_X1_tooLong_47, e_X1_tooLong_48, e_X1_tooLong_49, e_X1_tooLong_50, e_X1_tooLong_53, e_X1_tooLong_55, e_X1_tooLong_58, e_X1_tooLong_61, e_X1_tooLong_62, e_X1_tooLong_64, e_X1_tooLong_65, e_X1_tooLong_67, e_X1_tooLong_70, mNl_i, mNl_r, mNl_n, mNl_l, mNl_0, mRV_s, mRV_n, tl_s, tl_n, cs_0, cs_i, cs_r, cs_n, cs_l, Nat.reduceAdd, Nat.reduceLeDiff, true_and, and_true, eq_self_iff_true, if_true, if_false, Nat.lt_irrefl, s_lit, s_eq, s_le, s_lt, nI_add, pk_mul, s_in, s_cl, bI_n, bI_zn, not_true, not_false_eq_true, true_implies, false_implies, Nat.reduceEqDiff, Nat.reduceMul, Classical.not_not, imp_self, implies_true, tt_z, t1, r0, r2, r3, s1, s2, s5, s6, s7, s8, hF.2.1, z0, z1, z2, k4, k_free ha hA hH hh, k_spotYC hF hM hn l2, i3_neg, i3_l, i6_0, i6_sub, i6_mx, show h < 12 from by omega]
  · rw [if_neg k4]
    by_cases k3 : f (56 + 6 * h) = nI 3
    · rw [if_pos k3]
      simp (disch := omega) only [c_X1_tooLong, e_X1_tooLong_0, e_X1_tooLong_1, e_X1_tooLong_1n, e_X1_tooLong_2, e_X1_tooLong_3, e_X1_tooLong_6, e_X1_tooLong_7, e_X1_tooLong_8, e_X1_tooLong_10, e_X1_tooLong_10n, e_X1_tooLong_11, e_X1_tooLong_14, e_X1_tooLong_15, e_X1_tooLong_16, e_X1_tooLong_17, e_X1_tooLong_20, e_X1_tooLong_20n, e_X1_tooLong_21, e_X1_tooLong_21n, e_X1_tooLong_22, e_X1_tooLong_25, e_X1_tooLong_26, e_X1_tooLong_27, e_X1_tooLong_27n, e_X1_tooLong_28, e_X1_tooLong_31, e_X1_tooLong_32, e_X1_tooLong_33, e_X1_tooLong_36, e_X1_tooLong_37, e_X1_tooLong_38, e_X1_tooLong_40, e_X1_tooLong_43, e_X1_tooLong_43n, e_X1_tooLong_44, e_X1_tooLong_47, e_X1_tooLong_48, e_X1_tooLong_49, e_X1_tooLong_50, e_X1_tooLong_53, e_X1_tooLong_55, e_X1_tooLong_58, e_X1_tooLong_61, e_X1_tooLong_62, e_X1_tooLong_64, e_X1_tooLong_65, e_X1_tooLong_67, e_X1_tooLong_70, mNl_i, mNl_r, mNl_n, mNl_l, mNl_0, mRV_s, mRV_n, tl_s, tl_n, cs_0, cs_i, cs_r, cs_n, cs_l, Nat.reduceAdd, Nat.reduceLeDiff, true_and, and_true, eq_self_iff_true, if_true, if_false, Nat.lt_irrefl, s_lit, s_eq, s_le, s_lt, nI_add, pk_mul, s_in, s_cl, bI_n, bI_zn, not_true, not_false_eq_true, true_implies, false_implies, Nat.reduceEqDiff, Nat.reduceMul, Classical.not_not, imp_self, implies_true, tt_z, t1, r0, r2, r3, s1, s2, s5, s6, s7, s8, hF.2.1, z0, z1, z2, k3, k_free ha hA hH hh, k_spotYC hF hM hn l2, i3_neg, i3_l, i6_0, i6_1024, i6_sub, i6_mx, i6_ab, show (3 = 4) = False from eq_false (by omega), show h < 12 from by omega]
    · rw [if_neg k3]
      simp (disch := omega) only [c_X1_tooLong, e_X1_tooLong_0, e_X1_tooLong_1, e_X1_tooLong_1n, e_X1_tooLong_2, e_X1_tooLong_3, e_X1_tooLong_6, e_X1_tooLong_7, e_X1_tooLong_8, e_X1_tooLong_10, e_X1_tooLong_10n, e_X1_tooLong_11, e_X1_tooLong_14, e_X1_tooLong_15, e_X1_tooLong_16, e_X1_tooLong_17, e_X1_tooLong_20, e_X1_tooLong_20n, e_X1_tooLong_21, e_X1_tooLong_21n, e_X1_tooLong_22, e_X1_tooLong_25, e_X1_tooLong_26, e_X1_tooLong_27, e_X1_tooLong_27n, e_X1_tooLong_28, e_X1_tooLong_31, e_X1_tooLong_32, e_X1_tooLong_33, e_X1_tooLong_36, e_X1_tooLong_37, e_X1_tooLong_38, e_X1_tooLong_40, e_X1_tooLong_43, e_X1_tooLong_43n, e_X1_tooLong_44, e_X1_tooLong_47, e_X1_tooLong_48, e_X1_tooLong_49, e_X1_tooLong_50, e_X1_tooLong_53, e_X1_tooLong_55, e_X1_tooLong_58, e_X1_tooLong_61, e_X1_tooLong_62, e_X1_tooLong_64, e_X1_tooLong_65, e_X1_tooLong_67, e_X1_tooLong_70, mNl_i, mNl_r, mNl_n, mNl_l, mNl_0, mRV_s, mRV_n, tl_s, tl_n, cs_0, cs_i, cs_r, cs_n, cs_l, Nat.reduceAdd, Nat.reduceLeDiff, true_and, and_true, eq_self_iff_true, if_true, if_false, Nat.lt_irrefl, s_lit, s_eq, s_le, s_lt, nI_add, pk_mul, s_in, s_cl, bI_n, bI_zn, not_true, not_false_eq_true, true_implies, false_implies, Nat.reduceEqDiff, Nat.reduceMul, Classical.not_not, imp_self, implies_true, tt_z, t1, r0, r2, r3, s1, s2, s5, s6, s7, s8, hF.2.1, z0, z1, z2, eq_false k3, eq_false k4, k_free ha hA hH hh, k_spotYC hF hM hn l2, i3_neg, i3_l, i6_0, i6_1024, i6_sub, i6_mx, show h < 12 from by omega]
theorem k_tautC (ha : sPup (tt n) a) (hA : fAll f n1 m) (hH : rHol (blk I a) f n1 m) (hh : h < m) : C_X4_isTaut [.ref (a + 12), .int (nI h), .long (i6 (frI f h))] (tt n, I, L) Q = Q (some (.int (bI (tauI f h)))) (tt n, I, L) := by
  obtain ⟨-, -, -, -, -, ⟨t1, r0, r1, r2, r3, r4, r5⟩, -, -, -, -, -, -, -, -, -, ⟨s1, s2⟩, -⟩ := id ha
  have hm := hA.2.2.2.1
  obtain ⟨⟨z0, -⟩, -⟩ := hH.2.2.2 h hh
  have z0 : I (a + 13) h = f (56 + 6 * h) := z0
  have e1 := fr_b hA hh
  have e2 := ln_b hA hh
  by_cases k4 : f (56 + 6 * h) = nI 4
  · rw [bI_f (fun z => z.1 k4)]
    simp (disch := omega) only [c_X4_isTaut, e_X4_isTaut_0, e_X4_isTaut_0n, e_X4_isTaut_1, e_X4_isTaut_4, e_X4_isTaut_5, e_X4_isTaut_6, e_X4_isTaut_7, e_X4_isTaut_10, e_X4_isTaut_11, e_X4_isTaut_11n, e_X4_isTaut_12, e_X4_isTaut_13, e_X4_isTaut_16, e_X4_isTaut_19, e_X4_isTaut_20, e_X4_isTaut_21, e_X4_isTaut_22, e_X4_isTaut_25, e_X4_isTaut_26, e_X4_isTaut_29, e_X4_isTaut_30, mNl_i, mNl_r, mNl_n, mNl_l, mNl_0, mRV_s, mRV_n, tl_s, tl_n, cs_0, cs_i, cs_r, cs_n, cs_l, Nat.reduceAdd, Nat.reduceLeDiff, true_and, and_true, eq_self_iff_true, if_true, if_false, Nat.lt_irrefl, s_lit, s_eq, s_le, s_lt, nI_add, pk_mul, s_in, s_cl, bI_n, bI_zn, not_true, not_false_eq_true, true_implies, false_implies, Nat.reduceEqDiff, Nat.reduceMul, Classical.not_not, imp_self, implies_true, tt_z, t1, r0, s1, s2, z0, k4, k_free ha hA hH hh, true_or, show h < 12 from by omega]
  · by_cases hx : frI f h < lnI f h - 512
    · rw [bI_f (fun z => by have := z.2; omega)]
      simp (disch := omega) only [c_X4_isTaut, e_X4_isTaut_0, e_X4_isTaut_0n, e_X4_isTaut_1, e_X4_isTaut_4, e_X4_isTaut_5, e_X4_isTaut_6, e_X4_isTaut_7, e_X4_isTaut_10, e_X4_isTaut_11, e_X4_isTaut_11n, e_X4_isTaut_12, e_X4_isTaut_13, e_X4_isTaut_16, e_X4_isTaut_19, e_X4_isTaut_20, e_X4_isTaut_21, e_X4_isTaut_22, e_X4_isTaut_25, e_X4_isTaut_26, e_X4_isTaut_29, e_X4_isTaut_30, mNl_i, mNl_r, mNl_n, mNl_l, mNl_0, mRV_s, mRV_n, tl_s, tl_n, cs_0, cs_i, cs_r, cs_n, cs_l, Nat.reduceAdd, Nat.reduceLeDiff, true_and, and_true, eq_self_iff_true, if_true, if_false, Nat.lt_irrefl, s_lit, s_eq, s_le, s_lt, nI_add, pk_mul, s_in, s_cl, bI_n, bI_zn, not_true, not_false_eq_true, true_implies, false_implies, Nat.reduceEqDiff, Nat.reduceMul, Classical.not_not, imp_self, implies_true, tt_z, t1, r0, s1, s2, z0, eq_false k4, k_free ha hA hH hh, i3n_sub, i3_l, q_lt, i6_lt, Int.cast_ofNat_Int, eq_true hx, true_or, or_true, show h < 12 from by omega]
    · rw [bI_t ⟨k4, by omega⟩]
      simp (disch := omega) only [c_X4_isTaut, e_X4_isTaut_0, e_X4_isTaut_0n, e_X4_isTaut_1, e_X4_isTaut_4, e_X4_isTaut_5, e_X4_isTaut_6, e_X4_isTaut_7, e_X4_isTaut_10, e_X4_isTaut_11, e_X4_isTaut_11n, e_X4_isTaut_12, e_X4_isTaut_13, e_X4_isTaut_16, e_X4_isTaut_19, e_X4_isTaut_20, e_X4_isTaut_21, e_X4_isTaut_22, e_X4_isTaut_25, e_X4_isTaut_26, e_X4_isTaut_29, e_X4_isTaut_30, mNl_i, mNl_r, mNl_n, mNl_l, mNl_0, mRV_s, mRV_n, tl_s, tl_n, cs_0, cs_i, cs_r, cs_n, cs_l, Nat.reduceAdd, Nat.reduceLeDiff, true_and, and_true, eq_self_iff_true, if_true, if_false, Nat.lt_irrefl, s_lit, s_eq, s_le, s_lt, nI_add, pk_mul, s_in, s_cl, bI_n, bI_zn, not_true, not_false_eq_true, true_implies, false_implies, Nat.reduceEqDiff, Nat.reduceMul, Classical.not_not, imp_self, implies_true, tt_z, t1, r0, s1, s2, z0, eq_false k4, k_free ha hA hH hh, i3n_sub, i3_l, q_lt, i6_lt, Int.cast_ofNat_Int, eq_false hx, true_or, or_true, show h < 12 from by omega]
theorem l_depC (ha : sPup (tt n) a) (hF : sFig (tt n) F) (hA : fAll f n1 m) (hR : rLim (blk I a) f n1) (hM : ldC I F f n1) : ∀ (d k : Nat), k + d = n1 → mWP tb_X1_depthOf Q 5 [some (.ref F), some (.ref (a + 1)), some (.long (i6 (dpI f k))), none, some (.int (nI k))] [] (tt n, I, L) = Q (some (.long (i6 (dpI f n1)))) (tt n, I, L) := by
  obtain ⟨-, -, ⟨t1, r0, r1, r2, r3⟩, -, -, -, -, -, ⟨s1, s2⟩, -⟩ := id ha
  obtain ⟨F0, F1, ⟨q0, q1, q2, q3, q4, q5, q6, q7, q8⟩, -, -, -, -, ⟨u5, v5⟩, -, ⟨u7, v7⟩, -⟩ := id hF
  have hn := hA.1.1
  have c0 : I (a + 1) 4 = nI n1 := hR.2.1
  intro d
  induction d with
  | zero =>
    intro k hk
    have : k = n1 := by omega
    subst this
    simp (disch := omega) only [e_X1_depthOf_0, e_X1_depthOf_1, e_X1_depthOf_2, e_X1_depthOf_3, e_X1_depthOf_5, e_X1_depthOf_7, e_X1_depthOf_7n, e_X1_depthOf_8, e_X1_depthOf_11, e_X1_depthOf_15, e_X1_depthOf_15n, e_X1_depthOf_16, e_X1_depthOf_19, e_X1_depthOf_21, e_X1_depthOf_22, e_X1_depthOf_23, e_X1_depthOf_23n, e_X1_depthOf_24, e_X1_depthOf_27, e_X1_depthOf_29, e_X1_depthOf_30, e_X1_depthOf_30n, e_X1_depthOf_31, e_X1_depthOf_34, e_X1_depthOf_36, e_X1_depthOf_37, e_X1_depthOf_38, e_X1_depthOf_39, e_X1_depthOf_40, e_X1_depthOf_41, e_X1_depthOf_42, e_X1_depthOf_45, e_X1_depthOf_48, e_X1_depthOf_49, mNl_i, mNl_r, mNl_n, mNl_l, mNl_0, mRV_s, mRV_n, tl_s, tl_n, cs_0, cs_i, cs_r, cs_n, cs_l, Nat.reduceAdd, Nat.reduceLeDiff, true_and, and_true, eq_self_iff_true, if_true, if_false, Nat.lt_irrefl, s_lit, s_eq, s_le, s_lt, nI_add, pk_mul, s_in, s_cl, bI_n, bI_zn, not_true, not_false_eq_true, true_implies, false_implies, Nat.reduceEqDiff, Nat.reduceMul, Classical.not_not, imp_self, implies_true, t1, c0, Nat.le_refl]
  | succ d ih =>
    intro k hk
    have hk1 : k < n1 := by omega
    have z1 : I (a + 3) k = i3 (f (7 + k)).toInt := by rw [i3_t]; exact (hR.2.2.2 k hk1).2.1
    obtain ⟨-, -, -, -, m4, -, m6⟩ := hM k hk1
    obtain ⟨-, -, -, -, g4, -, g6⟩ := G_b hA.1 hA.2.1 k hk1
    rw [e_X1_depthOf_5]
    simp (disch := omega) only [e_X1_depthOf_0, e_X1_depthOf_1, e_X1_depthOf_2, e_X1_depthOf_3, e_X1_depthOf_7, e_X1_depthOf_7n, e_X1_depthOf_8, e_X1_depthOf_11, e_X1_depthOf_14, e_X1_depthOf_15, e_X1_depthOf_15n, e_X1_depthOf_16, e_X1_depthOf_19, e_X1_depthOf_21, e_X1_depthOf_22, e_X1_depthOf_23, e_X1_depthOf_23n, e_X1_depthOf_24, e_X1_depthOf_27, e_X1_depthOf_29, e_X1_depthOf_30, e_X1_depthOf_30n, e_X1_depthOf_31, e_X1_depthOf_34, e_X1_depthOf_36, e_X1_depthOf_37, e_X1_depthOf_38, e_X1_depthOf_39, e_X1_depthOf_40, e_X1_depthOf_41, e_X1_depthOf_42, e_X1_depthOf_45, e_X1_depthOf_49, mNl_i, mNl_r, mNl_n, mNl_l, mNl_0, mRV_s, mRV_n, tl_s, tl_n, cs_0, cs_i, cs_r, cs_n, cs_l, Nat.reduceAdd, Nat.reduceLeDiff, true_and, and_true, eq_self_iff_true, if_true, if_false, Nat.lt_irrefl, s_lit, s_eq, s_le, s_lt, nI_add, pk_mul, s_in, s_cl, bI_n, bI_zn, not_true, not_false_eq_true, true_implies, false_implies, Nat.reduceEqDiff, Nat.reduceMul, Classical.not_not, imp_self, implies_true, t1, r1, s1, s2, F1, q4, q6, u5, v5, u7, v7, c0, z1, m4, m6, i3t_l, i3_add, i3_l, i6_mul, i6_add, show (n1 ≤ k) = False from eq_false (by omega), show k < 6 from by omega]
    exact ih (k + 1) (by omega)
theorem k_depC (ha : sPup (tt n) a) (hF : sFig (tt n) F) (hA : fAll f n1 m) (hR : rLim (blk I a) f n1) (hM : ldC I F f n1) : C_X1_depthOf [.ref F, .ref (a + 1)] (tt n, I, L) Q = Q (some (.long (i6 (dpI f n1)))) (tt n, I, L) := by
  have h := l_depC (Q := Q) (L := L) ha hF hA hR hM n1 0 (by omega)
  simp (disch := omega) only [c_X1_depthOf, e_X1_depthOf_0, e_X1_depthOf_1, e_X1_depthOf_2, e_X1_depthOf_3, e_X1_depthOf_7, e_X1_depthOf_7n, e_X1_depthOf_8, e_X1_depthOf_11, e_X1_depthOf_14, e_X1_depthOf_15, e_X1_depthOf_15n, e_X1_depthOf_16, e_X1_depthOf_19, e_X1_depthOf_21, e_X1_depthOf_22, e_X1_depthOf_23, e_X1_depthOf_23n, e_X1_depthOf_24, e_X1_depthOf_27, e_X1_depthOf_29, e_X1_depthOf_30, e_X1_depthOf_30n, e_X1_depthOf_31, e_X1_depthOf_34, e_X1_depthOf_36, e_X1_depthOf_37, e_X1_depthOf_38, e_X1_depthOf_39, e_X1_depthOf_40, e_X1_depthOf_41, e_X1_depthOf_42, e_X1_depthOf_45, e_X1_depthOf_48, e_X1_depthOf_49, mNl_i, mNl_r, mNl_n, mNl_l, mNl_0, mRV_s, mRV_n, tl_s, tl_n, cs_0, cs_i, cs_r, cs_n, cs_l, Nat.reduceAdd, Nat.reduceLeDiff, true_and, and_true, eq_self_iff_true, if_true, if_false, Nat.lt_irrefl, s_lit, s_eq, s_le, s_lt, nI_add, pk_mul, s_in, s_cl, bI_n, bI_zn, not_true, not_false_eq_true, true_implies, false_implies, Nat.reduceEqDiff, Nat.reduceMul, Classical.not_not, imp_self, implies_true, i6_0]
  exact h
end
