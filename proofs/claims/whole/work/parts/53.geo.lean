/-! ===== where limbs lie: one pure picture ===== -/
def sI (z : Int) : Int := (mSn (z % 64).toNat).toInt
theorem mSn_b : ∀ j, j < 64 → -1024 ≤ (mSn j).toInt ∧ (mSn j).toInt ≤ 1024 := by decide
theorem sI_b (z : Int) : -1024 ≤ sI z ∧ sI z ≤ 1024 := mSn_b _ (by have := Int.emod_nonneg z (show (64 : Int) ≠ 0 by decide); have := Int.emod_lt_of_pos z (show (0 : Int) < 64 by decide); omega)
/-- limb k out of the earlier ones: 0 direction, 1, 2 step, 3, 4 start, 5, 6 end -/
def gN (f : Nat → Int32) (k : Nat) (g : Nat → Nat → Int) (w : Nat) : Int :=
  let way := ((if (f (13 + k)).toInt < 0 then 0 else g 0 (f (13 + k)).toInt.toNat) + (f (19 + k)).toInt) % 64
  let sx := if (f (13 + k)).toInt < 0 then 1024 * (f 25).toInt else g 5 (f (13 + k)).toInt.toNat
  let sy := if (f (13 + k)).toInt < 0 then 1024 * (f 26).toInt else g 6 (f (13 + k)).toInt.toNat
  match w with
  | 0 => way
  | 1 => sI way
  | 2 => -sI (way + 16)
  | 3 => sx
  | 4 => sy
  | 5 => sx + (f (1 + k)).toInt * sI way
  | _ => sy + (f (1 + k)).toInt * -sI (way + 16)
def gG (f : Nat → Int32) : Nat → Nat → Nat → Int
  | 0 => fun _ _ => 0
  | k + 1 => fun w j => if j = k then gN f k (gG f k) w else gG f k w j
def G (f : Nat → Int32) (w j : Nat) : Int := gG f (j + 1) w j
theorem gG_lt (f : Nat → Int32) {k w j : Nat} (h : j < k) : gG f k w j = G f w j := by
  induction k with
  | zero => omega
  | succ k ih =>
    by_cases e : j = k
    · subst e; rfl
    · show (if j = k then _ else _) = _
      rw [if_neg e, ih (by omega)]
theorem G_n {f : Nat → Int32} {k : Nat} (w : Nat) (h : (f (13 + k)).toInt < k) : G f w k = gN f k (G f) w := by
  show (if k = k then gN f k (gG f k) w else _) = _
  rw [if_pos rfl]
  by_cases e : (f (13 + k)).toInt < 0
  · unfold gN; simp only [if_pos e]
  · unfold gN; simp only [if_neg e]
    rw [gG_lt f (show (f (13 + k)).toInt.toNat < k by omega), gG_lt f (show (f (13 + k)).toInt.toNat < k by omega), gG_lt f (show (f (13 + k)).toInt.toNat < k by omega)]
section
variable {f : Nat → Int32} {k j : Nat}
theorem G_r0 (h : (f (13 + k)).toInt < 0) : G f 0 k = (0 + (f (19 + k)).toInt) % 64 ∧ G f 3 k = 1024 * (f 25).toInt ∧ G f 4 k = 1024 * (f 26).toInt := by
  rw [G_n 0 (by omega), G_n 3 (by omega), G_n 4 (by omega)]
  unfold gN; simp only [if_pos h]; exact ⟨trivial, trivial, trivial⟩
theorem G_r1 (h : f (13 + k) = nI j) (hj : j < k) (hk : k < 6) : G f 0 k = (G f 0 j + (f (19 + k)).toInt) % 64 ∧ G f 3 k = G f 5 j ∧ G f 4 k = G f 6 j := by
  have e : (f (13 + k)).toInt = j := by rw [h, s_toI (by omega)]
  rw [G_n 0 (by omega), G_n 3 (by omega), G_n 4 (by omega)]
  unfold gN; simp only [e, if_neg (show ¬ (j : Int) < 0 by omega), Int.toNat_natCast]; exact ⟨trivial, trivial, trivial⟩
theorem G_r2 (h : (f (13 + k)).toInt < k) : G f 1 k = sI (G f 0 k) ∧ G f 2 k = -sI (G f 0 k + 16) ∧ G f 5 k = G f 3 k + (f (1 + k)).toInt * G f 1 k ∧ G f 6 k = G f 4 k + (f (1 + k)).toInt * G f 2 k := by
  rw [G_n 0 (by omega), G_n 1 (by omega), G_n 2 (by omega), G_n 3 (by omega), G_n 4 (by omega), G_n 5 (by omega), G_n 6 (by omega)]
  exact ⟨rfl, rfl, rfl, rfl⟩
end
/-- what is known of a row with n limbs -/
def fLim (f : Nat → Int32) (n : Nat) : Prop := n ≤ 6 ∧ ∀ k, k < n → inR (f (1 + k)) 1 100 ∧ inR (f (7 + k)) 0 50 ∧ inR (f (13 + k)) (-1) ((k : Int) - 1) ∧ inR (f (19 + k)) (-32) 31
def fPin (f : Nat → Int32) : Prop := inR (f 25) (-300) 300 ∧ inR (f 26) (-300) 300
theorem fLim_of {c : Nat → Nat → Int32} {f : Nat → Int32} {n : Nat} (h : rLim c f n) : fLim f n := ⟨h.1, fun k hk => (h.2.2.2 k hk).2.2.2.2⟩
theorem par_cases {f : Nat → Int32} {n k : Nat} (h : fLim f n) (hk : k < n) : (f (13 + k)).toInt < 0 ∨ ∃ j, j < k ∧ f (13 + k) = nI j := by
  have h1 := (h.2 k hk).2.2.1
  by_cases e : (f (13 + k)).toInt < 0
  · exact Or.inl e
  · have := h1.2
    have hn := h.1
    refine Or.inr ⟨(f (13 + k)).toInt.toNat, by omega, ?_⟩
    refine Int32.toInt_inj.mp ?_
    rw [s_toI (by omega)]; omega
/-- where all can be -/
theorem G_b {f : Nat → Int32} {n : Nat} (h : fLim f n) (hp : fPin f) : ∀ k, k < n → (0 ≤ G f 0 k ∧ G f 0 k < 64) ∧ (-1024 ≤ G f 1 k ∧ G f 1 k ≤ 1024) ∧ (-1024 ≤ G f 2 k ∧ G f 2 k ≤ 1024) ∧ (-(307200 + 102400 * (k : Int)) ≤ G f 3 k ∧ G f 3 k ≤ 307200 + 102400 * k) ∧ (-(307200 + 102400 * (k : Int)) ≤ G f 4 k ∧ G f 4 k ≤ 307200 + 102400 * k) ∧ (-(409600 + 102400 * (k : Int)) ≤ G f 5 k ∧ G f 5 k ≤ 409600 + 102400 * k) ∧ (-(409600 + 102400 * (k : Int)) ≤ G f 6 k ∧ G f 6 k ≤ 409600 + 102400 * k) := by
  intro k
  induction k using Nat.strongRecOn with
  | ind k ih =>
    intro hk
    obtain ⟨l1, l2, l3, l4⟩ := h.2 k hk
    have hlt : (f (13 + k)).toInt < k := by have := l3.2; omega
    obtain ⟨e1, e2, e5, e6⟩ := G_r2 hlt
    have b1 := sI_b (G f 0 k)
    have b2 := sI_b (G f 0 k + 16)
    have m1 := mul_b (a := (f (1 + k)).toInt) (b := G f 1 k) (A := 100) (B := 1024) (by have := l1.1; omega) l1.2 (by omega) (by omega)
    have m2 := mul_b (a := (f (1 + k)).toInt) (b := G f 2 k) (A := 100) (B := 1024) (by have := l1.1; omega) l1.2 (by omega) (by omega)
    have c0 : (0 ≤ G f 0 k ∧ G f 0 k < 64) ∧ (-(307200 + 102400 * (k : Int)) ≤ G f 3 k ∧ G f 3 k ≤ 307200 + 102400 * k) ∧ (-(307200 + 102400 * (k : Int)) ≤ G f 4 k ∧ G f 4 k ≤ 307200 + 102400 * k) := by
      rcases par_cases h hk with e | ⟨j, hj, e⟩
      · obtain ⟨g0, g3, g4⟩ := G_r0 e
        obtain ⟨⟨p1, p2⟩, p3, p4⟩ := hp
        rw [g0, g3, g4]
        omega
      · obtain ⟨g0, g3, g4⟩ := G_r1 e hj (by have := h.1; omega)
        obtain ⟨-, -, -, -, -, i5, i6⟩ := ih j hj (by omega)
        rw [g0, g3, g4]
        omega
    obtain ⟨c1, c3, c4⟩ := c0
    refine ⟨c1, by omega, by omega, c3, c4, ?_, ?_⟩
    · rw [e5]; omega
    · rw [e6]; omega
/-! a figure's shape -/
def sFig (t : mTT) (F : Nat) : Prop := 2 ≤ F ∧ mTg t F = 4 ∧ (mRf t F 0 = some (F + 1) ∧ mRf t F 1 = some (F + 2) ∧ mRf t F 2 = some (F + 3) ∧ mRf t F 3 = some (F + 4) ∧ mRf t F 4 = some (F + 5) ∧ mRf t F 5 = some (F + 6) ∧ mRf t F 6 = some (F + 7) ∧ mRf t F 7 = some (F + 8) ∧ mRf t F 8 = some (F + 9)) ∧ (sArr t (F + 1) 6 ∧ sArr t (F + 2) 6 ∧ sArr t (F + 3) 6 ∧ sArr t (F + 4) 6 ∧ sArr t (F + 5) 6 ∧ sArr t (F + 6) 6 ∧ sArr t (F + 7) 6 ∧ sArr t (F + 8) 6 ∧ sArr t (F + 9) 6)
theorem sf_294 {n : Nat} : sFig (tt n) 294 := ⟨by decide, rfl, ⟨rfl, rfl, rfl, rfl, rfl, rfl, rfl, rfl, rfl⟩, ⟨rfl, rfl⟩, ⟨rfl, rfl⟩, ⟨rfl, rfl⟩, ⟨rfl, rfl⟩, ⟨rfl, rfl⟩, ⟨rfl, rfl⟩, ⟨rfl, rfl⟩, ⟨rfl, rfl⟩, ⟨rfl, rfl⟩⟩
theorem sf_304 {n : Nat} : sFig (tt n) 304 := ⟨by decide, rfl, ⟨rfl, rfl, rfl, rfl, rfl, rfl, rfl, rfl, rfl⟩, ⟨rfl, rfl⟩, ⟨rfl, rfl⟩, ⟨rfl, rfl⟩, ⟨rfl, rfl⟩, ⟨rfl, rfl⟩, ⟨rfl, rfl⟩, ⟨rfl, rfl⟩, ⟨rfl, rfl⟩, ⟨rfl, rfl⟩⟩
theorem sf_315 {n : Nat} : sFig (tt n) 315 := ⟨by decide, rfl, ⟨rfl, rfl, rfl, rfl, rfl, rfl, rfl, rfl, rfl⟩, ⟨rfl, rfl⟩, ⟨rfl, rfl⟩, ⟨rfl, rfl⟩, ⟨rfl, rfl⟩, ⟨rfl, rfl⟩, ⟨rfl, rfl⟩, ⟨rfl, rfl⟩, ⟨rfl, rfl⟩, ⟨rfl, rfl⟩⟩
/-- the sines stand in both rows -/
def rSin (I : Nat → Nat → Int32) : Prop := ∀ j, j < 64 → I 332 j = mSn j ∧ I 1 j = mSn j
theorem sI_at (z : Int) : mSn (z % 64).toNat = i3 (sI z) := (i3_t _).symm
theorem m64 (z : Int) : 0 ≤ z % 64 ∧ z % 64 < 64 := ⟨Int.emod_nonneg z (by decide), Int.emod_lt_of_pos z (by decide)⟩
theorem i3_m (z : Int) : i3 (z % 64) = nI (z % 64).toNat := by
  rw [← i3_n]; congr 1; have := m64 z; omega
section
variable {Q : mQo} {n : Nat} {I : Nat → Nat → Int32} {L : Nat → Nat → Int64}
theorem k_sine {z : Int} : C_X10_sine [.int (i3 z)] (tt n, I, L) Q = Q (some (.int (I 1 (z % 64).toNat))) (tt n, I, L) := by
  have hm := m64 z
  have hj : (z % 64).toNat < 64 := by omega
  simp (disch := omega) only [c_X10_sine, e_X10_sine_0, e_X10_sine_3, e_X10_sine_4, e_X10_sine_6, e_X10_sine_7, e_X10_sine_8, mNl_i, mNl_r, mNl_n, mNl_l, mNl_0, mRV_s, mRV_n, tl_s, tl_n, cs_0, cs_i, cs_r, cs_n, cs_l, Nat.reduceAdd, Nat.reduceLeDiff, true_and, and_true, eq_self_iff_true, if_true, if_false, Nat.lt_irrefl, s_lit, s_eq, s_le, s_lt, nI_add, pk_mul, s_in, s_cl, bI_n, bI_zn, not_true, not_false_eq_true, true_implies, false_implies, Nat.reduceEqDiff, Nat.reduceMul, Classical.not_not, imp_self, implies_true, tg_1, ln_1, i3_and, i3_m, hj]
theorem k_cosine {z : Int} : C_X10_cosine [.int (i3 z)] (tt n, I, L) Q = Q (some (.int (I 1 ((z + 16) % 64).toNat))) (tt n, I, L) := by
  have hm := m64 (z + 16)
  have hj : ((z + 16) % 64).toNat < 64 := by omega
  simp (disch := omega) only [c_X10_cosine, e_X10_cosine_0, e_X10_cosine_3, e_X10_cosine_4, e_X10_cosine_6, e_X10_cosine_7, e_X10_cosine_9, e_X10_cosine_10, e_X10_cosine_11, mNl_i, mNl_r, mNl_n, mNl_l, mNl_0, mRV_s, mRV_n, tl_s, tl_n, cs_0, cs_i, cs_r, cs_n, cs_l, Nat.reduceAdd, Nat.reduceLeDiff, true_and, and_true, eq_self_iff_true, if_true, if_false, Nat.lt_irrefl, s_lit, s_eq, s_le, s_lt, nI_add, pk_mul, s_in, s_cl, bI_n, bI_zn, not_true, not_false_eq_true, true_implies, false_implies, Nat.reduceEqDiff, Nat.reduceMul, Classical.not_not, imp_self, implies_true, tg_1, ln_1, i3n_add, i3_and, Int.cast_ofNat_Int, i3_m, hj]
theorem k_sin {z : Int} : C_X11_sin [.ref 329, .int (i3 z)] (tt n, I, L) Q = Q (some (.int (I 332 (z % 64).toNat))) (tt n, I, L) := by
  have hm := m64 z
  have hj : (z % 64).toNat < 64 := by omega
  simp (disch := omega) only [c_X11_sin, e_X11_sin_0, e_X11_sin_0n, e_X11_sin_1, e_X11_sin_4, e_X11_sin_5, e_X11_sin_7, e_X11_sin_8, e_X11_sin_9, mNl_i, mNl_r, mNl_n, mNl_l, mNl_0, mRV_s, mRV_n, tl_s, tl_n, cs_0, cs_i, cs_r, cs_n, cs_l, Nat.reduceAdd, Nat.reduceLeDiff, true_and, and_true, eq_self_iff_true, if_true, if_false, Nat.lt_irrefl, s_lit, s_eq, s_le, s_lt, nI_add, pk_mul, s_in, s_cl, bI_n, bI_zn, not_true, not_false_eq_true, true_implies, false_implies, Nat.reduceEqDiff, Nat.reduceMul, Classical.not_not, imp_self, implies_true, tg_329, rf_329_4, tg_332, ln_332, i3_and, i3_m, hj]
theorem k_cos {z : Int} : C_X11_cos [.ref 329, .int (i3 z)] (tt n, I, L) Q = Q (some (.int (I 332 ((z + 16) % 64).toNat))) (tt n, I, L) := by
  have hm := m64 (z + 16)
  have hj : ((z + 16) % 64).toNat < 64 := by omega
  simp (disch := omega) only [c_X11_cos, e_X11_cos_0, e_X11_cos_0n, e_X11_cos_1, e_X11_cos_4, e_X11_cos_5, e_X11_cos_7, e_X11_cos_8, e_X11_cos_10, e_X11_cos_11, e_X11_cos_12, mNl_i, mNl_r, mNl_n, mNl_l, mNl_0, mRV_s, mRV_n, tl_s, tl_n, cs_0, cs_i, cs_r, cs_n, cs_l, Nat.reduceAdd, Nat.reduceLeDiff, true_and, and_true, eq_self_iff_true, if_true, if_false, Nat.lt_irrefl, s_lit, s_eq, s_le, s_lt, nI_add, pk_mul, s_in, s_cl, bI_n, bI_zn, not_true, not_false_eq_true, true_implies, false_implies, Nat.reduceEqDiff, Nat.reduceMul, Classical.not_not, imp_self, implies_true, tg_329, rf_329_4, tg_332, ln_332, i3n_add, i3_and, Int.cast_ofNat_Int, i3_m, hj]
theorem sn_1 (hs : rSin I) (z : Int) : I 1 (z % 64).toNat = i3 (sI z) := by
  have hm := m64 z
  rw [(hs _ (by omega)).2, sI_at]
theorem sn_2 (hs : rSin I) (z : Int) : I 332 (z % 64).toNat = i3 (sI z) := by
  have hm := m64 z
  rw [(hs _ (by omega)).1, sI_at]
theorem sI_l (z : Int) : (i3 (sI z)).toInt64 = i6 (sI z) := by have := sI_b z; exact i3_l (by omega) (by omega)
theorem i3t_l (x : Int32) : (i3 x.toInt).toInt64 = i6 x.toInt := by rw [i3_t, t_l]
end
theorem mUL_no {f : Nat → Nat → Int64} {a k x j : Nat} {v : Int64} (h : ¬ (x = a ∧ j = k)) : mUL f a k v x j = f x j := by
  unfold mUL
  by_cases h1 : x = a
  · rw [if_pos h1, if_neg (fun z => h ⟨h1, z⟩)]
  · rw [if_neg h1]
theorem mUL_yes {f : Nat → Nat → Int64} {a k x j : Nat} {v : Int64} (h : x = a ∧ j = k) : mUL f a k v x j = v := by
  unfold mUL; rw [if_pos h.1, if_pos h.2]
