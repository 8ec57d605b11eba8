/-! ===== ints as images of Int ===== -/
def i3 (z : Int) : Int32 := Int32.ofInt z
def i6 (z : Int) : Int64 := Int64.ofInt z
theorem i3_t (x : Int32) : i3 x.toInt = x := Int32.ofInt_toInt x
theorem i3_n (n : Nat) : i3 n = nI n := Int32.ofInt_eq_ofNat
theorem i3_add (a b : Int) : i3 a + i3 b = i3 (a + b) := (Int32.ofInt_add a b).symm
theorem i3_sub (a b : Int) : i3 a - i3 b = i3 (a - b) := (Int32.ofInt_sub a b).symm
theorem i3_mul (a b : Int) : i3 a * i3 b = i3 (a * b) := (Int32.ofInt_mul a b).symm
theorem i3_neg (a : Int) : -i3 a = i3 (-a) := (Int32.ofInt_neg a).symm
theorem n3_add (n : Nat) (z : Int) : nI n + i3 z = i3 (n + z) := by rw [← i3_n, i3_add]
theorem n3_mul (n : Nat) (z : Int) : nI n * i3 z = i3 (n * z) := by rw [← i3_n, i3_mul]
theorem i3n_add (n : Nat) (z : Int) : i3 z + nI n = i3 (z + n) := by rw [← i3_n, i3_add]
theorem i3n_sub (n : Nat) (z : Int) : i3 z - nI n = i3 (z - n) := by rw [← i3_n, i3_sub]
theorem i3_toInt {z : Int} (h1 : -2147483648 ≤ z) (h2 : z < 2147483648) : (i3 z).toInt = z := Int32.toInt_ofInt_of_le h1 h2
theorem i6_toInt {z : Int} (h1 : -9223372036854775808 ≤ z) (h2 : z < 9223372036854775808) : (i6 z).toInt = z := Int64.toInt_ofInt_of_le h1 h2
theorem i3_l {z : Int} (h1 : -2147483648 ≤ z) (h2 : z < 2147483648) : (i3 z).toInt64 = i6 z := by
  have : Int64.ofInt (i3 z).toInt = (i3 z).toInt64 := Int64.ofInt_int32ToInt _
  rw [← this, i3_toInt h1 h2]; rfl
theorem t_l (x : Int32) : x.toInt64 = i6 x.toInt := (Int64.ofInt_int32ToInt x).symm
theorem nI_l6 {n : Nat} (h : n < 2147483648) : (nI n).toInt64 = i6 n := by rw [← i3_n, i3_l (by omega) (by omega)]
theorem i6_n (n : Nat) : (OfNat.ofNat n : Int64) = i6 n := (Int64.ofInt_eq_ofNat (n := n)).symm
theorem i6_0 : (0 : Int64) = i6 0 := i6_n 0
theorem i6_1 : (1 : Int64) = i6 1 := i6_n 1
theorem i6_2 : (2 : Int64) = i6 2 := i6_n 2
theorem i6_512 : (512 : Int64) = i6 512 := i6_n 512
theorem i6_1024 : (1024 : Int64) = i6 1024 := i6_n 1024
theorem i6_2e9 : (2000000000 : Int64) = i6 2000000000 := i6_n 2000000000
theorem i6_1e18 : (1000000000000000000 : Int64) = i6 1000000000000000000 := i6_n 1000000000000000000
theorem i6_add (a b : Int) : i6 a + i6 b = i6 (a + b) := (Int64.ofInt_add a b).symm
theorem i6_sub (a b : Int) : i6 a - i6 b = i6 (a - b) := (Int64.ofInt_sub a b).symm
theorem i6_mul (a b : Int) : i6 a * i6 b = i6 (a * b) := (Int64.ofInt_mul a b).symm
theorem i6_neg (a : Int) : -i6 a = i6 (-a) := (Int64.ofInt_neg a).symm
section
variable {a b : Int}
theorem i6_le (h1 : -9223372036854775808 ≤ a) (h2 : a < 9223372036854775808) (h3 : -9223372036854775808 ≤ b) (h4 : b < 9223372036854775808) : (i6 a ≤ i6 b) = (a ≤ b) := propext (by rw [Int64.le_iff_toInt_le, i6_toInt h1 h2, i6_toInt h3 h4])
theorem i6_lt (h1 : -9223372036854775808 ≤ a) (h2 : a < 9223372036854775808) (h3 : -9223372036854775808 ≤ b) (h4 : b < 9223372036854775808) : (i6 a < i6 b) = (a < b) := propext (by rw [Int64.lt_iff_toInt_lt, i6_toInt h1 h2, i6_toInt h3 h4])
theorem i6_eq (h1 : -9223372036854775808 ≤ a) (h2 : a < 9223372036854775808) (h3 : -9223372036854775808 ≤ b) (h4 : b < 9223372036854775808) : (i6 a = i6 b) = (a = b) := propext ⟨fun h => by have := congrArg Int64.toInt h; rw [i6_toInt h1 h2, i6_toInt h3 h4] at this; exact this, fun h => by rw [h]⟩
theorem i6_div (h1 : 0 ≤ a) (h2 : a < 9223372036854775808) (h3 : 0 < b) (h4 : b < 9223372036854775808) : i6 a / i6 b = i6 (a / b) := by
  have h := Int64.ofInt_tdiv (a := a) (b := b) (by show (-9223372036854775808 : Int) ≤ a; omega) (by show a ≤ (9223372036854775807 : Int); omega) (by show (-9223372036854775808 : Int) ≤ b; omega) (by show b ≤ (9223372036854775807 : Int); omega)
  rw [Int.tdiv_eq_ediv_of_nonneg h1] at h
  exact h.symm
theorem i3_lt (h1 : -2147483648 ≤ a) (h2 : a < 2147483648) (h3 : -2147483648 ≤ b) (h4 : b < 2147483648) : (i3 a < i3 b) = (a < b) := propext (by rw [Int32.lt_iff_toInt_lt, i3_toInt h1 h2, i3_toInt h3 h4])
theorem i3_le (h1 : -2147483648 ≤ a) (h2 : a < 2147483648) (h3 : -2147483648 ≤ b) (h4 : b < 2147483648) : (i3 a ≤ i3 b) = (a ≤ b) := propext (by rw [Int32.le_iff_toInt_le, i3_toInt h1 h2, i3_toInt h3 h4])
theorem i3_eq (h1 : -2147483648 ≤ a) (h2 : a < 2147483648) (h3 : -2147483648 ≤ b) (h4 : b < 2147483648) : (i3 a = i3 b) = (a = b) := propext ⟨fun h => by have := congrArg Int32.toInt h; rw [i3_toInt h1 h2, i3_toInt h3 h4] at this; exact this, fun h => by rw [h]⟩
end
theorem q_ge (x y : Int64) : (nI 0 ≤ lg_cmp x y) = (y ≤ x) := propext (lg_cmp_ge x y)
theorem q_le (x y : Int64) : (lg_cmp x y ≤ nI 0) = (x ≤ y) := propext (lg_cmp_le x y)
theorem q_gt (x y : Int64) : (nI 0 < lg_cmp x y) = (y < x) := propext (lg_cmp_gt x y)
theorem q_lt (x y : Int64) : (lg_cmp x y < nI 0) = (x < y) := propext (lg_cmp_lt x y)
theorem q_eq (x y : Int64) : (lg_cmp x y = nI 0) = (x = y) := propext (lg_cmp_eq x y)
theorem i3_and (z : Int) : i3 z &&& nI 63 = i3 (z % 64) := by
  have h := pk_and (i3 z) (m := nI 63) 6 rfl
  rw [h, ← i3_n]
  congr 1
  have e : ((i3 z).toBitVec.toNat : Int) = z % 4294967296 := by
    show ((BitVec.ofInt 32 z).toNat : Int) = _
    rw [BitVec.toNat_ofInt]
    have : (0 : Int) ≤ z % ((2 ^ 32 : Nat) : Int) := Int.emod_nonneg _ (by decide)
    omega
  omega
theorem mul_b {a b A B : Int} (ha : -A ≤ a) (ha2 : a ≤ A) (hb : -B ≤ b) (hb2 : b ≤ B) : -(A * B) ≤ a * b ∧ a * b ≤ A * B := by
  have hA : 0 ≤ A := by omega
  have hB : 0 ≤ B := by omega
  have h1 : 0 ≤ (A - a) * (B - b) := Int.mul_nonneg (by omega) (by omega)
  have h2 : 0 ≤ (A + a) * (B + b) := Int.mul_nonneg (by omega) (by omega)
  have h3 : 0 ≤ (A - a) * (B + b) := Int.mul_nonneg (by omega) (by omega)
  have h4 : 0 ≤ (A + a) * (B - b) := Int.mul_nonneg (by omega) (by omega)
  simp only [Int.sub_mul, Int.mul_sub, Int.add_mul, Int.mul_add] at h1 h2 h3 h4
  constructor <;> omega
/-! ===== the least root ===== -/
def isCr (S r : Int) : Prop := 0 ≤ r ∧ S ≤ r * r ∧ (r = 0 ∨ (r - 1) * (r - 1) < S)
theorem isCr_u {S r q : Int} (h1 : isCr S r) (h2 : isCr S q) : ¬ r < q := by
  intro h
  obtain ⟨a1, a2, -⟩ := h1
  obtain ⟨b1, -, b3⟩ := h2
  rcases b3 with b3 | b3
  · omega
  · have : r * r ≤ (q - 1) * (q - 1) := Int.mul_le_mul (by omega) (by omega) a1 (by omega)
    omega
noncomputable def cr (S : Int) : Int := Classical.epsilon (fun r => isCr S r)
theorem cr_eq {S r : Int} (h : isCr S r) : cr S = r := by
  have h2 : isCr S (cr S) := Classical.epsilon_spec (p := fun r => isCr S r) ⟨r, h⟩
  have h3 := isCr_u h h2
  have h4 := isCr_u h2 h
  omega
theorem fl_ex (S : Nat) : ∃ r : Nat, r * r ≤ S ∧ S < (r + 1) * (r + 1) := by
  induction S with
  | zero => exact ⟨0, by decide, by decide⟩
  | succ S ih =>
    obtain ⟨r, h1, h2⟩ := ih
    by_cases h : S + 1 < (r + 1) * (r + 1)
    · exact ⟨r, by omega, h⟩
    · refine ⟨r + 1, by omega, ?_⟩
      have : (r + 1 + 1) * (r + 1 + 1) = (r + 1) * (r + 1) + 2 * r + 3 := by simp only [Nat.add_mul, Nat.mul_add]; omega
      omega
theorem flI_ex {S : Int} (h : 0 ≤ S) : ∃ r : Int, 0 ≤ r ∧ r * r ≤ S ∧ S < (r + 1) * (r + 1) := by
  obtain ⟨r, h1, h2⟩ := fl_ex S.toNat
  refine ⟨r, by omega, ?_, ?_⟩
  · have : ((r * r : Nat) : Int) ≤ (S.toNat : Int) := by exact_mod_cast h1
    rw [Int.natCast_mul] at this
    omega
  · have : (S.toNat : Int) < (((r + 1) * (r + 1) : Nat) : Int) := by exact_mod_cast h2
    rw [Int.natCast_mul, Int.natCast_add] at this
    have e : ((1 : Nat) : Int) = 1 := rfl
    rw [e] at this
    omega
theorem fl_cr {S r : Int} (h0 : 0 ≤ r) (h1 : r * r ≤ S) (h2 : S < (r + 1) * (r + 1)) : cr S = if r * r < S then r + 1 else r := by
  by_cases h : r * r < S
  · rw [if_pos h]
    exact cr_eq ⟨by omega, by omega, Or.inr (by rw [show r + 1 - 1 = r by omega]; exact h)⟩
  · rw [if_neg h]
    refine cr_eq ⟨h0, by omega, ?_⟩
    by_cases e : r = 0
    · exact Or.inl e
    · refine Or.inr ?_
      have : (r - 1) * (r - 1) < r * r := Int.lt_of_le_of_lt (Int.mul_le_mul_of_nonneg_left (show r - 1 ≤ r by omega) (by omega)) (Int.mul_lt_mul_of_pos_right (show r - 1 < r by omega) (by omega))
      omega
theorem cr_is {S : Int} (h : 0 ≤ S) : isCr S (cr S) := by
  obtain ⟨r, h0, h1, h2⟩ := flI_ex h
  have e := fl_cr h0 h1 h2
  by_cases g : r * r < S
  · rw [if_pos g] at e
    rw [e]
    exact ⟨by omega, by omega, Or.inr (by rw [show r + 1 - 1 = r by omega]; exact g)⟩
  · rw [if_neg g] at e
    rw [e]
    refine ⟨h0, by omega, ?_⟩
    by_cases e : r = 0
    · exact Or.inl e
    · refine Or.inr ?_
      have : (r - 1) * (r - 1) < r * r := Int.lt_of_le_of_lt (Int.mul_le_mul_of_nonneg_left (show r - 1 ≤ r by omega) (by omega)) (Int.mul_lt_mul_of_pos_right (show r - 1 < r by omega) (by omega))
      omega
theorem cr_le {S B : Int} (h : 0 ≤ S) (hB : 0 ≤ B) (h2 : S ≤ B * B) : 0 ≤ cr S ∧ cr S ≤ B := by
  obtain ⟨a1, -, a3⟩ := cr_is h
  refine ⟨a1, ?_⟩
  rcases a3 with a3 | a3
  · omega
  · refine Int.not_lt.mp (fun g => ?_)
    have : B * B ≤ (cr S - 1) * (cr S - 1) := Int.mul_le_mul (by omega) (by omega) hB (by omega)
    omega
