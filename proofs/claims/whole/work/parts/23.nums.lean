/-! ===== numbers: nI, with side conditions for omega ===== -/
theorem s_lit (n : Nat) : (OfNat.ofNat n : Int32) = nI n := rfl
theorem s_le {a b : Nat} (ha : a < 2147483648) (hb : b < 2147483648) : (nI a ≤ nI b) = (a ≤ b) := propext (nI_leI ha hb)
theorem s_lt {a b : Nat} (ha : a < 2147483648) (hb : b < 2147483648) : (nI a < nI b) = (a < b) := propext (nI_ltI ha hb)
theorem s_eq {a b : Nat} (ha : a < 2147483648) (hb : b < 2147483648) : (nI a = nI b) = (a = b) := propext (nI_eq ha hb)
theorem s_cl {a : Nat} (ha : a < 2147483648) : (nI a).toNatClampNeg = a := nI_clamp ha
theorem s_in {a N : Nat} (ha : a < 2147483648) : vp_in (nI a) N = (a < N) := propext ⟨fun h => by
    have h2 : ¬ N ≤ (nI a).toNatClampNeg := fun z => h (Or.inr z)
    rw [s_cl ha] at h2; omega, fun h z => by
    rcases z with z | z
    · exact nI_pos (show a < 2 ^ 31 from ha) z
    · rw [s_cl ha] at z; omega⟩
theorem s_sub {a b : Nat} (h : b ≤ a) : nI a - nI b = nI (a - b) := pk_sub h
theorem s_toI {a : Nat} (ha : a < 2147483648) : (nI a).toInt = (a : Int) := nI_toInt ha
theorem mUI_same {f : Nat → Nat → Int32} {a k : Nat} {v : Int32} : mUI f a k v a k = v := by unfold mUI; rw [if_pos rfl, if_pos rfl]
theorem mUI_nk {f : Nat → Nat → Int32} {a k x j : Nat} {v : Int32} (h : j ≠ k) : mUI f a k v x j = f x j := by unfold mUI; rw [if_neg h, ite_self]
