/-! ===== the machine's heap and the JVM's: what is held where ===== -/
abbrev mBs : Type := va_G × (ClassId × ClassId × ClassId) × (Nat × Nat × Nat) × Nat × (Nat → Int32)
abbrev bD (B : mBs) : va_G := B.1
abbrev bki (B : mBs) : ClassId := B.2.1.1
abbrev bkl (B : mBs) : ClassId := B.2.1.2.1
abbrev bkp (B : mBs) : ClassId := B.2.1.2.2
abbrev bxa (B : mBs) : Nat := B.2.2.1.1
abbrev bya (B : mBs) : Nat := B.2.2.1.2.1
abbrev bb (B : mBs) : Nat := B.2.2.1.2.2
abbrev bL (B : mBs) : Nat := B.2.2.2.1
abbrev bxs (B : mBs) : Nat → Int32 := B.2.2.2.2
def mA (B : mBs) : Nat → Prop := fun q => bb B ≤ q
def mRho (B : mBs) (a : Nat) : Nat := match a with
  | 0 => bxa B
  | 1 => bya B
  | k + 2 => bb B + k
def mCv (B : mBs) (v : Value) : Value := match v with
  | .ref a => .ref (mRho B a)
  | v => v
theorem mCv_cat (B : mBs) (v : Value) : (mCv B v).category = v.category := by cases v <;> rfl
theorem mCv_sum (B : mBs) (st : List Value) : ((st.map (mCv B)).map Value.category).sum = (st.map Value.category).sum := by
  rw [List.map_map]
  congr 1
  apply List.map_congr_left
  intro v _
  exact mCv_cat B v
def mFkL : List (List Nat) := [[2, 2, 0, 0, 0], [2, 2, 2, 2, 2, 2, 2, 2, 2, 1, 1], [2, 2, 2, 2, 0, 0], [2, 2, 0, 0], [2, 2, 2, 2, 2, 2, 0], [2, 2, 2, 2, 0, 0, 0], [1, 1, 1, 1], [2, 2, 2, 2, 2, 0], [2], [2, 2, 0], [2, 2, 2, 2, 2, 2, 2, 2, 2, 2, 1], [2, 2, 0, 0, 2, 2, 2, 2, 2, 2, 1, 1, 2, 2, 1, 1, 1, 1, 1, 1, 1, 1]]
def mN (ci : Nat) : Nat := (mFkL.getD ci []).length
def mFk (ci k : Nat) : Nat := (mFkL.getD ci []).getD k 2
def mSnL : List Int32 := [0, 100, 200, 297, 392, 483, 569, 650, 724, 792, 851, 903, 946, 980, 1004, 1019, 1024, 1019, 1004, 980, 946, 903, 851, 792, 724, 650, 569, 483, 392, 297, 200, 100, 0, -100, -200, -297, -392, -483, -569, -650, -724, -792, -851, -903, -946, -980, -1004, -1019, -1024, -1019, -1004, -980, -946, -903, -851, -792, -724, -650, -569, -483, -392, -297, -200, -100]
def mSn (j : Nat) : Int32 := mSnL.getD j 0
def mFV (B : mBs) (h : mHp) (a ci k : Nat) : Value := match mFk ci k with
  | 0 => .int (h.2.1 a k)
  | 1 => .long (h.2.2 a k)
  | _ => va_rf ((mRf h.1 a k).map (mRho B))
def mE (B : mBs) (h : mHp) (a : Nat) : va_E := match mTg h.1 a with
  | 0 => .inl (bki B, mLn h.1 a, .inl (h.2.1 a))
  | 1 => .inl (bkl B, mLn h.1 a, .inr (.inl (h.2.2 a)))
  | 2 => .inl (bkp B, mLn h.1 a, .inr (.inr (.inr (.inr (fun j => (mRf h.1 a j).map (mRho B))))))
  | ci + 3 => .inr (ci, (List.range (mN ci)).map (fun k => mFV B h a ci k))
def mWs (B : mBs) (h : mHp) : va_W := [] ++ va_pl (List.range' (bb B) (h.1.1.length - 2)) (fun q => mE B h (q - bb B + 2))
def mHold (B : mBs) (h : mHp) (H : Heap) : Prop := va_P (bD B) vwCl (mWs B h) H ∧ va_D (mA B) (mWs B h) ∧ 2 ≤ h.1.1.length ∧ (h.1.1[0]? = some (0, bL B, []) ∧ h.1.1[1]? = some (0, 64, [])) ∧ (∀ j, j < bL B → h.2.1 0 j = bxs B j) ∧ ∀ j, j < 64 → h.2.1 1 j = mSn j
theorem mRho_eq (B : mBs) {a : Nat} (h : 2 ≤ a) : mRho B a = bb B + (a - 2) := by
  match a, h with
  | k + 2, _ => rfl
theorem m_lt {t : mTT} {a : Nat} (h : mTg t a ≠ 99) : a < t.1.length := by
  unfold mTg at h
  cases e : t.1[a]? with
  | none => rw [e] at h; exact absurd rfl h
  | some q => exact (List.getElem?_eq_some_iff.mp e).1
theorem m_ge {B : mBs} {h : mHp} {H : Heap} (hh : mHold B h H) {a : Nat} (ht : mTg h.1 a ≠ 0) : 2 ≤ a := by
  obtain ⟨-, -, -, ⟨e0, e1⟩, -⟩ := hh
  match a, ht with
  | 0, ht => exact absurd (by unfold mTg; rw [e0]) ht
  | 1, ht => exact absurd (by unfold mTg; rw [e1]) ht
  | k + 2, _ => omega
theorem m_in {B : mBs} {h : mHp} {a : Nat} (h2 : 2 ≤ a) (hl : a < h.1.1.length) : mRho B a ∈ List.range' (bb B) (h.1.1.length - 2) := by
  rw [mRho_eq B h2, List.mem_range'_1]
  omega
theorem m_back {B : mBs} {a : Nat} (h2 : 2 ≤ a) : mRho B a - bb B + 2 = a := by
  rw [mRho_eq B h2]; omega
theorem m_get {B : mBs} {h : mHp} {a : Nat} (h2 : 2 ≤ a) (hl : a < h.1.1.length) : ∃ k : Nat, (mWs B h)[k]? = some (mRho B a, mE B h a) := by
  obtain ⟨k, hk⟩ := va_pl_get (X := []) (f := fun q => mE B h (q - bb B + 2)) (m_in (B := B) h2 hl)
  refine ⟨k, ?_⟩
  unfold mWs
  rw [hk, m_back h2]
theorem m_set {B : mBs} {h h' : mHp} {a k : Nat} {E : va_E} (h2 : 2 ≤ a) (hl : a < h.1.1.length) (hD : va_D (mA B) (mWs B h)) (hk : (mWs B h)[k]? = some (mRho B a, mE B h a)) (hlen : h'.1.1.length = h.1.1.length) (hE : mE B h' a = E) (ho : ∀ x, x ≠ a → mE B h' x = mE B h x) : (mWs B h).set k (mRho B a, E) = mWs B h' := by
  unfold mWs at hD hk ⊢
  rw [va_pl_set hD (m_in (B := B) h2 hl) (by rw [hk, m_back h2]), hlen]
  congr 1
  refine List.map_congr_left (fun q hq => ?_)
  have hq' := List.mem_range'_1.mp hq
  by_cases e : q = mRho B a
  · subst e
    rw [va_up_self]
    dsimp only
    rw [m_back h2, hE]
  · rw [va_up_ne _ _ e]
    dsimp only
    rw [ho]
    intro z
    apply e
    rw [← z, mRho_eq B (by omega)]
    omega
theorem m_push {B : mBs} {h h' : mHp} {H : Heap} {E : va_E} (hP : va_P (bD B) vwCl (mWs B h) H) (hz : H.size = bb B + (h.1.1.length - 2)) (h2 : 2 ≤ h.1.1.length) (hlen : h'.1.1.length = h.1.1.length + 1) (hE : mE B h' h.1.1.length = E) (ho : ∀ x, x < h.1.1.length → mE B h' x = mE B h x) : mWs B h ++ [(H.size, E)] = mWs B h' := by
  unfold mWs at hP ⊢
  rw [List.nil_append, List.nil_append, va_pl_push (va_pl_fresh hP (Nat.le_refl _)), hz, hlen, show h.1.1.length + 1 - 2 = (h.1.1.length - 2) + 1 by omega, List.range'_concat, Nat.one_mul]
  refine List.map_congr_left (fun q hq => ?_)
  have hq' : bb B ≤ q ∧ q < bb B + (h.1.1.length - 2 + 1) := by
    rcases List.mem_append.mp hq with z | z
    · have := List.mem_range'_1.mp z; omega
    · have := List.mem_singleton.mp z; omega
  by_cases e : q = bb B + (h.1.1.length - 2)
  · subst e
    rw [va_up_self]
    dsimp only
    rw [show bb B + (h.1.1.length - 2) - bb B + 2 = h.1.1.length by omega, hE]
  · rw [va_up_ne _ _ e]
    dsimp only
    rw [ho]
    omega
