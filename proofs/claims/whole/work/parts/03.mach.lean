/-! ===== an abstract machine: shapes and references (T, cells, slots), ints and longs by cell and place ===== -/
abbrev mSh : Type := Nat × Nat × List (Option Nat)
abbrev mTT : Type := List mSh × Nat × Nat
abbrev mHp : Type := mTT × (Nat → Nat → Int32) × (Nat → Nat → Int64)
abbrev mLs : Type := List (Option Value)
abbrev mKo : Type := Nat → mLs → List Value → mHp → Prop
abbrev mQo : Type := Option Value → mHp → Prop
abbrev mAc : Type := mQo → mKo → mLs → List Value → mHp → Prop
abbrev mTb : Type := List (Nat × mAc)
abbrev mCo : Type := List Value → mHp → mQo → Prop
abbrev vwCl : List vw_C := [(RX0, TX0, 5), (RX1, TX1, 11), (RX2, TX2, 6), (RX3, TX3, 4), (RX4, TX4, 7), (RX5, TX5, 7), (RX6, TX6, 4), (RX7, TX7, 6), (RX8, TX8, 1), (RX9, TX9, 3), (RX10, TX10, 11), (RX11, TX11, 22)]
def mTg (t : mTT) (a : Nat) : Nat := match t.1[a]? with
  | some q => q.1
  | none => 99
def mLn (t : mTT) (a : Nat) : Nat := match t.1[a]? with
  | some q => q.2.1
  | none => 0
def mRf (t : mTT) (a k : Nat) : Option Nat := match t.1[a]? with
  | some q => q.2.2.getD k none
  | none => none
def mRl (t : mTT) (a : Nat) : Nat := match t.1[a]? with
  | some q => q.2.2.length
  | none => 0
def mRV (o : Option Nat) : Value := match o with
  | some r => .ref r
  | none => .null
def mZr (t : mTT) : mTT := (t.1, 0, 0)
def mUI (f : Nat → Nat → Int32) (a k : Nat) (v : Int32) : Nat → Nat → Int32 := fun x j => if x = a then (if j = k then v else f x j) else f x j
def mUL (f : Nat → Nat → Int64) (a k : Nat) (v : Int64) : Nat → Nat → Int64 := fun x j => if x = a then (if j = k then v else f x j) else f x j
def mUR (t : mTT) (a k : Nat) (r : Option Nat) : mTT := (t.1.modify a (fun q => (q.1, q.2.1, q.2.2.set k r)), t.2)
def mCpI (f : Nat → Nat → Int32) (a b sp dp n : Nat) : Nat → Nat → Int32 := fun x => if x = b then va_cpy (f a) (f b) sp dp n else f x
def mNl (o : Option Value) : Option Value := match o with
  | some (.long _) => none
  | some (.double _) => none
  | o => o
def mSt1 (ls : mLs) (i : Nat) (v : Value) : mLs := match i with
  | 0 => ls.set 0 (some v)
  | j + 1 => (ls.modify j mNl).set (j + 1) (some v)
def mSt2 (ls : mLs) (i : Nat) (v : Value) : mLs := match i with
  | 0 => (ls.set 0 (some v)).set 1 none
  | j + 1 => ((ls.modify j mNl).set (j + 1) (some v)).set (j + 2) none
/-! ===== what each instruction does; n: the place behind it, t: where it jumps ===== -/
def aPI (v : Int32) (n : Nat) : mAc := fun _ K ls st h => K n ls (.int v :: st) h
def aPL (v : Int64) (n : Nat) : mAc := fun _ K ls st h => K n ls (.long v :: st) h
def aPN (n : Nat) : mAc := fun _ K ls st h => K n ls (.null :: st) h
def aLI (i n : Nat) : mAc := fun _ K ls st h => match ls[i]? with
  | some (some (.int x)) => K n ls (.int x :: st) h
  | _ => False
def aLL (i n : Nat) : mAc := fun _ K ls st h => match ls[i]? with
  | some (some (.long x)) => K n ls (.long x :: st) h
  | _ => False
def aLA (i n : Nat) : mAc := fun _ K ls st h => match ls[i]? with
  | some (some (.ref x)) => K n ls (.ref x :: st) h
  | some (some .null) => K n ls (.null :: st) h
  | _ => False
def aSI (i n : Nat) : mAc := fun _ K ls st h => match st with
  | .int x :: r => K n (mSt1 ls i (.int x)) r h
  | _ => False
def aSL (i n : Nat) : mAc := fun _ K ls st h => match st with
  | .long x :: r => K n (mSt2 ls i (.long x)) r h
  | _ => False
def aSA (i n : Nat) : mAc := fun _ K ls st h => match st with
  | .ref x :: r => K n (mSt1 ls i (.ref x)) r h
  | .null :: r => K n (mSt1 ls i .null) r h
  | _ => False
def aInc (i : Nat) (v : Int32) (n : Nat) : mAc := fun _ K ls st h => match ls[i]? with
  | some (some (.int x)) => K n (mSt1 ls i (.int (x + v))) st h
  | _ => False
def aU (f : Int32 → Int32) (n : Nat) : mAc := fun _ K ls st h => match st with
  | .int x :: r => K n ls (.int (f x) :: r) h
  | _ => False
def aB (f : Int32 → Int32 → Int32) (n : Nat) : mAc := fun _ K ls st h => match st with
  | .int y :: .int x :: r => K n ls (.int (f x y) :: r) h
  | _ => False
def aD (f : Int32 → Int32 → Int32) (n : Nat) : mAc := fun _ K ls st h => match st with
  | .int y :: .int x :: r => ¬ y = 0 ∧ K n ls (.int (f x y) :: r) h
  | _ => False
def aUL (f : Int64 → Int64) (n : Nat) : mAc := fun _ K ls st h => match st with
  | .long x :: r => K n ls (.long (f x) :: r) h
  | _ => False
def aBL (f : Int64 → Int64 → Int64) (n : Nat) : mAc := fun _ K ls st h => match st with
  | .long y :: .long x :: r => K n ls (.long (f x y) :: r) h
  | _ => False
def aDL (f : Int64 → Int64 → Int64) (n : Nat) : mAc := fun _ K ls st h => match st with
  | .long y :: .long x :: r => ¬ y = 0 ∧ K n ls (.long (f x y) :: r) h
  | _ => False
def aSh (f : Int64 → Int32 → Int64) (n : Nat) : mAc := fun _ K ls st h => match st with
  | .int y :: .long x :: r => K n ls (.long (f x y) :: r) h
  | _ => False
def aI2L (n : Nat) : mAc := fun _ K ls st h => match st with
  | .int x :: r => K n ls (.long x.toInt64 :: r) h
  | _ => False
def aL2I (n : Nat) : mAc := fun _ K ls st h => match st with
  | .long x :: r => K n ls (.int x.toInt32 :: r) h
  | _ => False
def aCmp (n : Nat) : mAc := fun _ K ls st h => match st with
  | .long y :: .long x :: r => K n ls (.int (lg_cmp x y) :: r) h
  | _ => False
def aDup (n : Nat) : mAc := fun _ K ls st h => match st with
  | .ref a :: r => K n ls (.ref a :: .ref a :: r) h
  | .int a :: r => K n ls (.int a :: .int a :: r) h
  | _ => False
def aDup2 (n : Nat) : mAc := fun _ K ls st h => match st with
  | .int i :: .ref a :: r => K n ls (.int i :: .ref a :: .int i :: .ref a :: r) h
  | _ => False
def aPop (n : Nat) : mAc := fun _ K ls st h => match st with
  | .int _ :: r => K n ls r h
  | _ => False
def aIf (P : Int32 → Prop) (t n : Nat) : mAc := fun _ K ls st h => match st with
  | .int x :: r => (P x → K t ls r h) ∧ (¬ P x → K n ls r h)
  | _ => False
def aIc (P : Int32 → Int32 → Prop) (t n : Nat) : mAc := fun _ K ls st h => match st with
  | .int y :: .int x :: r => (P x y → K t ls r h) ∧ (¬ P x y → K n ls r h)
  | _ => False
def aGo (t : Nat) : mAc := fun _ K ls st h => K t ls st h
def aNu (t n : Nat) : mAc := fun _ K ls st h => match st with
  | .null :: r => K t ls r h
  | .ref _ :: r => K n ls r h
  | _ => False
def aNn (t n : Nat) : mAc := fun _ K ls st h => match st with
  | .null :: r => K n ls r h
  | .ref _ :: r => K t ls r h
  | _ => False
def aTs (ks : List (Int32 × Nat)) (d : Nat) : mAc := fun _ K ls st h => match st with
  | .int x :: r => (∀ q ∈ ks, x = q.1 → K q.2 ls r h) ∧ ((∀ q ∈ ks, ¬ x = q.1) → K d ls r h)
  | _ => False
def aGI (ci k n : Nat) : mAc := fun _ K ls st h => match st with
  | .ref a :: r => mTg h.1 a = ci + 3 ∧ K n ls (.int (h.2.1 a k) :: r) h
  | _ => False
def aGL (ci k n : Nat) : mAc := fun _ K ls st h => match st with
  | .ref a :: r => mTg h.1 a = ci + 3 ∧ K n ls (.long (h.2.2 a k) :: r) h
  | _ => False
def aGR (ci k n : Nat) : mAc := fun _ K ls st h => match st with
  | .ref a :: r => mTg h.1 a = ci + 3 ∧ K n ls (mRV (mRf h.1 a k) :: r) h
  | _ => False
def aWI (ci k n : Nat) : mAc := fun _ K ls st h => match st with
  | .int x :: .ref a :: r => mTg h.1 a = ci + 3 ∧ K n ls r (h.1, mUI h.2.1 a k x, h.2.2)
  | _ => False
def aWL (ci k n : Nat) : mAc := fun _ K ls st h => match st with
  | .long x :: .ref a :: r => mTg h.1 a = ci + 3 ∧ K n ls r (h.1, h.2.1, mUL h.2.2 a k x)
  | _ => False
def aWR (ci k n : Nat) : mAc := fun _ K ls st h => match st with
  | .ref x :: .ref a :: r => (mTg h.1 a = ci + 3 ∧ k < mRl h.1 a) ∧ K n ls r (mUR h.1 a k (some x), h.2)
  | _ => False
def aIA (n : Nat) : mAc := fun _ K ls st h => match st with
  | .int i :: .ref a :: r => mTg h.1 a = 0 ∧ vp_in i (mLn h.1 a) ∧ K n ls (.int (h.2.1 a i.toNatClampNeg) :: r) h
  | _ => False
def aJA (n : Nat) : mAc := fun _ K ls st h => match st with
  | .int i :: .ref a :: r => mTg h.1 a = 1 ∧ vp_in i (mLn h.1 a) ∧ K n ls (.long (h.2.2 a i.toNatClampNeg) :: r) h
  | _ => False
def aAA (n : Nat) : mAc := fun _ K ls st h => match st with
  | .int i :: .ref a :: r => mTg h.1 a = 2 ∧ vp_in i (mLn h.1 a) ∧ K n ls (mRV (mRf h.1 a i.toNatClampNeg) :: r) h
  | _ => False
def aIS (n : Nat) : mAc := fun _ K ls st h => match st with
  | .int x :: .int i :: .ref a :: r => (mTg h.1 a = 0 ∧ 2 ≤ a) ∧ vp_in i (mLn h.1 a) ∧ K n ls r (h.1, mUI h.2.1 a i.toNatClampNeg x, h.2.2)
  | _ => False
def aJS (n : Nat) : mAc := fun _ K ls st h => match st with
  | .long x :: .int i :: .ref a :: r => mTg h.1 a = 1 ∧ vp_in i (mLn h.1 a) ∧ K n ls r (h.1, h.2.1, mUL h.2.2 a i.toNatClampNeg x)
  | _ => False
def aAS (n : Nat) : mAc := fun _ K ls st h => match st with
  | .ref x :: .int i :: .ref a :: r => (mTg h.1 a = 2 ∧ mTg h.1 x = 10 ∧ i.toNatClampNeg < mRl h.1 a) ∧ vp_in i (mLn h.1 a) ∧ K n ls r (mUR h.1 a i.toNatClampNeg (some x), h.2)
  | _ => False
def aLen (n : Nat) : mAc := fun _ K ls st h => match st with
  | .ref a :: r => (mTg h.1 a ≤ 2) ∧ K n ls (.int (Int32.ofNat (mLn h.1 a)) :: r) h
  | _ => False
def mBorn (h : mHp) (q : mSh) : mHp := ((h.1.1 ++ [q], h.1.2.1 + 1, h.1.2.2 + q.2.1), (fun x j => if x = h.1.1.length then 0 else h.2.1 x j), (fun x j => if x = h.1.1.length then 0 else h.2.2 x j))
def aNew (ci nf mc ms n : Nat) : mAc := fun _ K ls st h => (h.1.2.1 + 1 ≤ mc ∧ h.1.2.2 + nf ≤ ms) ∧ K n ls (.ref h.1.1.length :: st) (mBorn h (ci + 3, nf, List.replicate nf none))
def aNI (tg mc ms n : Nat) : mAc := fun _ K ls st h => match st with
  | .int x :: r => (¬ x < 0 ∧ x.toNatClampNeg * 8 ≤ 536870912) ∧ (h.1.2.1 + 1 ≤ mc ∧ h.1.2.2 + x.toNatClampNeg ≤ ms) ∧ K n ls (.ref h.1.1.length :: r) (mBorn h (tg, x.toNatClampNeg, []))
  | _ => False
def aNP (mc ms n : Nat) : mAc := fun _ K ls st h => match st with
  | .int x :: r => (¬ x < 0 ∧ x.toNatClampNeg * 8 ≤ 536870912) ∧ (h.1.2.1 + 1 ≤ mc ∧ h.1.2.2 + x.toNatClampNeg ≤ ms) ∧ K n ls (.ref h.1.1.length :: r) (mBorn h (2, x.toNatClampNeg, List.replicate x.toNatClampNeg none))
  | _ => False
def aGS (n : Nat) : mAc := fun _ K ls st h => K n ls (.ref 1 :: st) h
def aObj (n : Nat) : mAc := fun _ K ls st h => match st with
  | .ref _ :: r => (r.map Value.category).sum ≤ 8 ∧ K n ls r h
  | _ => False
/-- a call of a method that makes nothing: k values off the stack -/
def aCS (k : Nat) (C : mCo) (n : Nat) : mAc := fun _ K ls st h => (k ≤ st.length ∧ ((st.drop k).map Value.category).sum ≤ 8) ∧ C (st.take k).reverse (mZr h.1, h.2) (fun r h' => h'.1 = mZr h.1 ∧ K n ls (r.toList ++ st.drop k) (h.1, h'.2))
def aCV (ci k : Nat) (C : mCo) (n : Nat) : mAc := fun _ K ls st h => (∃ a, st[k]? = some (.ref a) ∧ mTg h.1 a = ci + 3) ∧ ((st.drop (k + 1)).map Value.category).sum ≤ 8 ∧ C (st.take (k + 1)).reverse (mZr h.1, h.2) (fun r h' => h'.1 = mZr h.1 ∧ K n ls (r.toList ++ st.drop (k + 1)) (h.1, h'.2))
/-- a call of a constructor without arguments that makes mc cells of ms slots -/
def aCI (C : mCo) (mc ms capc caps n : Nat) : mAc := fun _ K ls st h => match st with
  | .ref a :: r => ((r.map Value.category).sum ≤ 8 ∧ h.1.2.1 + mc ≤ capc ∧ h.1.2.2 + ms ≤ caps) ∧ C [.ref a] (mZr h.1, h.2) (fun v h' => v = none ∧ (h'.1.2.1 = mc ∧ h'.1.2.2 ≤ ms) ∧ K n ls r ((h'.1.1, h.1.2.1 + mc, h.1.2.2 + ms), h'.2))
  | _ => False
def aCp (n : Nat) : mAc := fun _ K ls st h => match st with
  | .int z :: .int dp :: .ref a :: .int sp :: .ref a0 :: r => (mTg h.1 a0 = 0 ∧ 2 ≤ a0 ∧ mTg h.1 a = 0 ∧ 2 ≤ a) ∧ (¬ sp < 0 ∧ ¬ dp < 0 ∧ ¬ z < 0 ∧ sp.toNatClampNeg + z.toNatClampNeg ≤ mLn h.1 a0 ∧ dp.toNatClampNeg + z.toNatClampNeg ≤ mLn h.1 a ∧ (r.map Value.category).sum ≤ 8) ∧ K n ls r (h.1, mCpI h.2.1 a0 a sp.toNatClampNeg dp.toNatClampNeg z.toNatClampNeg, h.2.2)
  | _ => False
def aRI : mAc := fun Q _ _ st h => match st with
  | [.int v] => Q (some (.int v)) h
  | _ => False
def aRZ : mAc := fun Q _ _ st h => match st with
  | [.int v] => (v = 0 ∨ v = 1) ∧ Q (some (.int v)) h
  | _ => False
def aRL : mAc := fun Q _ _ st h => match st with
  | [.long v] => Q (some (.long v)) h
  | _ => False
def aRR : mAc := fun Q _ _ st h => match st with
  | [.ref v] => Q (some (.ref v)) h
  | [.null] => Q (some .null) h
  | _ => False
def aRV : mAc := fun Q _ _ st h => match st with
  | [] => Q none h
  | _ => False
/-! ===== a run: the least way of saying 'it comes to an end with Q' ===== -/
def mLk (tb : mTb) (pc : Nat) : mAc := match tb.find? (fun q => q.1 == pc) with
  | some q => q.2
  | none => fun _ _ _ _ _ => False
def mWP (tb : mTb) (Q : mQo) : mKo := fun pc ls st h => ∀ X : mKo, (∀ pc ls st h, mLk tb pc Q X ls st h → X pc ls st h) → X pc ls st h
def mMn (a : mAc) : Prop := ∀ (Q Q' : mQo) (X X' : mKo), (∀ r h, Q r h → Q' r h) → (∀ pc ls st h, X pc ls st h → X' pc ls st h) → ∀ ls st h, a Q X ls st h → a Q' X' ls st h
def mMC (C : mCo) : Prop := ∀ (as : List Value) (h : mHp) (Q Q' : mQo), (∀ r h, Q r h → Q' r h) → C as h Q → C as h Q'
def mMT (tb : mTb) : Prop := ∀ q ∈ tb, mMn q.2
theorem mLk_mn {tb : mTb} (h : mMT tb) (pc : Nat) : mMn (mLk tb pc) := by
  unfold mLk
  cases e : tb.find? (fun q => q.1 == pc) with
  | none => intro _ _ _ _ _ _ _ _ _ q; exact q
  | some q => exact h q (List.mem_of_find?_eq_some e)
theorem mWP_in {tb : mTb} (hm : mMT tb) {Q : mQo} {pc : Nat} {ls : mLs} {st : List Value} {h : mHp} (k : mLk tb pc Q (mWP tb Q) ls st h) : mWP tb Q pc ls st h :=
  fun X hX => hX _ _ _ _ (mLk_mn hm pc Q Q (mWP tb Q) X (fun _ _ q => q) (fun _ _ _ _ q => q X hX) ls st h k)
theorem mWP_eq {tb : mTb} (hm : mMT tb) (Q : mQo) (pc : Nat) (ls : mLs) (st : List Value) (h : mHp) : mWP tb Q pc ls st h = mLk tb pc Q (mWP tb Q) ls st h :=
  propext ⟨fun k => k (fun pc ls st h => mLk tb pc Q (mWP tb Q) ls st h) (fun pc ls st h q => mLk_mn hm pc Q Q _ _ (fun _ _ q => q) (fun _ _ _ _ q => mWP_in hm q) ls st h q), mWP_in hm⟩
theorem mWP_mono {tb : mTb} (hm : mMT tb) {Q Q' : mQo} (hQ : ∀ r h, Q r h → Q' r h) {pc : Nat} {ls : mLs} {st : List Value} {h : mHp} (k : mWP tb Q pc ls st h) : mWP tb Q' pc ls st h :=
  k (mWP tb Q') (fun pc ls st h q => mWP_in hm (mLk_mn hm pc Q Q' _ _ hQ (fun _ _ _ _ q => q) ls st h q))
def mEn : Nat → List Value → mLs
  | n, [] => List.replicate n none
  | n, v :: vs => if v.category = 2 then some v :: none :: mEn (n - 2) vs else some v :: mEn (n - 1) vs
def mRun (tb : mTb) (nL : Nat) : mCo := fun as h Q => (as.map Value.category).sum ≤ nL ∧ mWP tb Q 0 (mEn nL as) [] h
theorem mRun_mn {tb : mTb} (hm : mMT tb) (nL : Nat) : mMC (mRun tb nL) := fun _ _ _ _ hQ k => ⟨k.1, mWP_mono hm hQ k.2⟩
/-! ===== every instruction is monotone ===== -/
theorem mn_PI (v : Int32) (n : Nat) : mMn (aPI v n) := fun _ _ _ _ _ hX _ _ _ k => hX _ _ _ _ k
theorem mn_PL (v : Int64) (n : Nat) : mMn (aPL v n) := fun _ _ _ _ _ hX _ _ _ k => hX _ _ _ _ k
theorem mn_PN (n : Nat) : mMn (aPN n) := fun _ _ _ _ _ hX _ _ _ k => hX _ _ _ _ k
theorem mn_LI (i n : Nat) : mMn (aLI i n) := fun _ _ _ _ _ hX ls st h k => by
  unfold aLI at k ⊢; split at k <;> first | exact hX _ _ _ _ k | exact k.elim
theorem mn_LL (i n : Nat) : mMn (aLL i n) := fun _ _ _ _ _ hX ls st h k => by
  unfold aLL at k ⊢; split at k <;> first | exact hX _ _ _ _ k | exact k.elim
theorem mn_LA (i n : Nat) : mMn (aLA i n) := fun _ _ _ _ _ hX ls st h k => by
  unfold aLA at k ⊢; split at k <;> first | exact hX _ _ _ _ k | exact k.elim
theorem mn_SI (i n : Nat) : mMn (aSI i n) := fun _ _ _ _ _ hX ls st h k => by
  unfold aSI at k ⊢; split at k <;> first | exact hX _ _ _ _ k | exact k.elim
theorem mn_SL (i n : Nat) : mMn (aSL i n) := fun _ _ _ _ _ hX ls st h k => by
  unfold aSL at k ⊢; split at k <;> first | exact hX _ _ _ _ k | exact k.elim
theorem mn_SA (i n : Nat) : mMn (aSA i n) := fun _ _ _ _ _ hX ls st h k => by
  unfold aSA at k ⊢; split at k <;> first | exact hX _ _ _ _ k | exact k.elim
theorem mn_Inc (i : Nat) (v : Int32) (n : Nat) : mMn (aInc i v n) := fun _ _ _ _ _ hX ls st h k => by
  unfold aInc at k ⊢; split at k <;> first | exact hX _ _ _ _ k | exact k.elim
theorem mn_U (f : Int32 → Int32) (n : Nat) : mMn (aU f n) := fun _ _ _ _ _ hX ls st h k => by
  unfold aU at k ⊢; split at k <;> first | exact hX _ _ _ _ k | exact k.elim
theorem mn_B (f : Int32 → Int32 → Int32) (n : Nat) : mMn (aB f n) := fun _ _ _ _ _ hX ls st h k => by
  unfold aB at k ⊢; split at k <;> first | exact hX _ _ _ _ k | exact k.elim
theorem mn_D (f : Int32 → Int32 → Int32) (n : Nat) : mMn (aD f n) := fun _ _ _ _ _ hX ls st h k => by
  unfold aD at k ⊢; split at k <;> first | exact ⟨k.1, hX _ _ _ _ k.2⟩ | exact k.elim
theorem mn_UL (f : Int64 → Int64) (n : Nat) : mMn (aUL f n) := fun _ _ _ _ _ hX ls st h k => by
  unfold aUL at k ⊢; split at k <;> first | exact hX _ _ _ _ k | exact k.elim
theorem mn_BL (f : Int64 → Int64 → Int64) (n : Nat) : mMn (aBL f n) := fun _ _ _ _ _ hX ls st h k => by
  unfold aBL at k ⊢; split at k <;> first | exact hX _ _ _ _ k | exact k.elim
theorem mn_DL (f : Int64 → Int64 → Int64) (n : Nat) : mMn (aDL f n) := fun _ _ _ _ _ hX ls st h k => by
  unfold aDL at k ⊢; split at k <;> first | exact ⟨k.1, hX _ _ _ _ k.2⟩ | exact k.elim
theorem mn_Sh (f : Int64 → Int32 → Int64) (n : Nat) : mMn (aSh f n) := fun _ _ _ _ _ hX ls st h k => by
  unfold aSh at k ⊢; split at k <;> first | exact hX _ _ _ _ k | exact k.elim
theorem mn_I2L (n : Nat) : mMn (aI2L n) := fun _ _ _ _ _ hX ls st h k => by
  unfold aI2L at k ⊢; split at k <;> first | exact hX _ _ _ _ k | exact k.elim
theorem mn_L2I (n : Nat) : mMn (aL2I n) := fun _ _ _ _ _ hX ls st h k => by
  unfold aL2I at k ⊢; split at k <;> first | exact hX _ _ _ _ k | exact k.elim
theorem mn_Cmp (n : Nat) : mMn (aCmp n) := fun _ _ _ _ _ hX ls st h k => by
  unfold aCmp at k ⊢; split at k <;> first | exact hX _ _ _ _ k | exact k.elim
theorem mn_Dup (n : Nat) : mMn (aDup n) := fun _ _ _ _ _ hX ls st h k => by
  unfold aDup at k ⊢; split at k <;> first | exact hX _ _ _ _ k | exact k.elim
theorem mn_Dup2 (n : Nat) : mMn (aDup2 n) := fun _ _ _ _ _ hX ls st h k => by
  unfold aDup2 at k ⊢; split at k <;> first | exact hX _ _ _ _ k | exact k.elim
theorem mn_Pop (n : Nat) : mMn (aPop n) := fun _ _ _ _ _ hX ls st h k => by
  unfold aPop at k ⊢; split at k <;> first | exact hX _ _ _ _ k | exact k.elim
theorem mn_If (P : Int32 → Prop) (t n : Nat) : mMn (aIf P t n) := fun _ _ _ _ _ hX ls st h k => by
  unfold aIf at k ⊢; split at k <;> first | exact ⟨fun c => hX _ _ _ _ (k.1 c), fun c => hX _ _ _ _ (k.2 c)⟩ | exact k.elim
theorem mn_Ic (P : Int32 → Int32 → Prop) (t n : Nat) : mMn (aIc P t n) := fun _ _ _ _ _ hX ls st h k => by
  unfold aIc at k ⊢; split at k <;> first | exact ⟨fun c => hX _ _ _ _ (k.1 c), fun c => hX _ _ _ _ (k.2 c)⟩ | exact k.elim
theorem mn_Go (t : Nat) : mMn (aGo t) := fun _ _ _ _ _ hX _ _ _ k => hX _ _ _ _ k
theorem mn_Nu (t n : Nat) : mMn (aNu t n) := fun _ _ _ _ _ hX ls st h k => by
  unfold aNu at k ⊢; split at k <;> first | exact hX _ _ _ _ k | exact k.elim
theorem mn_Nn (t n : Nat) : mMn (aNn t n) := fun _ _ _ _ _ hX ls st h k => by
  unfold aNn at k ⊢; split at k <;> first | exact hX _ _ _ _ k | exact k.elim
theorem mn_Ts (ks : List (Int32 × Nat)) (d : Nat) : mMn (aTs ks d) := fun _ _ _ _ _ hX ls st h k => by
  unfold aTs at k ⊢; split at k <;> first | exact ⟨fun q hq e => hX _ _ _ _ (k.1 q hq e), fun c => hX _ _ _ _ (k.2 c)⟩ | exact k.elim
theorem mn_GI (ci k n : Nat) : mMn (aGI ci k n) := fun _ _ _ _ _ hX ls st h k => by
  unfold aGI at k ⊢; split at k <;> first | exact ⟨k.1, hX _ _ _ _ k.2⟩ | exact k.elim
theorem mn_GL (ci k n : Nat) : mMn (aGL ci k n) := fun _ _ _ _ _ hX ls st h k => by
  unfold aGL at k ⊢; split at k <;> first | exact ⟨k.1, hX _ _ _ _ k.2⟩ | exact k.elim
theorem mn_GR (ci k n : Nat) : mMn (aGR ci k n) := fun _ _ _ _ _ hX ls st h k => by
  unfold aGR at k ⊢; split at k <;> first | exact ⟨k.1, hX _ _ _ _ k.2⟩ | exact k.elim
theorem mn_WI (ci k n : Nat) : mMn (aWI ci k n) := fun _ _ _ _ _ hX ls st h k => by
  unfold aWI at k ⊢; split at k <;> first | exact ⟨k.1, hX _ _ _ _ k.2⟩ | exact k.elim
theorem mn_WL (ci k n : Nat) : mMn (aWL ci k n) := fun _ _ _ _ _ hX ls st h k => by
  unfold aWL at k ⊢; split at k <;> first | exact ⟨k.1, hX _ _ _ _ k.2⟩ | exact k.elim
theorem mn_WR (ci k n : Nat) : mMn (aWR ci k n) := fun _ _ _ _ _ hX ls st h k => by
  unfold aWR at k ⊢; split at k <;> first | exact ⟨k.1, hX _ _ _ _ k.2⟩ | exact k.elim
theorem mn_IA (n : Nat) : mMn (aIA n) := fun _ _ _ _ _ hX ls st h k => by
  unfold aIA at k ⊢; split at k <;> first | exact ⟨k.1, k.2.1, hX _ _ _ _ k.2.2⟩ | exact k.elim
theorem mn_JA (n : Nat) : mMn (aJA n) := fun _ _ _ _ _ hX ls st h k => by
  unfold aJA at k ⊢; split at k <;> first | exact ⟨k.1, k.2.1, hX _ _ _ _ k.2.2⟩ | exact k.elim
theorem mn_AA (n : Nat) : mMn (aAA n) := fun _ _ _ _ _ hX ls st h k => by
  unfold aAA at k ⊢; split at k <;> first | exact ⟨k.1, k.2.1, hX _ _ _ _ k.2.2⟩ | exact k.elim
theorem mn_IS (n : Nat) : mMn (aIS n) := fun _ _ _ _ _ hX ls st h k => by
  unfold aIS at k ⊢; split at k <;> first | exact ⟨k.1, k.2.1, hX _ _ _ _ k.2.2⟩ | exact k.elim
theorem mn_JS (n : Nat) : mMn (aJS n) := fun _ _ _ _ _ hX ls st h k => by
  unfold aJS at k ⊢; split at k <;> first | exact ⟨k.1, k.2.1, hX _ _ _ _ k.2.2⟩ | exact k.elim
theorem mn_AS (n : Nat) : mMn (aAS n) := fun _ _ _ _ _ hX ls st h k => by
  unfold aAS at k ⊢; split at k <;> first | exact ⟨k.1, k.2.1, hX _ _ _ _ k.2.2⟩ | exact k.elim
theorem mn_Len (n : Nat) : mMn (aLen n) := fun _ _ _ _ _ hX ls st h k => by
  unfold aLen at k ⊢; split at k <;> first | exact ⟨k.1, hX _ _ _ _ k.2⟩ | exact k.elim
theorem mn_New (ci nf mc ms n : Nat) : mMn (aNew ci nf mc ms n) := fun _ _ _ _ _ hX ls st h k => ⟨k.1, hX _ _ _ _ k.2⟩
theorem mn_NI (tg mc ms n : Nat) : mMn (aNI tg mc ms n) := fun _ _ _ _ _ hX ls st h k => by
  unfold aNI at k ⊢; split at k <;> first | exact ⟨k.1, k.2.1, hX _ _ _ _ k.2.2⟩ | exact k.elim
theorem mn_NP (mc ms n : Nat) : mMn (aNP mc ms n) := fun _ _ _ _ _ hX ls st h k => by
  unfold aNP at k ⊢; split at k <;> first | exact ⟨k.1, k.2.1, hX _ _ _ _ k.2.2⟩ | exact k.elim
theorem mn_GS (n : Nat) : mMn (aGS n) := fun _ _ _ _ _ hX _ _ _ k => hX _ _ _ _ k
theorem mn_Obj (n : Nat) : mMn (aObj n) := fun _ _ _ _ _ hX ls st h k => by
  unfold aObj at k ⊢; split at k <;> first | exact ⟨k.1, hX _ _ _ _ k.2⟩ | exact k.elim
theorem mn_CS (k : Nat) {C : mCo} (hC : mMC C) (n : Nat) : mMn (aCS k C n) := fun _ _ _ _ _ hX _ _ _ q => ⟨q.1, hC _ _ _ _ (fun _ _ z => ⟨z.1, hX _ _ _ _ z.2⟩) q.2⟩
theorem mn_CV (ci k : Nat) {C : mCo} (hC : mMC C) (n : Nat) : mMn (aCV ci k C n) := fun _ _ _ _ _ hX _ _ _ q => ⟨q.1, q.2.1, hC _ _ _ _ (fun _ _ z => ⟨z.1, hX _ _ _ _ z.2⟩) q.2.2⟩
theorem mn_CI {C : mCo} (hC : mMC C) (mc ms capc caps n : Nat) : mMn (aCI C mc ms capc caps n) := fun _ _ _ _ _ hX ls st h q => by
  unfold aCI at q ⊢; split at q <;> first | exact ⟨q.1, hC _ _ _ _ (fun _ _ z => ⟨z.1, z.2.1, hX _ _ _ _ z.2.2⟩) q.2⟩ | exact q.elim
theorem mn_Cp (n : Nat) : mMn (aCp n) := fun _ _ _ _ _ hX ls st h k => by
  unfold aCp at k ⊢; split at k <;> first | exact ⟨k.1, k.2.1, hX _ _ _ _ k.2.2⟩ | exact k.elim
theorem mn_RI : mMn aRI := fun _ _ _ _ hQ _ ls st h k => by
  unfold aRI at k ⊢; split at k <;> first | exact hQ _ _ k | exact k.elim
theorem mn_RZ : mMn aRZ := fun _ _ _ _ hQ _ ls st h k => by
  unfold aRZ at k ⊢; split at k <;> first | exact ⟨k.1, hQ _ _ k.2⟩ | exact k.elim
theorem mn_RL : mMn aRL := fun _ _ _ _ hQ _ ls st h k => by
  unfold aRL at k ⊢; split at k <;> first | exact hQ _ _ k | exact k.elim
theorem mn_RR : mMn aRR := fun _ _ _ _ hQ _ ls st h k => by
  unfold aRR at k ⊢; split at k <;> first | exact hQ _ _ k | exact k.elim
theorem mn_RV : mMn aRV := fun _ _ _ _ hQ _ ls st h k => by
  unfold aRV at k ⊢; split at k <;> first | exact hQ _ _ k | exact k.elim
