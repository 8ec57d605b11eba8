theorem mE_congr {B : mBs} {h h' : mHp} {x : Nat} (h1 : mTg h'.1 x = mTg h.1 x) (h2 : mLn h'.1 x = mLn h.1 x) (h3 : ∀ k, mRf h'.1 x k = mRf h.1 x k) (h4 : ∀ j, h'.2.1 x j = h.2.1 x j) (h5 : ∀ j, h'.2.2 x j = h.2.2 x j) : mE B h' x = mE B h x := by
  have e4 : h'.2.1 x = h.2.1 x := funext h4
  have e5 : h'.2.2 x = h.2.2 x := funext h5
  unfold mE
  rw [h1, h2, e4, e5]
  simp only [h3]
  split
  · rfl
  · rfl
  · rfl
  · rename_i ci _
    have : ∀ k, mFV B h' x ci k = mFV B h x ci k := fun k => by unfold mFV; rw [h3, e4, e5]
    simp only [this]
theorem mUI_ne {f : Nat → Nat → Int32} {a k x j : Nat} {v : Int32} (h : x ≠ a) : mUI f a k v x j = f x j := by unfold mUI; rw [if_neg h]
theorem mUI_eq {f : Nat → Nat → Int32} {a k j : Nat} {v : Int32} : mUI f a k v a j = if j = k then v else f a j := by unfold mUI; rw [if_pos rfl]
theorem mUL_ne {f : Nat → Nat → Int64} {a k x j : Nat} {v : Int64} (h : x ≠ a) : mUL f a k v x j = f x j := by unfold mUL; rw [if_neg h]
theorem mUL_eq {f : Nat → Nat → Int64} {a k j : Nat} {v : Int64} : mUL f a k v a j = if j = k then v else f a j := by unfold mUL; rw [if_pos rfl]
theorem mUR_len (t : mTT) (a k : Nat) (r : Option Nat) : (mUR t a k r).1.length = t.1.length := by unfold mUR; simp
theorem mUR_get (t : mTT) (a k : Nat) (r : Option Nat) (x : Nat) : (mUR t a k r).1[x]? = if a = x then (t.1[x]?).map (fun q => (q.1, q.2.1, q.2.2.set k r)) else t.1[x]? := by
  unfold mUR
  rw [List.getElem?_modify]
  by_cases e : a = x
  · subst e
    simp only [if_true]; rfl
  · simp only [if_neg e]; cases t.1[x]? <;> rfl
theorem mUR_Tg (t : mTT) (a k : Nat) (r : Option Nat) (x : Nat) : mTg (mUR t a k r) x = mTg t x := by
  unfold mTg
  rw [mUR_get]
  by_cases e : a = x
  · rw [if_pos e]; cases t.1[x]? <;> rfl
  · rw [if_neg e]
theorem mUR_Ln (t : mTT) (a k : Nat) (r : Option Nat) (x : Nat) : mLn (mUR t a k r) x = mLn t x := by
  unfold mLn
  rw [mUR_get]
  by_cases e : a = x
  · rw [if_pos e]; cases t.1[x]? <;> rfl
  · rw [if_neg e]
theorem mUR_Rf (t : mTT) (a k : Nat) (r : Option Nat) (x j : Nat) (hk : k < mRl t a) : mRf (mUR t a k r) x j = if a = x then (if j = k then r else mRf t x j) else mRf t x j := by
  unfold mRf
  rw [mUR_get]
  by_cases e : a = x
  · subst e
    simp only [if_true]
    unfold mRl at hk
    cases ht : t.1[a]? with
    | none => rw [ht] at hk; exact absurd hk (Nat.not_lt_zero _)
    | some q =>
      rw [ht] at hk
      show (q.2.2.set k r).getD j none = _
      rw [List.getD_eq_getElem?_getD, List.getElem?_set]
      by_cases e2 : k = j
      · subst e2
        rw [if_pos rfl, if_pos hk, if_pos rfl]; rfl
      · rw [if_neg e2, if_neg (Ne.symm e2)]
        show _ = q.2.2.getD j none
        rw [List.getD_eq_getElem?_getD]
  · rw [if_neg e, if_neg e]
theorem mCv_RV (B : mBs) (o : Option Nat) : mCv B (mRV o) = va_rf (o.map (mRho B)) := by cases o <;> rfl
theorem m_list {n k : Nat} {f f' : Nat → Value} {v : Value} (hv : f' k = v) (ho : ∀ j, j ≠ k → f' j = f j) : (List.range n).map f' = ((List.range n).map f).set k v := by
  apply List.ext_getElem?
  intro j
  rw [List.getElem?_set, List.getElem?_map, List.length_map, List.length_range]
  by_cases e : k = j
  · subst e
    rw [if_pos rfl]
    by_cases hl : k < n
    · rw [if_pos hl, List.getElem?_range hl]; simp [hv]
    · rw [if_neg hl, List.getElem?_eq_none (by simp; omega)]; rfl
  · rw [if_neg e, List.getElem?_map]
    by_cases hl : j < n
    · rw [List.getElem?_range hl]; simp [ho j (Ne.symm e)]
    · rw [List.getElem?_eq_none (by simp; omega)]; rfl
theorem mE_ob {B : mBs} {h : mHp} {a ci : Nat} (ht : mTg h.1 a = ci + 3) : mE B h a = .inr (ci, (List.range (mN ci)).map (fun k => mFV B h a ci k)) := by unfold mE; rw [ht]
theorem mE_0 {B : mBs} {h : mHp} {a : Nat} (ht : mTg h.1 a = 0) : mE B h a = .inl (bki B, mLn h.1 a, .inl (h.2.1 a)) := by unfold mE; rw [ht]
theorem mE_1 {B : mBs} {h : mHp} {a : Nat} (ht : mTg h.1 a = 1) : mE B h a = .inl (bkl B, mLn h.1 a, .inr (.inl (h.2.2 a))) := by unfold mE; rw [ht]
theorem mE_2 {B : mBs} {h : mHp} {a : Nat} (ht : mTg h.1 a = 2) : mE B h a = .inl (bkp B, mLn h.1 a, .inr (.inr (.inr (.inr (fun j => (mRf h.1 a j).map (mRho B)))))) := by unfold mE; rw [ht]
theorem mFV_congr {B : mBs} {h h' : mHp} {a ci k : Nat} (h1 : mRf h'.1 a k = mRf h.1 a k) (h2 : h'.2.1 a k = h.2.1 a k) (h3 : h'.2.2 a k = h.2.2 a k) : mFV B h' a ci k = mFV B h a ci k := by unfold mFV; rw [h1, h2, h3]
/-- the object at a: its place in the world -/
theorem m_ob {B : mBs} {h : mHp} {H : Heap} (hh : mHold B h H) {a ci : Nat} {q : vw_C} (hc : vwCl[ci]? = some q) (ht : mTg h.1 a = ci + 3) : (2 ≤ a ∧ a < h.1.1.length) ∧ ∃ k : Nat, (mWs B h)[k]? = some (mRho B a, mE B h a) := by
  have hci : ci < 12 := (List.getElem?_eq_some_iff.mp hc).1
  have h2 : 2 ≤ a := m_ge hh (by rw [ht]; omega)
  have hl : a < h.1.1.length := m_lt (by rw [ht]; omega)
  exact ⟨⟨h2, hl⟩, m_get h2 hl⟩
/-- after a change of cell a alone -/
theorem m_held {B : mBs} {h h' : mHp} {H H1 : Heap} {a k : Nat} {E : va_E} (hh : mHold B h H) (h2 : 2 ≤ a) (hl : a < h.1.1.length) (hk : (mWs B h)[k]? = some (mRho B a, mE B h a)) (hP : va_P (bD B) vwCl ((mWs B h).set k (mRho B a, E)) H1) (hD : va_D (mA B) ((mWs B h).set k (mRho B a, E))) (hlen : h'.1.1.length = h.1.1.length) (hE : mE B h' a = E) (ho : ∀ x, x ≠ a → mE B h' x = mE B h x) (ht : ∀ x, x ≠ a → h'.1.1[x]? = h.1.1[x]?) (hi : ∀ x j, x ≠ a → h'.2.1 x j = h.2.1 x j) : mHold B h' H1 := by
  obtain ⟨-, g2, g3, ⟨g4, g5⟩, g6, g7⟩ := hh
  rw [m_set h2 hl g2 hk hlen hE ho] at hP hD
  refine ⟨hP, hD, by rw [hlen]; exact g3, ⟨by rw [ht 0 (by omega)]; exact g4, by rw [ht 1 (by omega)]; exact g5⟩, fun j hj => by rw [hi 0 j (by omega)]; exact g6 j hj, fun j hj => by rw [hi 1 j (by omega)]; exact g7 j hj⟩
theorem W.sized {p : Program} {l : Launch} {e : Env} {R : Room} {s : State} {m : MethodId} {args : Array Value} {below : List Frame} {meth : Method} {c : Code} {H : Heap} {locs : List Loc} {cells slots : Nat} {Qf : State → Prop} {g : JFrame} (k : H.size ≤ s.heap.size + cells → W p l e R s m args below meth c H locs cells slots Qf g) : W p l e R s m args below meth c H locs cells slots Qf g := fun T hT X => k (by rw [← hT]; exact X.same.2.2.1) T hT X
theorem m_size {B : mBs} {h : mHp} {H H0 : Heap} {locs : List Loc} {n : Nat} (hh : mHold B h H) (h0 : H0.size + n = bb B + (h.1.1.length - 2)) (hb : bb B ≤ H0.size) (hS : va_S (mA B) H0 H locs) (hu : H.size ≤ H0.size + n) : H.size = bb B + (h.1.1.length - 2) := by
  have h1 := hS.1
  have h2 := hh.2.2.1
  by_cases e : h.1.1.length = 2
  · omega
  · obtain ⟨k, hk⟩ := m_get (B := B) (h := h) (a := h.1.1.length - 1) (by omega) (by omega)
    have h3 := (hh.1 k _ hk).lt
    have h4 : mRho B (h.1.1.length - 1) = bb B + (h.1.1.length - 1 - 2) := mRho_eq B (by omega)
    have h5 : mRho B (h.1.1.length - 1) < H.size := h3
    omega
section
variable {l : Launch} {B : mBs} {own : String} {cc : ByteArray} {nL : Nat} {p : Program} {e : Env} {R : Room} {s : State} {m : MethodId} {args : Array Value} {below : List Frame} {meth : Method} {c : Code} {Qf : State → Prop} {Q : mQo} {pc : Nat}
/-- the words of a field, decided by a program: its class, its kind, its link -/
def mFok (own : String) (ci k kd idx : Nat) (C : String) (T : u_T) (N : Nat) : Prop := vwCl[ci]? = some (C, T, N) ∧ (∀ w ∈ u_ws C T N, w ∈ mGood) ∧ k < N ∧ mN ci = N ∧ mFk ci k = kd ∧ Cond.fieldLink own idx (T k).1 (T k).2.1 (T k).2.2.1 ∈ mGood
theorem m_fs {B : mBs} {h : mHp} {a ci k N : Nat} (hk : k < N) (hN : mN ci = N) : ((List.range (mN ci)).map (fun k => mFV B h a ci k))[k]? = some (mFV B h a ci k) := by
  rw [List.getElem?_map, List.getElem?_range (by rw [hN]; exact hk)]; rfl
theorem sn_getI (X : mCx l B own cc nL p s m args c) {ci k idx N : Nat} {C : String} {T : u_T} (hf : mFok own ci k 0 idx C T N) (hd : decode cc pc = .ok (.getfield idx, 3)) : mSnd l B nL p e R s m args below meth c Qf Q (aGI ci k (pc + 3)) pc := by
  intro ls st h k arr H locs ha hh hS
  obtain ⟨hc, hin, hk, hN, hkd, hlk⟩ := hf
  unfold aGI at k
  split at k
  · obtain ⟨ht, k⟩ := k
    obtain ⟨-, q, hq⟩ := m_ob hh.1 hc ht
    rw [mE_ob ht] at hq
    exact va_get X.1.1 X.1.2.1 X.2.1 hin X.1.2.2.2 X.2.2.2.2.1 hh.1.1 q hq hc _ hk (X.2.1 _ hlk) (fun _ z => z) (m_fs hk hN) hd (by unfold mFV; rw [hkd]; exact k arr H locs ha hh hS)
  · exact k.elim
theorem sn_getL (X : mCx l B own cc nL p s m args c) {ci k idx N : Nat} {C : String} {T : u_T} (hf : mFok own ci k 1 idx C T N) (hd : decode cc pc = .ok (.getfield idx, 3)) : mSnd l B nL p e R s m args below meth c Qf Q (aGL ci k (pc + 3)) pc := by
  intro ls st h k arr H locs ha hh hS
  obtain ⟨hc, hin, hk, hN, hkd, hlk⟩ := hf
  unfold aGL at k
  split at k
  · obtain ⟨ht, k⟩ := k
    obtain ⟨-, q, hq⟩ := m_ob hh.1 hc ht
    rw [mE_ob ht] at hq
    exact va_get X.1.1 X.1.2.1 X.2.1 hin X.1.2.2.2 X.2.2.2.2.1 hh.1.1 q hq hc _ hk (X.2.1 _ hlk) (fun _ z => z) (m_fs hk hN) hd (by unfold mFV; rw [hkd]; exact k arr H locs ha hh hS)
  · exact k.elim
theorem sn_getR (X : mCx l B own cc nL p s m args c) {ci k idx N : Nat} {C : String} {T : u_T} (hf : mFok own ci k 2 idx C T N) (hd : decode cc pc = .ok (.getfield idx, 3)) : mSnd l B nL p e R s m args below meth c Qf Q (aGR ci k (pc + 3)) pc := by
  intro ls st h k arr H locs ha hh hS
  obtain ⟨hc, hin, hk, hN, hkd, hlk⟩ := hf
  unfold aGR at k
  split at k
  · obtain ⟨ht, k⟩ := k
    obtain ⟨-, q, hq⟩ := m_ob hh.1 hc ht
    rw [mE_ob ht] at hq
    refine va_get X.1.1 X.1.2.1 X.2.1 hin X.1.2.2.2 X.2.2.2.2.1 hh.1.1 q hq hc _ hk (X.2.1 _ hlk) (fun _ z => z) (m_fs hk hN) hd ?_
    have hz := k arr H locs ha hh hS
    rw [List.map_cons, mCv_RV] at hz
    unfold mFV; rw [hkd]; exact hz
  · exact k.elim
/-- types and names of a class's fields -/
def mTok (ty : Nat → FieldType) (T : u_T) (N : Nat) : Prop := (∀ k, k < N → parseFieldDescriptor (T k).2.2.1 = some (ty k)) ∧ (∀ a, a < N → ∀ b, b < N → a ≠ b → (T a).2.1 ≠ (T b).2.1)
theorem sn_putI (X : mCx l B own cc nL p s m args c) {ci k idx N : Nat} {C : String} {T : u_T} {ty : Nat → FieldType} (hf : mFok own ci k 0 idx C T N) (hty : mTok ty T N) (hfin : (T k).2.2.2 = false) (htk : ty k = .int) (hd : decode cc pc = .ok (.putfield idx, 3)) : mSnd l B nL p e R s m args below meth c Qf Q (aWI ci k (pc + 3)) pc := by
  intro ls st h kk arr H locs ha hh hS
  obtain ⟨hc, hin, hk, hN, hkd, hlk⟩ := hf
  unfold aWI at kk
  split at kk
  · rename_i x a r
    obtain ⟨ht, kk⟩ := kk
    obtain ⟨⟨h2, hl⟩, q, hq⟩ := m_ob hh.1 hc ht
    have hq' := hq
    rw [mE_ob ht] at hq'
    refine va_put (ty := .int) (v := .int x) X.1.1 X.1.2.1 X.2.1 hin ty hty.1 hty.2 X.1.2.2.2 X.2.2.2.2.1 hh.1.1 hh.1.2.1 hS q hq' hc _ hk (X.2.1 _ hlk) (fun _ z => z) hfin (by rw [hty.1 _ hk, htk]) rfl rfl (by rw [List.length_map, List.length_range, hN]; exact hk) hd (fun H1 locs1 hP1 hD1 hS1 => ?_)
    refine kk arr H1 locs1 ha ⟨m_held hh.1 h2 hl hq hP1 hD1 rfl ?_ (fun x' hx' => mE_congr rfl rfl (fun _ => rfl) (fun j => mUI_ne hx') (fun _ => rfl)) (fun _ _ => rfl) (fun x' j hx' => mUI_ne hx'), hh.2⟩ hS1
    rw [mE_ob (h := (h.1, mUI h.2.1 a _ x, h.2.2)) ht]
    congr 2
    refine m_list ?_ (fun j hj => ?_)
    · unfold mFV; rw [hkd]; show Value.int (mUI h.2.1 a _ x a _) = _; rw [mUI_eq, if_pos rfl]
    · exact mFV_congr rfl (by show mUI h.2.1 a _ x a j = _; rw [mUI_eq, if_neg hj]) rfl
  · exact kk.elim
theorem sn_putL (X : mCx l B own cc nL p s m args c) {ci k idx N : Nat} {C : String} {T : u_T} {ty : Nat → FieldType} (hf : mFok own ci k 1 idx C T N) (hty : mTok ty T N) (hfin : (T k).2.2.2 = false) (htk : ty k = .long) (hd : decode cc pc = .ok (.putfield idx, 3)) : mSnd l B nL p e R s m args below meth c Qf Q (aWL ci k (pc + 3)) pc := by
  intro ls st h kk arr H locs ha hh hS
  obtain ⟨hc, hin, hk, hN, hkd, hlk⟩ := hf
  unfold aWL at kk
  split at kk
  · rename_i x a r
    obtain ⟨ht, kk⟩ := kk
    obtain ⟨⟨h2, hl⟩, q, hq⟩ := m_ob hh.1 hc ht
    have hq' := hq
    rw [mE_ob ht] at hq'
    refine va_put (ty := .long) (v := .long x) X.1.1 X.1.2.1 X.2.1 hin ty hty.1 hty.2 X.1.2.2.2 X.2.2.2.2.1 hh.1.1 hh.1.2.1 hS q hq' hc _ hk (X.2.1 _ hlk) (fun _ z => z) hfin (by rw [hty.1 _ hk, htk]) rfl rfl (by rw [List.length_map, List.length_range, hN]; exact hk) hd (fun H1 locs1 hP1 hD1 hS1 => ?_)
    refine kk arr H1 locs1 ha ⟨m_held hh.1 h2 hl hq hP1 hD1 rfl ?_ (fun x' hx' => mE_congr rfl rfl (fun _ => rfl) (fun _ => rfl) (fun j => mUL_ne hx')) (fun _ _ => rfl) (fun x' j hx' => rfl), hh.2⟩ hS1
    rw [mE_ob (h := (h.1, h.2.1, mUL h.2.2 a _ x)) ht]
    congr 2
    refine m_list ?_ (fun j hj => ?_)
    · unfold mFV; rw [hkd]; show Value.long (mUL h.2.2 a _ x a _) = _; rw [mUL_eq, if_pos rfl]
    · exact mFV_congr rfl rfl (by show mUL h.2.2 a _ x a j = _; rw [mUL_eq, if_neg hj])
  · exact kk.elim
/-- a final reference, in its own constructor -/
theorem sn_putR (X : mCx l B own cc nL p s m args c) (hin2 : meth.name = "<init>") {ci k idx N : Nat} {C D' : String} {T : u_T} {ty : Nat → FieldType} {t0 : FieldType} (hf : mFok own ci k 2 idx C T N) (hty : mTok ty T N) (hfin : (T k).2.2.2 = true) (hdecl : (T k).1 = own) (htk : ty k = t0) (hrk : ∀ a, narrow t0 (.ref a) = .ref a ∧ fits t0 (.ref a) = true) (hd : decode cc pc = .ok (.putfield idx, 3)) : mSnd l B nL p e R s m args below meth c Qf Q (aWR ci k (pc + 3)) pc := by
  intro ls st h kk arr H locs ha hh hS
  obtain ⟨hc, hin, hk, hN, hkd, hlk⟩ := hf
  unfold aWR at kk
  split at kk
  · rename_i x a r
    obtain ⟨⟨ht, hrl⟩, kk⟩ := kk
    obtain ⟨⟨h2, hl⟩, q, hq⟩ := m_ob hh.1 hc ht
    have hq' := hq
    rw [mE_ob ht] at hq'
    refine va_putF (ty := t0) (v := .ref (mRho B x)) X.1.1 X.1.2.1 X.2.1 hin ty hty.1 hty.2 X.1.2.2.2 X.2.2.2.2.1 hh.1.1 hh.1.2.1 hS q hq' hc _ hk (X.2.1 _ hlk) (fun _ z => z) hfin hin2 hdecl (by rw [hty.1 _ hk, htk]) (hrk _).1 (hrk _).2 (by rw [List.length_map, List.length_range, hN]; exact hk) hd (fun H1 locs1 hP1 hD1 hS1 => ?_)
    refine kk arr H1 locs1 ha ⟨m_held hh.1 h2 hl hq hP1 hD1 (mUR_len _ _ _ _) ?_ (fun x' hx' => mE_congr (mUR_Tg _ _ _ _ _) (mUR_Ln _ _ _ _ _) (fun j => by rw [mUR_Rf _ _ _ _ _ _ hrl, if_neg (Ne.symm hx')]) (fun _ => rfl) (fun _ => rfl)) (fun x' hx' => by rw [mUR_get, if_neg (Ne.symm hx')]) (fun _ _ _ => rfl), by show _ = bb B + ((mUR h.1 a _ (some x)).1.length - 2); rw [mUR_len]; exact hh.2.1, hh.2.2⟩ hS1
    rw [mE_ob (h := (mUR h.1 a _ (some x), h.2)) (by rw [mUR_Tg]; exact ht)]
    congr 2
    refine m_list ?_ (fun j hj => ?_)
    · unfold mFV; rw [hkd]; show va_rf ((mRf (mUR h.1 a _ (some x)) a _).map (mRho B)) = _; rw [mUR_Rf _ _ _ _ _ _ hrl, if_pos rfl, if_pos rfl]; rfl
    · exact mFV_congr (by rw [mUR_Rf _ _ _ _ _ _ hrl, if_pos rfl, if_neg hj]) rfl rfl
  · exact kk.elim
theorem sn_iaload (X : mCx l B own cc nL p s m args c) (hd : decode cc pc = .ok (.iaload, 1)) : mSnd l B nL p e R s m args below meth c Qf Q (aIA (pc + 1)) pc := by
  intro ls st h kk arr H locs ha hh hS
  unfold aIA at kk
  split at kk
  · rename_i i a r
    obtain ⟨ht, hin, kk⟩ := kk
    have hz := kk arr H locs ha hh hS
    obtain ⟨-, -, -, ⟨g4, g5⟩, g6, g7⟩ := hh.1
    have hlt : i.toNatClampNeg < mLn h.1 a := Nat.not_le.mp fun q => hin (Or.inr q)
    match a, ht, hin, hz, hlt with
    | 0, ht, hin, hz, hlt =>
      have e0 : mLn h.1 0 = bL B := by unfold mLn; rw [g4]
      rw [e0] at hin hlt
      rw [g6 _ hlt] at hz
      obtain ⟨f1, f2, f3⟩ := X.2.2.2.2.2.1
      exact va_sld X.1.1 X.1.2.1 f1 (Nat.lt_of_lt_of_le f2 f3) (Nat.not_le.mpr f2) hS hin hd hz
    | 1, ht, hin, hz, hlt =>
      have e0 : mLn h.1 1 = 64 := by unfold mLn; rw [g5]
      rw [e0] at hin hlt
      rw [g7 _ hlt] at hz
      exact va_ti X.1.1 X.1.2.1 X.2.2.2.2.2.2.1 hS hin rfl hd hz
    | b + 2, ht, hin, hz, hlt =>
      obtain ⟨q, hq⟩ := m_get (B := B) (h := h) (a := b + 2) (by omega) (m_lt (by rw [ht]; omega))
      rw [mE_0 ht] at hq
      exact va_iald X.1.1 X.1.2.1 X.2.2.2.2.1 hh.1.1 q 0 hq rfl hin hd hz
  · exact kk.elim
theorem sn_laload (X : mCx l B own cc nL p s m args c) (hd : decode cc pc = .ok (.laload, 1)) : mSnd l B nL p e R s m args below meth c Qf Q (aJA (pc + 1)) pc := by
  intro ls st h kk arr H locs ha hh hS
  unfold aJA at kk
  split at kk
  · rename_i i a r
    obtain ⟨ht, hin, kk⟩ := kk
    obtain ⟨q, hq⟩ := m_get (B := B) (m_ge hh.1 (by rw [ht]; omega)) (m_lt (by rw [ht]; omega))
    rw [mE_1 ht] at hq
    exact va_lald X.1.1 X.1.2.1 X.2.2.2.2.1 hh.1.1 q 1 hq rfl hin hd (kk arr H locs ha hh hS)
  · exact kk.elim
theorem sn_iastore (X : mCx l B own cc nL p s m args c) (hd : decode cc pc = .ok (.iastore, 1)) : mSnd l B nL p e R s m args below meth c Qf Q (aIS (pc + 1)) pc := by
  intro ls st h kk arr H locs ha hh hS
  unfold aIS at kk
  split at kk
  · rename_i x i a r
    obtain ⟨⟨ht, h2⟩, hin, kk⟩ := kk
    have hl : a < h.1.1.length := m_lt (by rw [ht]; omega)
    obtain ⟨q, hq⟩ := m_get (B := B) h2 hl
    have hq' := hq
    rw [mE_0 ht] at hq'
    refine va_iast X.1.1 X.1.2.1 X.2.2.2.2.1 hh.1.1 hh.1.2.1 hS q 0 hq' rfl hin hd (fun H1 locs1 hP1 hD1 hS1 => ?_)
    refine kk arr H1 locs1 ha ⟨m_held hh.1 h2 hl hq hP1 hD1 rfl ?_ (fun x' hx' => mE_congr rfl rfl (fun _ => rfl) (fun j => mUI_ne hx') (fun _ => rfl)) (fun _ _ => rfl) (fun x' j hx' => mUI_ne hx'), hh.2⟩ hS1
    rw [mE_0 (h := (h.1, mUI h.2.1 a _ x, h.2.2)) ht]
    congr 4
    funext j
    show mUI h.2.1 a _ x a j = upd _ _ _ j
    rw [mUI_eq]; rfl
  · exact kk.elim
theorem sn_lastore (X : mCx l B own cc nL p s m args c) (hd : decode cc pc = .ok (.lastore, 1)) : mSnd l B nL p e R s m args below meth c Qf Q (aJS (pc + 1)) pc := by
  intro ls st h kk arr H locs ha hh hS
  unfold aJS at kk
  split at kk
  · rename_i x i a r
    obtain ⟨ht, hin, kk⟩ := kk
    have h2 : 2 ≤ a := m_ge hh.1 (by rw [ht]; omega)
    have hl : a < h.1.1.length := m_lt (by rw [ht]; omega)
    obtain ⟨q, hq⟩ := m_get (B := B) h2 hl
    have hq' := hq
    rw [mE_1 ht] at hq'
    refine va_last X.1.1 X.1.2.1 X.2.2.2.2.1 hh.1.1 hh.1.2.1 hS q 1 hq' rfl hin hd (fun H1 locs1 hP1 hD1 hS1 => ?_)
    refine kk arr H1 locs1 ha ⟨m_held hh.1 h2 hl hq hP1 hD1 rfl ?_ (fun x' hx' => mE_congr rfl rfl (fun _ => rfl) (fun _ => rfl) (fun j => mUL_ne hx')) (fun _ _ => rfl) (fun x' j hx' => rfl), hh.2⟩ hS1
    rw [mE_1 (h := (h.1, h.2.1, mUL h.2.2 a _ x)) ht]
    congr 5
    funext j
    show mUL h.2.2 a _ x a j = _
    rw [mUL_eq]; rfl
  · exact kk.elim
theorem sn_aaload (X : mCx l B own cc nL p s m args c) (hd : decode cc pc = .ok (.aaload, 1)) : mSnd l B nL p e R s m args below meth c Qf Q (aAA (pc + 1)) pc := by
  intro ls st h kk arr H locs ha hh hS
  unfold aAA at kk
  split at kk
  · rename_i i a r
    obtain ⟨ht, hin, kk⟩ := kk
    obtain ⟨q, hq⟩ := m_get (B := B) (m_ge hh.1 (by rw [ht]; omega)) (m_lt (by rw [ht]; omega))
    rw [mE_2 ht] at hq
    have hz := kk arr H locs ha hh hS
    rw [List.map_cons, mCv_RV] at hz
    exact va_aldq X.1.1 X.1.2.1 X.2.2.2.2.1 hh.1.1 q 2 hq rfl hin hd hz
  · exact kk.elim
theorem sn_aastore (X : mCx l B own cc nL p s m args c) (hd : decode cc pc = .ok (.aastore, 1)) : mSnd l B nL p e R s m args below meth c Qf Q (aAS (pc + 1)) pc := by
  intro ls st h kk arr H locs ha hh hS
  unfold aAS at kk
  split at kk
  · rename_i x i a r
    obtain ⟨⟨ht, hx, hrl⟩, hin, kk⟩ := kk
    have h2 : 2 ≤ a := m_ge hh.1 (by rw [ht]; omega)
    have hl : a < h.1.1.length := m_lt (by rw [ht]; omega)
    obtain ⟨q, hq⟩ := m_get (B := B) h2 hl
    obtain ⟨-, q2, hq2⟩ := m_ob hh.1 (ci := 7) rfl hx
    have hq' := hq
    rw [mE_2 ht] at hq'
    rw [mE_ob (ci := 7) hx] at hq2
    refine va_astq (r := (RX7, TX7, 6)) X.1.1 X.1.2.1 X.2.2.2.2.1 hh.1.1 hh.1.2.1 hS q 2 q2 7 hq' rfl hq2 rfl hin hd (fun H1 locs1 hP1 hD1 hS1 => ?_)
    refine kk arr H1 locs1 ha ⟨m_held hh.1 h2 hl hq hP1 hD1 (mUR_len _ _ _ _) ?_ (fun x' hx' => mE_congr (mUR_Tg _ _ _ _ _) (mUR_Ln _ _ _ _ _) (fun j => by rw [mUR_Rf _ _ _ _ _ _ hrl, if_neg (Ne.symm hx')]) (fun _ => rfl) (fun _ => rfl)) (fun x' hx' => by rw [mUR_get, if_neg (Ne.symm hx')]) (fun _ _ _ => rfl), by show _ = bb B + ((mUR h.1 a _ (some x)).1.length - 2); rw [mUR_len]; exact hh.2.1, hh.2.2⟩ hS1
    rw [mE_2 (h := (mUR h.1 a _ (some x), h.2)) (by rw [mUR_Tg]; exact ht)]
    rw [mUR_Ln]
    congr 7
    funext j
    show (mRf (mUR h.1 a _ (some x)) a j).map (mRho B) = _
    rw [mUR_Rf _ _ _ _ _ _ hrl, if_pos rfl]
    unfold va_up
    split <;> rfl
  · exact kk.elim
theorem sn_alen (X : mCx l B own cc nL p s m args c) (hd : decode cc pc = .ok (.arraylength, 1)) : mSnd l B nL p e R s m args below meth c Qf Q (aLen (pc + 1)) pc := by
  intro ls st h kk arr H locs ha hh hS
  unfold aLen at kk
  split at kk
  · rename_i a r
    obtain ⟨ht, kk⟩ := kk
    have hz := kk arr H locs ha hh hS
    obtain ⟨-, -, -, ⟨g4, g5⟩, g6, g7⟩ := hh.1
    match a, ht, hz with
    | 0, ht, hz =>
      have e0 : mLn h.1 0 = bL B := by unfold mLn; rw [g4]
      rw [e0] at hz
      obtain ⟨f1, f2, f3⟩ := X.2.2.2.2.2.1
      exact va_slen X.1.1 X.1.2.1 f1 (Nat.lt_of_lt_of_le f2 f3) (Nat.not_le.mpr f2) hS hd hz
    | 1, ht, hz =>
      have e0 : mLn h.1 1 = 64 := by unfold mLn; rw [g5]
      rw [e0] at hz
      exact va_tlen X.1.1 X.1.2.1 X.2.2.2.2.2.2.1 hS rfl hd hz
    | b + 2, ht, hz =>
      obtain ⟨q, hq⟩ := m_get (B := B) (h := h) (a := b + 2) (by omega) (m_lt (by omega))
      rcases (show mTg h.1 (b + 2) = 0 ∨ mTg h.1 (b + 2) = 1 ∨ mTg h.1 (b + 2) = 2 by omega) with h3 | h3 | h3
      · rw [mE_0 h3] at hq
        exact va_alen X.1.1 X.1.2.1 X.2.2.2.2.1 hh.1.1 q 0 hq rfl rfl hd hz
      · rw [mE_1 h3] at hq
        exact va_alen X.1.1 X.1.2.1 X.2.2.2.2.1 hh.1.1 q 1 hq rfl rfl hd hz
      · rw [mE_2 h3] at hq
        exact va_alen X.1.1 X.1.2.1 X.2.2.2.2.1 hh.1.1 q 2 hq rfl rfl hd hz
  · exact kk.elim
theorem sn_gets (X : mCx l B own cc nL p s m args c) {idx : Nat} (hl : Cond.fieldLink own idx RX10 "SINES" "[I" ∈ mGood) (hd : decode cc pc = .ok (.getstatic idx, 3)) : mSnd l B nL p e R s m args below meth c Qf Q (aGS (pc + 3)) pc :=
  fun _ _ _ kk arr H locs ha hh hS => va_gets X.1.1 X.1.2.1 X.2.2.2.2.2.2.2 hS X.1.2.2.2 (X.2.1 _ hl) (fun _ z => z) hd (kk arr H locs ha hh hS)
end
