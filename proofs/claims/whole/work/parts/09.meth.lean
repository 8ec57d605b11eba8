/-! ===== a method's contract, calls by it, its proof out of its instructions ===== -/
def mPr (B : mBs) (h : mHp) (U : State) : Prop := mWd B U ∧ mHold B h U.heap ∧ U.heap.size = bb B + (h.1.1.length - 2)
def mPo (B : mBs) (Q : mQo) : Array Value → State → Outcome → State → Prop := fun _ st oc t => (∃ (r : Option Value) (h' : mHp), Q r h' ∧ oc = .returned (r.map (mCv B)) ∧ mHold B h' t.heap ∧ st.heap.size + h'.1.2.1 = bb B + (h'.1.1.length - 2)) ∧ va_F (mA B) st t
def mMet (l : Launch) (B : mBs) (y : MethodName) (bytes : ByteArray) (maxL : Nat) (ret : Option FieldType) (d mc ms : Nat) (C : mCo) : Prop := ∀ (as : List Value) (h : mHp) (Q : mQo), h.1.2 = (0, 0) → C as h (fun r h' => (h'.1.2.1 ≤ mc ∧ h'.1.2.2 ≤ ms) ∧ Q r h') → Met l y (.code y bytes maxL ret :: mGood) (mRm d mc ms) (va_Pc (as.map (mCv B)) (mPr B h)) (mPo B Q) mc ms (mA B)
theorem mHold_tt {B : mBs} {h h' : mHp} {H : Heap} (h1 : h'.1.1 = h.1.1) (h2 : h'.2 = h.2) (hh : mHold B h H) : mHold B h' H := by
  have e1 : ∀ x, mTg h'.1 x = mTg h.1 x := fun x => by unfold mTg; rw [h1]
  have e2 : ∀ x, mLn h'.1 x = mLn h.1 x := fun x => by unfold mLn; rw [h1]
  have e3 : ∀ x k, mRf h'.1 x k = mRf h.1 x k := fun x k => by unfold mRf; rw [h1]
  have e4 : ∀ x, mE B h' x = mE B h x := fun x => mE_congr (e1 x) (e2 x) (e3 x) (fun j => by rw [h2]) (fun j => by rw [h2])
  have e5 : mWs B h' = mWs B h := by unfold mWs; rw [h1]; simp only [e4]
  obtain ⟨g1, g2, g3, ⟨g4, g5⟩, g6, g7⟩ := hh
  refine ⟨by rw [e5]; exact g1, by rw [e5]; exact g2, by rw [h1]; exact g3, ⟨by rw [h1]; exact g4, by rw [h1]; exact g5⟩, fun j hj => by rw [h2]; exact g6 j hj, fun j hj => by rw [h2]; exact g7 j hj⟩
theorem mPr_blind (B : mBs) (h : mHp) (av : List Value) : FrameBlind (va_Pc av (mPr B h)) := fun a U g mk q => ⟨q.1, q.2.1.blind g mk a, q.2.2.1, q.2.2.2⟩
theorem mEn_in (B : mBs) : ∀ (as : List Value) (n k i : Nat) (v : Value), (mEn n as)[i]? = some (some v) → (k + i, mCv B v) ∈ lv_args k (as.map (mCv B))
  | [], n, k, i, v, h => by
    unfold mEn at h
    rw [List.getElem?_replicate] at h
    split at h <;> cases h
  | w :: as, n, k, i, v, h => by
    rw [List.map_cons]
    unfold lv_args
    rw [mCv_cat]
    unfold mEn at h
    by_cases hc : w.category = 2
    · rw [if_pos hc] at h ⊢
      match i, h with
      | 0, h => cases h; exact List.mem_cons_self
      | 1, h => cases h
      | j + 2, h =>
        have := mEn_in B as (n - 2) (k + 2) j v h
        rw [show k + (j + 2) = k + 2 + j by omega]
        exact List.mem_cons_of_mem _ this
    · rw [if_neg hc] at h ⊢
      match i, h with
      | 0, h => cases h; exact List.mem_cons_self
      | j + 1, h =>
        have := mEn_in B as (n - 1) (k + 1) j v h
        rw [show k + (j + 1) = k + 1 + j by omega]
        exact List.mem_cons_of_mem _ this
theorem lg_sl_len (vs : List Value) : (lg_sl vs).length = (vs.map Value.category).sum := by
  induction vs with
  | nil => rfl
  | cons v vs ih =>
    show ((if v.category = 2 then _ else _) ++ lg_sl vs).length = _
    rw [List.length_append, ih, List.map_cons, List.sum_cons]
    rcases lv_cat v with h | h
    · rw [if_neg (by omega), h]; rfl
    · rw [if_pos h, h]; rfl
theorem mMet_of {l : Launch} {B : mBs} {y : MethodName} {own : String} {bytes : ByteArray} {maxL : Nat} {ret : Option FieldType} {d mc ms : Nat} {tb : mTb} (hy : plainName y.cls = true) (ho : y.cls = own)
    (hsn : ∀ (p : Program) (e : Env) (s : State) (m : MethodId) (args : Array Value) (below : List Frame) (meth : Method) (c : Code) (Q : mQo), mCx l B own bytes maxL p s m args c → meth.sig.returnType = ret → meth.locks = false → meth.name = y.name → ∀ q ∈ tb, mSnd l B maxL p e (mRm d mc ms) s m args below meth c (MQ below (mPo B Q) args s mc ms (mA B)) (fun r h' => (h'.1.2.1 ≤ mc ∧ h'.1.2.2 ≤ ms) ∧ Q r h') q.2 q.1) : mMet l B y bytes maxL ret d mc ms (mRun tb maxL) := by
  intro as h Q h0 k
  refine Met.ofW (cc := bytes) (maxL := maxL) (ret := ret) hy rfl ?_
  intro p e s m args below meth c s₁ Bd hml hv
  obtain ⟨rfl, hw, hhold, hsz⟩ := hv
  have hts := atoms_spec (ws := .code y bytes maxL ret :: mGood) Bd.pre
  have hown : s.vm.findClass y.cls = some m.cls := findClass_of_methodNamed Bd.named
  have X : mCx l B own bytes maxL p s m (as.map (mCv B)).toArray c := ⟨⟨Bd.exec, Bd.bytes, hml, by rw [← ho]; exact hown⟩, fun w hw => hts w (List.mem_cons_of_mem _ hw), hw⟩
  have hnm : meth.name = y.name := (name_of_methodNamed Bd.named Bd.method).1
  have hl : (lg_sl (as.map (mCv B))).length ≤ maxL := by rw [lg_sl_len, mCv_sum]; exact k.1
  have hlv := lv_entry (as.map (mCv B)) (n := maxL) hl
  rw [lg_entry_eq]
  generalize (lg_sl (as.map (mCv B)) ++ List.replicate (maxL - (lg_sl (as.map (mCv B))).length) Slot.unset).toArray = arr at hlv ⊢
  have hhas : mHas B arr maxL (mEn maxL as) := ⟨hlv.1, hlv.2.1, fun i v hi => by
    have h1 := hlv.2.2 _ (mEn_in B as maxL 0 i v hi)
    rw [Nat.zero_add] at h1
    exact h1⟩
  have hG := k.2 (mG l B maxL p e (mRm d mc ms) s m (as.map (mCv B)).toArray below meth c (MQ below (mPo B Q) (as.map (mCv B)).toArray s mc ms (mA B))) (fun pc ls st h' q => by
    unfold mLk at q
    cases hf : tb.find? (fun q => q.1 == pc) with
    | none => rw [hf] at q; exact q.elim
    | some z =>
      rw [hf] at q
      have e1 : z.1 = pc := by have := List.find?_some hf; simpa using this
      have := hsn p e s m _ below meth c Q X Bd.returns Bd.notSynchronized hnm z (List.mem_of_find?_eq_some hf) ls st h' q
      rw [e1] at this
      exact this)
  have := hG arr s.heap [] hhas ⟨hhold, by rw [h0]; exact hsz, by rw [h0]; exact Nat.zero_le _, by rw [h0]; exact Nat.zero_le _⟩ va_S.rf
  rw [h0] at this
  exact this
section
variable {l : Launch} {B : mBs} {own : String} {cc : ByteArray} {nL : Nat} {p : Program} {e : Env} {R : Room} {s : State} {m : MethodId} {args : Array Value} {below : List Frame} {meth : Method} {c : Code} {Qf : State → Prop} {Q : mQo} {pc : Nat}
theorem sn_lret (X : mCx l B own cc nL p s m args c) {mc ms : Nat} (hr : meth.sig.returnType = some .long) (hk : meth.locks = false) (hd : decode cc pc = .ok (.lreturn, 1)) : mSnd l B nL p e R s m args below meth c (MQ below (mPo B Q) args s mc ms (mA B)) (fun r h' => (h'.1.2.1 ≤ mc ∧ h'.1.2.2 ≤ ms) ∧ Q r h') aRL pc := by
  intro ls st h k arr H locs ha hh hS
  unfold aRL at k
  split at k
  · obtain ⟨⟨k1, k2⟩, k⟩ := k
    refine W.widen k1 k2 ?_
    exact W.lret X.1.1 X.1.2.1 hr (fun t ht hW => ⟨⟨_, h, k, rfl, by rw [ht]; exact hh.1, hh.2.1⟩, hS.F ht⟩) hS.2.2 hd hk
  · exact k.elim
theorem sn_iret (X : mCx l B own cc nL p s m args c) {mc ms : Nat} (hr : meth.sig.returnType = some .int) (hk : meth.locks = false) (hd : decode cc pc = .ok (.ireturn, 1)) : mSnd l B nL p e R s m args below meth c (MQ below (mPo B Q) args s mc ms (mA B)) (fun r h' => (h'.1.2.1 ≤ mc ∧ h'.1.2.2 ≤ ms) ∧ Q r h') aRI pc := by
  intro ls st h k arr H locs ha hh hS
  unfold aRI at k
  split at k
  · obtain ⟨⟨k1, k2⟩, k⟩ := k
    refine W.widen k1 k2 ?_
    exact W.iret X.1.1 X.1.2.1 hr (fun t ht hW => ⟨⟨_, h, k, rfl, by rw [ht]; exact hh.1, hh.2.1⟩, hS.F ht⟩) hS.2.2 hd hk
  · exact k.elim
theorem sn_zret (X : mCx l B own cc nL p s m args c) {mc ms : Nat} (hr : meth.sig.returnType = some .boolean) (hk : meth.locks = false) (hd : decode cc pc = .ok (.ireturn, 1)) : mSnd l B nL p e R s m args below meth c (MQ below (mPo B Q) args s mc ms (mA B)) (fun r h' => (h'.1.2.1 ≤ mc ∧ h'.1.2.2 ≤ ms) ∧ Q r h') aRZ pc := by
  intro ls st h k arr H locs ha hh hS
  unfold aRZ at k
  split at k
  · obtain ⟨k0, ⟨k1, k2⟩, k⟩ := k
    refine W.widen k1 k2 ?_
    exact W.zret X.1.1 X.1.2.1 hr (by rcases k0 with rfl | rfl <;> rfl) (fun t ht hW => ⟨⟨_, h, k, rfl, by rw [ht]; exact hh.1, hh.2.1⟩, hS.F ht⟩) hS.2.2 hd hk
  · exact k.elim
theorem sn_aret (X : mCx l B own cc nL p s m args c) {mc ms : Nat} {C : String} (hr : meth.sig.returnType = some (.object C)) (hk : meth.locks = false) (hd : decode cc pc = .ok (.areturn, 1)) : mSnd l B nL p e R s m args below meth c (MQ below (mPo B Q) args s mc ms (mA B)) (fun r h' => (h'.1.2.1 ≤ mc ∧ h'.1.2.2 ≤ ms) ∧ Q r h') aRR pc := by
  intro ls st h k arr H locs ha hh hS
  unfold aRR at k
  split at k
  · obtain ⟨⟨k1, k2⟩, k⟩ := k
    refine W.widen k1 k2 ?_
    exact W.aret X.1.1 X.1.2.1 hr (Or.inl ⟨_, rfl⟩) (Or.inr ⟨_, rfl⟩) (fun t ht hW => ⟨⟨_, h, k, rfl, by rw [ht]; exact hh.1, hh.2.1⟩, hS.F ht⟩) hS.2.2 hd hk
  · obtain ⟨⟨k1, k2⟩, k⟩ := k
    refine W.widen k1 k2 ?_
    exact W.aret X.1.1 X.1.2.1 hr (Or.inl ⟨_, rfl⟩) (Or.inl rfl) (fun t ht hW => ⟨⟨_, h, k, rfl, by rw [ht]; exact hh.1, hh.2.1⟩, hS.F ht⟩) hS.2.2 hd hk
  · exact k.elim
theorem sn_vret (X : mCx l B own cc nL p s m args c) {mc ms : Nat} (hr : meth.sig.returnType = none) (hk : meth.locks = false) (hd : decode cc pc = .ok (.return_, 1)) : mSnd l B nL p e R s m args below meth c (MQ below (mPo B Q) args s mc ms (mA B)) (fun r h' => (h'.1.2.1 ≤ mc ∧ h'.1.2.2 ≤ ms) ∧ Q r h') aRV pc := by
  intro ls st h k arr H locs ha hh hS
  unfold aRV at k
  split at k
  · obtain ⟨⟨k1, k2⟩, k⟩ := k
    refine W.widen k1 k2 ?_
    exact W.vret X.1.1 X.1.2.1 hr (fun t ht hW => ⟨⟨_, h, k, rfl, by rw [ht]; exact hh.1, hh.2.1⟩, hS.F ht⟩) hS.2.2 hd hk
  · exact k.elim
theorem m_call {H : Heap} {locs : List Loc} {cells slots mc ms : Nat} {arr : Array Slot} {st0 rest : List Value} {Q' : mQo} {a : Array Value} (hr : va_Run p l e R s m args below meth c H locs cells slots mc ms (F0 m pc arr st0) rest (mPo B Q' a) (mA B)) (hS : va_S (mA B) s.heap H locs)
    (kk : ∀ (r : Option Value) (h' : mHp) (H1 : Heap) (locs1 : List Loc), Q' r h' → mHold B h' H1 → H.size + h'.1.2.1 = bb B + (h'.1.1.length - 2) → va_S (mA B) s.heap H1 locs1 → W p l e R s m args below meth c H1 locs1 (cells + mc) (slots + ms) Qf (F0 m (pc + 3) arr ((r.map (mCv B)).toList ++ rest))) : W p l e R s m args below meth c H locs cells slots Qf (F0 m pc arr st0) := by
  intro T hT X
  obtain ⟨v, st₀, t, T', L, h0, X', hL, e1, e2, ⟨⟨r, h', hq, hv, hp, hsz⟩, hz, hk⟩, st⟩ := hr T hT X
  cases hv
  rw [h0] at hz hk hsz
  obtain ⟨t2, a1, b1⟩ := kk r h' T'.heap (locs ++ L) hq (by rw [e1]; exact hp) hsz
    ⟨Nat.le_trans hS.1 (by rw [e1]; exact hz), fun q h1 h2 => by rw [e1, hk q (Nat.lt_of_lt_of_le h1 hS.1) h2]; exact hS.2.1 q h1 h2, fun q hq => by
      rcases List.mem_append.mp hq with h | h
      · exact hS.2.2 q h
      · exact hL q h⟩ T' rfl X'
  exact ⟨t2, st t2 a1, b1⟩
end
