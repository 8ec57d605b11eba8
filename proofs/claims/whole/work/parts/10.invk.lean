/-- the words of a callee -/
def mYin (y : MethodName) (bytes : ByteArray) (maxL : Nat) (ret : Option FieldType) (n : Nat) : Prop := Cond.initialized y.cls ∈ mGood ∧ Cond.code y bytes maxL ret ∈ mGood ∧ (y.cls ≠ "java/lang/invoke/MethodHandle" ∧ y.cls ≠ "java/lang/invoke/VarHandle" ∧ (parseMethodDescriptor y.desc).map (fun d => d.parameters.length) = some n) ∧ maxL ≤ 24
theorem m_good {y : MethodName} {bytes : ByteArray} {maxL : Nat} {ret : Option FieldType} (h : Cond.code y bytes maxL ret ∈ mGood) : GoodIn mGood (.code y bytes maxL ret :: mGood) := fun w hw => by
  rcases List.mem_cons.mp hw with rfl | h1
  · exact ⟨h, mGood_ok _ h⟩
  · exact ⟨h1, mGood_ok _ h1⟩
theorem m_toList (B : mBs) (r : Option Value) (st : List Value) : (r.map (mCv B)).toList ++ st.map (mCv B) = (r.toList ++ st).map (mCv B) := by cases r <;> rfl
theorem m_split {st : List Value} {k : Nat} {v : Value} (h : st[k]? = some v) : st = st.take k ++ v :: st.drop (k + 1) := by
  have hl := (List.getElem?_eq_some_iff.mp h).1
  have h2 : st.drop k = v :: st.drop (k + 1) := by
    rw [List.drop_eq_getElem_cons hl]
    congr 1
    exact (List.getElem?_eq_some_iff.mp h).2
  rw [← h2, List.take_append_drop]
theorem m_take {st : List Value} {k : Nat} {v : Value} (h : st[k]? = some v) : (st.take (k + 1)).reverse = v :: (st.take k).reverse := by
  rw [List.take_succ, h]; simp
section
variable {l : Launch} {B : mBs} {own : String} {cc : ByteArray} {nL : Nat} {p : Program} {e : Env} {s : State} {m : MethodId} {args : Array Value} {below : List Frame} {meth : Method} {c : Code} {Qf : State → Prop} {Q : mQo} {pc : Nat}
theorem m_callB (X : mCx l B own cc nL p s m args c) {y : MethodName} {bytes : ByteArray} {maxL idx n d d' mc ms capc caps : Nat} {ret : Option FieldType} (hY : mYin y bytes maxL ret n) (hl : Cond.methodLink own idx y ∈ mGood) (hdd : d' + 1 ≤ d) : CallB (mRm d capc caps) s args own idx y bytes maxL ret (.code y bytes maxL ret :: mGood) (mRm d' mc ms) mc ms n :=
  callB_of n X.2.1 (m_good hY.2.1) rfl rfl rfl (X.2.1 _ hY.1) (X.2.1 _ hl) hY.2.2.1 ⟨hdd, by show 8 + (maxL + 11) + 43 * d' ≤ 43 * d; have := hY.2.2.2; omega⟩
theorem m_callN (X : mCx l B own cc nL p s m args c) {y : MethodName} {bytes : ByteArray} {maxL idx n d d' mc ms capc caps : Nat} {ret : Option FieldType} {host : String} (hY : mYin y bytes maxL ret n) (hl : Cond.methodLinkNest own idx y host ∈ mNest) (hdd : d' + 1 ≤ d) : va_CN (mRm d capc caps) s args own idx y host bytes maxL ret (.code y bytes maxL ret :: mGood) (mRm d' mc ms) mc ms n :=
  va_cnB n X.2.1 (m_good hY.2.1) rfl rfl rfl (X.2.2.1 _ hl) (X.2.1 _ hY.1) hY.2.2.1 ⟨hdd, by show 8 + (maxL + 11) + 43 * d' ≤ 43 * d; have := hY.2.2.2; omega⟩
/-- the callee's start -/
theorem m_pre (X : mCx l B own cc nL p s m args c) {h : mHp} {H : Heap} {locs : List Loc} (hh : mHold B h H) (hz : H.size = bb B + (h.1.1.length - 2)) (hS : va_S (mA B) s.heap H locs) (av : List Value) : PreS s H (va_Pc av (mPr B (mZr h.1, h.2))) av :=
  ⟨mPr_blind B _ av, fun U hU hW => ⟨rfl, X.2.2.go hW hU hS, by rw [hU]; exact mHold_tt rfl rfl hh, by rw [hU]; exact hz⟩⟩
theorem sn_callV (X : mCx l B own cc nL p s m args c) {C : mCo} (hC : mMC C) {y : MethodName} {bytes : ByteArray} {maxL idx n d d' mc ms ci N : Nat} {ret : Option FieldType} {T : u_T} (hM : mMet l B y bytes maxL ret d' 0 0 C) (hY : mYin y bytes maxL ret n) (hl : Cond.methodLink own idx y ∈ mGood) (hi : Cond.instanceMethod y ∈ mGood) (hse : Cond.selects y.cls y y ∈ mGood) (hc : vwCl[ci]? = some (y.cls, T, N)) (hdd : d' + 1 ≤ d) (hd : decode cc pc = .ok (.invokevirtual idx, 3)) : mSnd l B nL p e (mRm d mc ms) s m args below meth c Qf Q (aCV ci n C (pc + 3)) pc := by
  intro ls st h kk arr H locs ha hh hS
  obtain ⟨⟨a, hst, ht⟩, hrm, kk⟩ := kk
  refine W.sized (fun hu => ?_)
  have hz := m_size hh.1 hh.2.1 X.2.2.2.2.2.1.2.2 hS hu
  rw [m_take hst] at kk
  have hMe := hM (.ref a :: (st.take n).reverse) (mZr h.1, h.2) (fun r h' => h'.1 = mZr h.1 ∧ mG l B nL p e (mRm d mc ms) s m args below meth c Qf (pc + 3) ls (r.toList ++ st.drop (n + 1)) (h.1, h'.2)) rfl (hC _ _ _ _ (fun r h' z => ⟨by rw [z.1]; exact ⟨Nat.le_refl _, Nat.le_refl _⟩, z⟩) kk)
  have hcell : ∃ cellB : Cell, H[mRho B a]? = some cellB ∧ cellB.vm.isStatics = false ∧ s.vm.findClass y.cls = some cellB.cls := by
    obtain ⟨-, q, hq⟩ := m_ob hh.1 hc ht
    rw [mE_ob ht] at hq
    exact va_recv X.2.2.2.2.1 hh.1.1 hc hq
  have hlen : (((st.take n).reverse).map (mCv B)).length = n := by
    rw [List.length_map, List.length_reverse, List.length_take]
    have := (List.getElem?_eq_some_iff.mp hst).1
    omega
  have hP := m_pre X hh.1 hz hS ((.ref a :: (st.take n).reverse).map (mCv B))
  refine m_call (Q' := (fun r h' => h'.1 = mZr h.1 ∧ mG l B nL p e (mRm d mc ms) s m args below meth c Qf (pc + 3) ls (r.toList ++ st.drop (n + 1)) (h.1, h'.2))) (mc := 0) (ms := 0) (rest := (st.drop (n + 1)).map (mCv B)) (va_runV (As := ((st.take n).reverse).map (mCv B)) ⟨X.1.1, X.1.2.1, X.1.2.2.1, X.1.2.2.2, X.2.1⟩ hMe ⟨m_callB X hY hl hdd, X.2.1 _ hi, X.2.1 _ hse⟩ ⟨hP.1, hcell, hP.2⟩ rfl hlen ha.1 ?_ (lv_room (by rw [mCv_sum]; exact hrm)) hd ?_) hS ?_
  · show st.map (mCv B) = _
    conv => lhs; rw [m_split hst]
    rw [List.map_append, List.map_cons, ← List.map_reverse, List.reverse_reverse]
    rfl
  · exact hh.2.2
  · intro r h' H1 locs1 hq hp hsz hS1
    have hG := hq.2 arr H1 locs1 ha ⟨mHold_tt (h := h') (h' := (h.1, h'.2)) (by show h.1.1 = h'.1.1; rw [hq.1]; rfl) rfl hp, hh.2⟩ hS1
    rw [← m_toList] at hG
    exact hG
theorem sn_callS (X : mCx l B own cc nL p s m args c) {C : mCo} (hC : mMC C) {y : MethodName} {bytes : ByteArray} {maxL idx n d d' mc ms : Nat} {ret : Option FieldType} (hM : mMet l B y bytes maxL ret d' 0 0 C) (hY : mYin y bytes maxL ret n) (hl : Cond.methodLink own idx y ∈ mGood) (hi : Cond.static y ∈ mGood) (hdd : d' + 1 ≤ d) (hd : decode cc pc = .ok (.invokestatic idx, 3)) : mSnd l B nL p e (mRm d mc ms) s m args below meth c Qf Q (aCS n C (pc + 3)) pc := by
  intro ls st h kk arr H locs ha hh hS
  obtain ⟨⟨hk, hrm⟩, kk⟩ := kk
  refine W.sized (fun hu => ?_)
  have hz := m_size hh.1 hh.2.1 X.2.2.2.2.2.1.2.2 hS hu
  have hMe := hM (st.take n).reverse (mZr h.1, h.2) (fun r h' => h'.1 = mZr h.1 ∧ mG l B nL p e (mRm d mc ms) s m args below meth c Qf (pc + 3) ls (r.toList ++ st.drop n) (h.1, h'.2)) rfl (hC _ _ _ _ (fun r h' z => ⟨by rw [z.1]; exact ⟨Nat.le_refl _, Nat.le_refl _⟩, z⟩) kk)
  have hlen : (((st.take n).reverse).map (mCv B)).length = n := by
    rw [List.length_map, List.length_reverse, List.length_take]
    omega
  have hP := m_pre X hh.1 hz hS ((st.take n).reverse.map (mCv B))
  refine m_call (Q' := (fun r h' => h'.1 = mZr h.1 ∧ mG l B nL p e (mRm d mc ms) s m args below meth c Qf (pc + 3) ls (r.toList ++ st.drop n) (h.1, h'.2))) (mc := 0) (ms := 0) (rest := (st.drop n).map (mCv B)) (va_runS (As := ((st.take n).reverse).map (mCv B)) ⟨X.1.1, X.1.2.1, X.1.2.2.1, X.1.2.2.2, X.2.1⟩ hMe ⟨m_callB X hY hl hdd, X.2.1 _ hi⟩ hP rfl hlen ha.1 ?_ (lv_room (by rw [mCv_sum]; exact hrm)) hd ?_) hS ?_
  · show st.map (mCv B) = _
    conv => lhs; rw [← List.take_append_drop n st]
    rw [List.map_append, ← List.map_reverse, List.reverse_reverse]
  · exact hh.2.2
  · intro r h' H1 locs1 hq hp hsz hS1
    have hG := hq.2 arr H1 locs1 ha ⟨mHold_tt (h := h') (h' := (h.1, h'.2)) (by show h.1.1 = h'.1.1; rw [hq.1]; rfl) rfl hp, hh.2⟩ hS1
    rw [← m_toList] at hG
    exact hG
theorem sn_callSN (X : mCx l B own cc nL p s m args c) {C : mCo} (hC : mMC C) {y : MethodName} {bytes : ByteArray} {maxL idx n d d' mc ms : Nat} {ret : Option FieldType} (hM : mMet l B y bytes maxL ret d' 0 0 C) (hY : mYin y bytes maxL ret n) {host : String} (hl : Cond.methodLinkNest own idx y host ∈ mNest) (hi : Cond.static y ∈ mGood) (hdd : d' + 1 ≤ d) (hd : decode cc pc = .ok (.invokestatic idx, 3)) : mSnd l B nL p e (mRm d mc ms) s m args below meth c Qf Q (aCS n C (pc + 3)) pc := by
  intro ls st h kk arr H locs ha hh hS
  obtain ⟨⟨hk, hrm⟩, kk⟩ := kk
  refine W.sized (fun hu => ?_)
  have hz := m_size hh.1 hh.2.1 X.2.2.2.2.2.1.2.2 hS hu
  have hMe := hM (st.take n).reverse (mZr h.1, h.2) (fun r h' => h'.1 = mZr h.1 ∧ mG l B nL p e (mRm d mc ms) s m args below meth c Qf (pc + 3) ls (r.toList ++ st.drop n) (h.1, h'.2)) rfl (hC _ _ _ _ (fun r h' z => ⟨by rw [z.1]; exact ⟨Nat.le_refl _, Nat.le_refl _⟩, z⟩) kk)
  have hlen : (((st.take n).reverse).map (mCv B)).length = n := by
    rw [List.length_map, List.length_reverse, List.length_take]
    omega
  have hP := m_pre X hh.1 hz hS ((st.take n).reverse.map (mCv B))
  refine m_call (Q' := (fun r h' => h'.1 = mZr h.1 ∧ mG l B nL p e (mRm d mc ms) s m args below meth c Qf (pc + 3) ls (r.toList ++ st.drop n) (h.1, h'.2))) (mc := 0) (ms := 0) (rest := (st.drop n).map (mCv B)) (va_runSN (host := host) (As := ((st.take n).reverse).map (mCv B)) ⟨X.1.1, X.1.2.1, X.1.2.2.1, X.1.2.2.2, X.2.1⟩ hMe ⟨m_callN X hY hl hdd, X.2.1 _ hi, trivial⟩ hP rfl hlen ha.1 ?_ (lv_room (by rw [mCv_sum]; exact hrm)) hd ?_) hS ?_
  · show st.map (mCv B) = _
    conv => lhs; rw [← List.take_append_drop n st]
    rw [List.map_append, ← List.map_reverse, List.reverse_reverse]
  · exact hh.2.2
  · intro r h' H1 locs1 hq hp hsz hS1
    have hG := hq.2 arr H1 locs1 ha ⟨mHold_tt (h := h') (h' := (h.1, h'.2)) (by show h.1.1 = h'.1.1; rw [hq.1]; rfl) rfl hp, hh.2⟩ hS1
    rw [← m_toList] at hG
    exact hG
theorem sn_callI (X : mCx l B own cc nL p s m args c) {C : mCo} (hC : mMC C) {y : MethodName} {bytes : ByteArray} {maxL idx d d' mc ms capc caps : Nat} (hM : mMet l B y bytes maxL none d' mc ms C) (hY : mYin y bytes maxL none 0) (hl : Cond.methodLink own idx y ∈ mGood) (hi : Cond.instanceMethod y ∈ mGood) (hy1 : y.name = "<init>") (hdd : d' + 1 ≤ d) (hd : decode cc pc = .ok (.invokespecial idx, 3)) : mSnd l B nL p e (mRm d capc caps) s m args below meth c Qf Q (aCI C mc ms capc caps (pc + 3)) pc := by
  intro ls st h kk arr H locs ha hh hS
  unfold aCI at kk
  split at kk
  · rename_i a r
    obtain ⟨⟨hrm, hc1, hc2⟩, kk⟩ := kk
    refine W.sized (fun hu => ?_)
    have hz := m_size hh.1 hh.2.1 X.2.2.2.2.2.1.2.2 hS hu
    have hMe := hM [.ref a] (mZr h.1, h.2) (fun v h' => v = none ∧ (h'.1.2.1 = mc ∧ h'.1.2.2 ≤ ms) ∧ mG l B nL p e (mRm d capc caps) s m args below meth c Qf (pc + 3) ls r ((h'.1.1, h.1.2.1 + mc, h.1.2.2 + ms), h'.2)) rfl (hC _ _ _ _ (fun r h' z => ⟨⟨by rw [z.2.1.1]; exact Nat.le_refl _, z.2.1.2⟩, z⟩) kk)
    have hP := m_pre X hh.1 hz hS ([.ref a].map (mCv B))
    refine m_call (Q' := (fun v h' => v = none ∧ (h'.1.2.1 = mc ∧ h'.1.2.2 ≤ ms) ∧ mG l B nL p e (mRm d capc caps) s m args below meth c Qf (pc + 3) ls r ((h'.1.1, h.1.2.1 + mc, h.1.2.2 + ms), h'.2))) (rest := r.map (mCv B)) (va_runI (As := []) ⟨X.1.1, X.1.2.1, X.1.2.2.1, X.1.2.2.2, X.2.1⟩ hMe ⟨m_callB X hY hl hdd, hy1, X.2.1 _ hi⟩ hP rfl rfl ha.1 rfl (lv_room (by rw [mCv_sum]; exact hrm)) hd ⟨hc1, hc2⟩) hS ?_
    intro v h' H1 locs1 hq hp hsz hS1
    obtain ⟨rfl, ⟨q1, q2⟩, q3⟩ := hq
    have g3 := hp.2.2.1
    have g4 := hh.2.1
    exact q3 arr H1 locs1 ha ⟨mHold_tt (h := h') (h' := ((h'.1.1, h.1.2.1 + mc, h.1.2.2 + ms), h'.2)) rfl rfl hp, by show s.heap.size + (h.1.2.1 + mc) = bb B + (h'.1.1.length - 2); omega, hc1, hc2⟩ hS1
  · exact kk.elim
theorem sn_callIN (X : mCx l B own cc nL p s m args c) {C : mCo} (hC : mMC C) {y : MethodName} {bytes : ByteArray} {maxL idx d d' mc ms capc caps : Nat} (hM : mMet l B y bytes maxL none d' mc ms C) (hY : mYin y bytes maxL none 0) {host : String} (hl : Cond.methodLinkNest own idx y host ∈ mNest) (hi : Cond.instanceMethod y ∈ mGood) (hy1 : y.name = "<init>") (hdd : d' + 1 ≤ d) (hd : decode cc pc = .ok (.invokespecial idx, 3)) : mSnd l B nL p e (mRm d capc caps) s m args below meth c Qf Q (aCI C mc ms capc caps (pc + 3)) pc := by
  intro ls st h kk arr H locs ha hh hS
  unfold aCI at kk
  split at kk
  · rename_i a r
    obtain ⟨⟨hrm, hc1, hc2⟩, kk⟩ := kk
    refine W.sized (fun hu => ?_)
    have hz := m_size hh.1 hh.2.1 X.2.2.2.2.2.1.2.2 hS hu
    have hMe := hM [.ref a] (mZr h.1, h.2) (fun v h' => v = none ∧ (h'.1.2.1 = mc ∧ h'.1.2.2 ≤ ms) ∧ mG l B nL p e (mRm d capc caps) s m args below meth c Qf (pc + 3) ls r ((h'.1.1, h.1.2.1 + mc, h.1.2.2 + ms), h'.2)) rfl (hC _ _ _ _ (fun r h' z => ⟨⟨by rw [z.2.1.1]; exact Nat.le_refl _, z.2.1.2⟩, z⟩) kk)
    have hP := m_pre X hh.1 hz hS ([.ref a].map (mCv B))
    refine m_call (Q' := (fun v h' => v = none ∧ (h'.1.2.1 = mc ∧ h'.1.2.2 ≤ ms) ∧ mG l B nL p e (mRm d capc caps) s m args below meth c Qf (pc + 3) ls r ((h'.1.1, h.1.2.1 + mc, h.1.2.2 + ms), h'.2))) (rest := r.map (mCv B)) (va_runIN (host := host) (As := []) ⟨X.1.1, X.1.2.1, X.1.2.2.1, X.1.2.2.2, X.2.1⟩ hMe ⟨m_callN X hY hl hdd, hy1, X.2.1 _ hi⟩ hP rfl rfl ha.1 rfl (lv_room (by rw [mCv_sum]; exact hrm)) hd ⟨hc1, hc2⟩) hS ?_
    intro v h' H1 locs1 hq hp hsz hS1
    obtain ⟨rfl, ⟨q1, q2⟩, q3⟩ := hq
    have g3 := hp.2.2.1
    have g4 := hh.2.1
    exact q3 arr H1 locs1 ha ⟨mHold_tt (h := h') (h' := ((h'.1.1, h.1.2.1 + mc, h.1.2.2 + ms), h'.2)) rfl rfl hp, by show s.heap.size + (h.1.2.1 + mc) = bb B + (h'.1.1.length - 2); omega, hc1, hc2⟩ hS1
  · exact kk.elim
end
/-! ===== Math's own ===== -/
def aM2 (f : Int32 → Int32 → Int32) (n : Nat) : mAc := fun _ K ls st h => match st with
  | .int y :: .int x :: r => (r.map Value.category).sum ≤ 8 ∧ K n ls (.int (f x y) :: r) h
  | _ => False
def aM2L (f : Int64 → Int64 → Int64) (n : Nat) : mAc := fun _ K ls st h => match st with
  | .long y :: .long x :: r => (r.map Value.category).sum ≤ 8 ∧ K n ls (.long (f x y) :: r) h
  | _ => False
def aM1L (f : Int64 → Int64) (n : Nat) : mAc := fun _ K ls st h => match st with
  | .long x :: r => (r.map Value.category).sum ≤ 8 ∧ K n ls (.long (f x) :: r) h
  | _ => False
theorem mn_M2 (f : Int32 → Int32 → Int32) (n : Nat) : mMn (aM2 f n) := fun _ _ _ _ _ hX ls st h k => by
  unfold aM2 at k ⊢; split at k <;> first | exact ⟨k.1, hX _ _ _ _ k.2⟩ | exact k.elim
theorem mn_M2L (f : Int64 → Int64 → Int64) (n : Nat) : mMn (aM2L f n) := fun _ _ _ _ _ hX ls st h k => by
  unfold aM2L at k ⊢; split at k <;> first | exact ⟨k.1, hX _ _ _ _ k.2⟩ | exact k.elim
theorem mn_M1L (f : Int64 → Int64) (n : Nat) : mMn (aM1L f n) := fun _ _ _ _ _ hX ls st h k => by
  unfold aM1L at k ⊢; split at k <;> first | exact ⟨k.1, hX _ _ _ _ k.2⟩ | exact k.elim
section
variable {l : Launch} {B : mBs} {own : String} {cc : ByteArray} {nL : Nat} {p : Program} {e : Env} {s : State} {m : MethodId} {args : Array Value} {below : List Frame} {meth : Method} {c : Code} {Qf : State → Prop} {Q : mQo} {pc : Nat}
theorem sn_max (X : mCx l B own cc nL p s m args c) {d mc ms idx : Nat} (hd0 : 1 ≤ d) (hl : Cond.methodLink own idx Lib.Math.max.name ∈ mGood) (hst : Cond.static Lib.Math.max.name ∈ mGood) (hini : Cond.initialized "java/lang/Math" ∈ mGood) (hco : Cond.code Lib.Math.max.name Lib.Math.max.code 2 (some .int) ∈ mGood) (hd : decode cc pc = .ok (.invokestatic idx, 3)) : mSnd l B nL p e (mRm d mc ms) s m args below meth c Qf Q (aM2 (fun x y => if x < y then y else x) (pc + 3)) pc := by
  intro ls st h kk arr H locs ha hh hS
  unfold aM2 at kk
  split at kk
  · exact va_mmax X.1.1 X.1.2.1 (by rw [X.1.2.2.1]; exact ha.1.symm) X.1.2.2.2 (X.2.1 _ hl) (X.2.1 _ hst) (X.2.1 _ hini) (X.2.1 _ hco) hd0 (by rw [mCv_sum]; show _ + 13 ≤ 43 * d; omega) hh.2.2.1 hh.2.2.2 hd (kk.2 arr H locs ha hh hS)
  · exact kk.elim
theorem sn_min (X : mCx l B own cc nL p s m args c) {d mc ms idx : Nat} (hd0 : 1 ≤ d) (hl : Cond.methodLink own idx Lib.Math.min.name ∈ mGood) (hst : Cond.static Lib.Math.min.name ∈ mGood) (hini : Cond.initialized "java/lang/Math" ∈ mGood) (hco : Cond.code Lib.Math.min.name Lib.Math.min.code 2 (some .int) ∈ mGood) (hd : decode cc pc = .ok (.invokestatic idx, 3)) : mSnd l B nL p e (mRm d mc ms) s m args below meth c Qf Q (aM2 (fun x y => if y < x then y else x) (pc + 3)) pc := by
  intro ls st h kk arr H locs ha hh hS
  unfold aM2 at kk
  split at kk
  · exact va_mmin X.1.1 X.1.2.1 (by rw [X.1.2.2.1]; exact ha.1.symm) X.1.2.2.2 (X.2.1 _ hl) (X.2.1 _ hst) (X.2.1 _ hini) (X.2.1 _ hco) hd0 (by rw [mCv_sum]; show _ + 13 ≤ 43 * d; omega) hh.2.2.1 hh.2.2.2 hd (kk.2 arr H locs ha hh hS)
  · exact kk.elim
theorem sn_maxL (X : mCx l B own cc nL p s m args c) {d mc ms idx : Nat} (hd0 : 1 ≤ d) (hl : Cond.methodLink own idx Lib.MathLoose.max_long.x ∈ mGood) (hst : Cond.static Lib.MathLoose.max_long.x ∈ mGood) (hini : Cond.initialized "java/lang/Math" ∈ mGood) (hco : Cond.code Lib.MathLoose.max_long.x Lib.MathLoose.max_long.code 4 (some .long) ∈ mGood) (hd : decode cc pc = .ok (.invokestatic idx, 3)) : mSnd l B nL p e (mRm d mc ms) s m args below meth c Qf Q (aM2L (fun x y => if y < x then x else y) (pc + 3)) pc := by
  intro ls st h kk arr H locs ha hh hS
  unfold aM2L at kk
  split at kk
  · exact va_mmax_long X.1.1 X.1.2.1 (by rw [X.1.2.2.1]; exact ha.1.symm) X.1.2.2.2 (X.2.1 _ hl) (X.2.1 _ hst) (X.2.1 _ hini) (X.2.1 _ hco) hd0 (by rw [mCv_sum]; show _ + 15 ≤ 43 * d; omega) hh.2.2.1 hh.2.2.2 hd (kk.2 arr H locs ha hh hS)
  · exact kk.elim
theorem sn_minL (X : mCx l B own cc nL p s m args c) {d mc ms idx : Nat} (hd0 : 1 ≤ d) (hl : Cond.methodLink own idx Lib.MathLoose.min_long.x ∈ mGood) (hst : Cond.static Lib.MathLoose.min_long.x ∈ mGood) (hini : Cond.initialized "java/lang/Math" ∈ mGood) (hco : Cond.code Lib.MathLoose.min_long.x Lib.MathLoose.min_long.code 4 (some .long) ∈ mGood) (hd : decode cc pc = .ok (.invokestatic idx, 3)) : mSnd l B nL p e (mRm d mc ms) s m args below meth c Qf Q (aM2L (fun x y => if y < x then y else x) (pc + 3)) pc := by
  intro ls st h kk arr H locs ha hh hS
  unfold aM2L at kk
  split at kk
  · exact va_mmin_long X.1.1 X.1.2.1 (by rw [X.1.2.2.1]; exact ha.1.symm) X.1.2.2.2 (X.2.1 _ hl) (X.2.1 _ hst) (X.2.1 _ hini) (X.2.1 _ hco) hd0 (by rw [mCv_sum]; show _ + 15 ≤ 43 * d; omega) hh.2.2.1 hh.2.2.2 hd (kk.2 arr H locs ha hh hS)
  · exact kk.elim
theorem sn_absL (X : mCx l B own cc nL p s m args c) {d mc ms idx : Nat} (hd0 : 1 ≤ d) (hl : Cond.methodLink own idx Lib.MathLoose.abs_long.x ∈ mGood) (hst : Cond.static Lib.MathLoose.abs_long.x ∈ mGood) (hini : Cond.initialized "java/lang/Math" ∈ mGood) (hco : Cond.code Lib.MathLoose.abs_long.x Lib.MathLoose.abs_long.code 2 (some .long) ∈ mGood) (hd : decode cc pc = .ok (.invokestatic idx, 3)) : mSnd l B nL p e (mRm d mc ms) s m args below meth c Qf Q (aM1L (fun x => if 0 < x then x else -x) (pc + 3)) pc := by
  intro ls st h kk arr H locs ha hh hS
  unfold aM1L at kk
  split at kk
  · exact va_mabs_long X.1.1 X.1.2.1 (by rw [X.1.2.2.1]; exact ha.1.symm) X.1.2.2.2 (X.2.1 _ hl) (X.2.1 _ hst) (X.2.1 _ hini) (X.2.1 _ hco) hd0 (by rw [mCv_sum]; show _ + 13 ≤ 43 * d; omega) hh.2.2.1 hh.2.2.2 hd (kk.2 arr H locs ha hh hS)
  · exact kk.elim
end
