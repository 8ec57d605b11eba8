/-! ===== what a method's walk stands on ===== -/
def mIsNest (w : Cond) : Bool := match w with
  | .methodLinkNest _ _ _ _ => true
  | _ => false
def mNest : List Cond := lw_tbl.filter mIsNest
def mGood : List Cond := lw_tbl.filter goodWord
theorem mGood_in {w : Cond} (h : w ∈ lw_tbl) (hg : goodWord w = true) : w ∈ mGood := List.mem_filter.mpr ⟨h, hg⟩
theorem mGood_ok : ∀ w ∈ mGood, (w.onTables && w.keeps) = true ∨ ∃ ty, w = .arrayClass ty := fun w h => good_of_word (List.mem_filter.mp h).2
def mTys (B : mBs) : List (ClassId × FieldType) := [(bki B, .int), (bkl B, .long), (bkp B, .object RX7)]
def mWd (B : mBs) (U : State) : Prop := (∀ w ∈ mNest, va_Nw w U) ∧ va_AO RX7 U ∧ va_K (bD B) vwCl (mTys B) U ∧ (va_X (bxa B) (bL B) (bxs B) U U.heap ∧ bxa B < bb B ∧ bb B ≤ U.heap.size) ∧ va_T .int (bya B) 64 (fun j => .int (mSn j)) (mA B) U U.heap ∧ va_Z RX10 "SINES" "[I" (.ref (bya B)) (mA B) U U.heap
theorem mNest_form {w : Cond} (h : w ∈ mNest) : ∃ a i x o, w = .methodLinkNest a i x o := by
  have h2 := (List.mem_filter.mp h).2
  unfold mIsNest at h2
  split at h2
  · exact ⟨_, _, _, _, rfl⟩
  · cases h2
theorem mWd.go {B : mBs} {s U : State} {H : Heap} {locs : List Loc} (h : mWd B s) (hW : s.WarmedH U.vm) (hU : U.heap = H) (hS : va_S (mA B) s.heap H locs) : mWd B U := by
  obtain ⟨h1, h2, h3, ⟨h4, h5, h6⟩, h7, h8⟩ := h
  refine ⟨fun w hw => ?_, h2.moved hW.alike, h3.moved hW.alike, ⟨?_, h5, ?_⟩, ?_, ?_⟩
  · obtain ⟨a, i, x, o, rfl⟩ := mNest_form hw
    exact va_Nw.warmM hW (h1 _ hw)
  · rw [hU]
    exact (h4.kept (hS.2.1 _ (Nat.lt_of_lt_of_le h5 h6) (Nat.not_le.mpr h5))).moved hW.alike
  · rw [hU]; exact Nat.le_trans h6 hS.1
  · rw [hU]; exact (h7.kept hS.2.1).moved hW.alike
  · rw [hU]; exact (h8.kept hS.2.1).moved hW.alike
theorem mWd.blind {B : mBs} {U : State} (g : JFrame) (mk : MethodId) (a : Array Value) (h : mWd B U) : mWd B (U.calling g mk a) := by
  obtain ⟨h1, h2, h3, ⟨h4, h5, h6⟩, h7, h8⟩ := h
  refine ⟨fun w hw => ?_, h2.moved (u := U) (U := U.calling g mk a) (Vm.Alike.refl U.vm), h3.moved (u := U) (U := U.calling g mk a) (Vm.Alike.refl U.vm), ⟨h4.moved (u := U) (U := U.calling g mk a) (Vm.Alike.refl U.vm), h5, h6⟩, h7.moved (u := U) (U := U.calling g mk a) (Vm.Alike.refl U.vm), h8.moved (u := U) (U := U.calling g mk a) (Vm.Alike.refl U.vm)⟩
  obtain ⟨a, i, x, o, rfl⟩ := mNest_form hw
  exact va_Nw.same rfl rfl (h1 _ hw)
def mHas (B : mBs) (arr : Array Slot) (nL : Nat) (ls : mLs) : Prop := arr.size = nL ∧ lv_wf arr ∧ ∀ (i : Nat) (v : Value), ls[i]? = some (some v) → arr[i]? = some (.val (mCv B v))
def mAl (B : mBs) (ls : mLs) : List (Nat × Value) := (List.range ls.length).filterMap (fun i => match ls[i]? with
  | some (some v) => some (i, mCv B v)
  | _ => none)
theorem mAl_in {B : mBs} {ls : mLs} {i : Nat} {v : Value} (h : ls[i]? = some (some v)) : (i, mCv B v) ∈ mAl B ls := by
  refine List.mem_filterMap.mpr ⟨i, List.mem_range.mpr (List.getElem?_eq_some_iff.mp h).1, ?_⟩
  rw [h]
theorem mAl_has {B : mBs} {arr : Array Slot} {nL : Nat} {ls : mLs} (h : mHas B arr nL ls) : lv_has arr nL (mAl B ls) := by
  refine ⟨h.1, h.2.1, fun q hq => ?_⟩
  obtain ⟨i, -, hi⟩ := List.mem_filterMap.mp hq
  split at hi
  · rename_i v hv
    cases hi
    exact h.2.2 i v hv
  · cases hi
theorem mNl_some {o : Option Value} {v : Value} (h : mNl o = some v) : o = some v ∧ v.category = 1 := by
  cases o with
  | none => cases h
  | some w => cases w <;> first | (cases h; exact ⟨rfl, rfl⟩) | cases h
theorem mSt1_get {ls : mLs} {i j : Nat} {v w : Value} (h : (mSt1 ls i v)[j]? = some (some w)) : (j = i ∧ w = v) ∨ (j ≠ i ∧ ls[j]? = some (some w) ∧ (j + 1 = i → w.category = 1)) := by
  cases i with
  | zero =>
    unfold mSt1 at h
    rw [List.getElem?_set] at h
    by_cases e : 0 = j
    · subst e
      simp only [if_true] at h
      split at h
      · exact Or.inl ⟨rfl, Option.some.inj (Option.some.inj h).symm⟩
      · cases h
    · rw [if_neg e] at h
      exact Or.inr ⟨fun z => e z.symm, h, fun z => by omega⟩
  | succ k =>
    unfold mSt1 at h
    rw [List.getElem?_set] at h
    by_cases e : k + 1 = j
    · subst e
      simp only [if_true] at h
      split at h
      · exact Or.inl ⟨rfl, Option.some.inj (Option.some.inj h).symm⟩
      · cases h
    · rw [if_neg e, List.getElem?_modify] at h
      by_cases e2 : k = j
      · subst e2
        simp only [if_true] at h
        cases hk : ls[k]? with
        | none => rw [hk] at h; cases h
        | some o =>
          rw [hk] at h
          obtain ⟨z1, z2⟩ := mNl_some (Option.some.inj h)
          subst z1
          exact Or.inr ⟨fun z => e z.symm, rfl, fun _ => z2⟩
      · simp only [if_neg e2] at h
        refine Or.inr ⟨fun z => e z.symm, ?_, fun z => by omega⟩
        cases hk : ls[j]? with
        | none => rw [hk] at h; cases h
        | some o => rw [hk] at h; exact h
theorem mSt1_has {B : mBs} {arr arr' : Array Slot} {nL i : Nat} {ls : mLs} {v : Value} (h : lv_has arr' nL ((i, mCv B v) :: (mAl B ls).filter (fun q => !(q.1 == i) && !(q.1 + 1 == i && q.2.category == 2)))) : mHas B arr' nL (mSt1 ls i v) := by
  refine ⟨h.1, h.2.1, fun j w hj => ?_⟩
  rcases mSt1_get hj with ⟨rfl, rfl⟩ | ⟨h1, h2, h3⟩
  · exact h.2.2 _ List.mem_cons_self
  · refine h.2.2 (j, mCv B w) (List.mem_cons_of_mem _ (List.mem_filter.mpr ⟨mAl_in h2, ?_⟩))
    have e1 : (j == i) = false := by simpa using h1
    by_cases e2 : j + 1 = i
    · have := h3 e2
      simp [e1, mCv_cat, this]
    · simp [e1, e2]
theorem mSt2_get {ls : mLs} {i j : Nat} {v w : Value} (h : (mSt2 ls i v)[j]? = some (some w)) : (j = i ∧ w = v) ∨ (j ≠ i ∧ j ≠ i + 1 ∧ ls[j]? = some (some w) ∧ (j + 1 = i → w.category = 1)) := by
  have hs : mSt2 ls i v = (mSt1 ls i v).set (i + 1) none := by cases i <;> rfl
  rw [hs, List.getElem?_set] at h
  by_cases e : i + 1 = j
  · subst e
    simp only [if_true] at h
    split at h <;> cases h
  · rw [if_neg e] at h
    rcases mSt1_get h with ⟨z1, z2⟩ | ⟨z1, z2, z3⟩
    · exact Or.inl ⟨z1, z2⟩
    · exact Or.inr ⟨z1, fun z => e z.symm, z2, z3⟩
theorem mSt2_has {B : mBs} {arr arr' : Array Slot} {nL i : Nat} {ls : mLs} {v : Value} (h : lv_has arr' nL ((i, mCv B v) :: (mAl B ls).filter (fun q => !(q.1 == i) && (!(q.1 == i + 1) && !(q.1 + 1 == i && q.2.category == 2))))) : mHas B arr' nL (mSt2 ls i v) := by
  refine ⟨h.1, h.2.1, fun j w hj => ?_⟩
  rcases mSt2_get hj with ⟨rfl, rfl⟩ | ⟨h1, h1', h2, h3⟩
  · exact h.2.2 _ List.mem_cons_self
  · refine h.2.2 (j, mCv B w) (List.mem_cons_of_mem _ (List.mem_filter.mpr ⟨mAl_in h2, ?_⟩))
    have e1 : (j == i) = false := by simpa using h1
    have e1' : (j == i + 1) = false := by simpa using h1'
    by_cases e2 : j + 1 = i
    · have := h3 e2
      simp [e1, e1', mCv_cat, this]
    · simp [e1, e1', e2]
/-- the law's words, the frame, the heap: what every walk of a method has -/
def mCx (l : Launch) (B : mBs) (own : String) (cc : ByteArray) (nL : Nat) (p : Program) (s : State) (m : MethodId) (args : Array Value) (c : Code) : Prop :=
  (p.tables.exec = Jvm.exec ∧ c.code = cc ∧ c.maxLocals = nL ∧ s.vm.findClass own = some m.cls) ∧ (∀ w ∈ mGood, w.before args s = true) ∧ mWd B s
def mG (l : Launch) (B : mBs) (nL : Nat) (p : Program) (e : Env) (R : Room) (s : State) (m : MethodId) (args : Array Value) (below : List Frame) (meth : Method) (c : Code) (Qf : State → Prop) : mKo := fun pc ls st h =>
  ∀ (arr : Array Slot) (H : Heap) (locs : List Loc), mHas B arr nL ls → (mHold B h H ∧ s.heap.size + h.1.2.1 = bb B + (h.1.1.length - 2) ∧ h.1.2.1 ≤ R.cells ∧ h.1.2.2 ≤ R.slots) → va_S (mA B) s.heap H locs → W p l e R s m args below meth c H locs h.1.2.1 h.1.2.2 Qf (F0 m pc arr (st.map (mCv B)))
def mSnd (l : Launch) (B : mBs) (nL : Nat) (p : Program) (e : Env) (R : Room) (s : State) (m : MethodId) (args : Array Value) (below : List Frame) (meth : Method) (c : Code) (Qf : State → Prop) (Q : mQo) (act : mAc) (pc : Nat) : Prop :=
  ∀ (ls : mLs) (st : List Value) (h : mHp), act Q (mG l B nL p e R s m args below meth c Qf) ls st h → mG l B nL p e R s m args below meth c Qf pc ls st h
section
variable {l : Launch} {B : mBs} {own : String} {cc : ByteArray} {nL : Nat} {p : Program} {e : Env} {R : Room} {s : State} {m : MethodId} {args : Array Value} {below : List Frame} {meth : Method} {c : Code} {Qf : State → Prop} {Q : mQo} {pc : Nat}
theorem sn_iconst (X : mCx l B own cc nL p s m args c) {n : Int} {v : Int32} (hd : decode cc pc = .ok (.iconst n, 1)) (hv : Int32.ofInt n = v) : mSnd l B nL p e R s m args below meth c Qf Q (aPI v (pc + 1)) pc :=
  fun _ _ _ k arr H locs ha hh hS => lv_iconst X.1.1 X.1.2.1 hd hv (k arr H locs ha hh hS)
theorem sn_bipush (X : mCx l B own cc nL p s m args c) {n : Int} {v : Int32} (hd : decode cc pc = .ok (.bipush n, 2)) (hv : (Int8.ofInt n).toInt32 = v) : mSnd l B nL p e R s m args below meth c Qf Q (aPI v (pc + 2)) pc :=
  fun _ _ _ k arr H locs ha hh hS => lv_bipush X.1.1 X.1.2.1 hd hv (k arr H locs ha hh hS)
theorem sn_sipush (X : mCx l B own cc nL p s m args c) {n : Int} {v : Int32} (hd : decode cc pc = .ok (.sipush n, 3)) (hv : (Int16.ofInt n).toInt32 = v) : mSnd l B nL p e R s m args below meth c Qf Q (aPI v (pc + 3)) pc :=
  fun _ _ _ k arr H locs ha hh hS => lv_sipush X.1.1 X.1.2.1 hd hv (k arr H locs ha hh hS)
theorem sn_lconst (X : mCx l B own cc nL p s m args c) {n : Fin 2} {v : Int64} (hd : decode cc pc = .ok (.lconst n, 1)) (hv : Int64.ofNat (n : Nat) = v) : mSnd l B nL p e R s m args below meth c Qf Q (aPL v (pc + 1)) pc :=
  fun _ _ _ k arr H locs ha hh hS => lv_lconst X.1.1 X.1.2.1 hd hv (k arr H locs ha hh hS)
theorem sn_ldc2 (X : mCx l B own cc nL p s m args c) {i : Nat} {v : Int64} (hd : decode cc pc = .ok (.ldc2_w i, 3)) (hw : Cond.constantLong own i v ∈ mGood) : mSnd l B nL p e R s m args below meth c Qf Q (aPL v (pc + 3)) pc :=
  fun _ _ _ k arr H locs ha hh hS => lv_ldc2 X.1.1 X.1.2.1 X.1.2.2.2 (X.2.1 _ hw) hd (k arr H locs ha hh hS)
theorem sn_null (X : mCx l B own cc nL p s m args c) (hd : decode cc pc = .ok (.aconst_null, 1)) : mSnd l B nL p e R s m args below meth c Qf Q (aPN (pc + 1)) pc :=
  fun _ _ _ k arr H locs ha hh hS => lv_null X.1.1 X.1.2.1 hd (k arr H locs ha hh hS)
theorem sn_iload_n (X : mCx l B own cc nL p s m args c) {j : Fin 4} {i : Nat} (hd : decode cc pc = .ok (.iload_n j, 1)) (hi : (j : Nat) = i) : mSnd l B nL p e R s m args below meth c Qf Q (aLI i (pc + 1)) pc := by
  intro ls st h k arr H locs ha hh hS
  unfold aLI at k
  split at k
  · rename_i x hx
    exact lv_iload_n X.1.1 X.1.2.1 hd hi (ha.2.2 i _ hx) (k arr H locs ha hh hS)
  · exact k.elim
theorem sn_iload (X : mCx l B own cc nL p s m args c) {i : Nat} (hd : decode cc pc = .ok (.iload i, 2)) : mSnd l B nL p e R s m args below meth c Qf Q (aLI i (pc + 2)) pc := by
  intro ls st h k arr H locs ha hh hS
  unfold aLI at k
  split at k
  · rename_i x hx
    exact lv_iload X.1.1 X.1.2.1 hd (ha.2.2 i _ hx) (k arr H locs ha hh hS)
  · exact k.elim
theorem sn_lload_n (X : mCx l B own cc nL p s m args c) {j : Fin 4} {i : Nat} (hd : decode cc pc = .ok (.lload_n j, 1)) (hi : (j : Nat) = i) : mSnd l B nL p e R s m args below meth c Qf Q (aLL i (pc + 1)) pc := by
  intro ls st h k arr H locs ha hh hS
  unfold aLL at k
  split at k
  · rename_i x hx
    exact lv_lload_n X.1.1 X.1.2.1 hd hi (ha.2.2 i _ hx) (k arr H locs ha hh hS)
  · exact k.elim
theorem sn_lload (X : mCx l B own cc nL p s m args c) {i : Nat} (hd : decode cc pc = .ok (.lload i, 2)) : mSnd l B nL p e R s m args below meth c Qf Q (aLL i (pc + 2)) pc := by
  intro ls st h k arr H locs ha hh hS
  unfold aLL at k
  split at k
  · rename_i x hx
    exact lv_lload X.1.1 X.1.2.1 hd (ha.2.2 i _ hx) (k arr H locs ha hh hS)
  · exact k.elim
theorem sn_istore_n (X : mCx l B own cc nL p s m args c) {j : Fin 4} {i : Nat} (hd : decode cc pc = .ok (.istore_n j, 1)) (hi : (j : Nat) = i) (hn : i < nL) : mSnd l B nL p e R s m args below meth c Qf Q (aSI i (pc + 1)) pc := by
  intro ls st h k arr H locs ha hh hS
  unfold aSI at k
  split at k
  · exact lv_istore_n X.1.1 X.1.2.1 hd hi (mAl_has ha) hn rfl (fun arr' ha' => k arr' H locs (mSt1_has (arr := arr) ha') hh hS)
  · exact k.elim
theorem sn_istore (X : mCx l B own cc nL p s m args c) {i : Nat} (hd : decode cc pc = .ok (.istore i, 2)) (hn : i < nL) : mSnd l B nL p e R s m args below meth c Qf Q (aSI i (pc + 2)) pc := by
  intro ls st h k arr H locs ha hh hS
  unfold aSI at k
  split at k
  · exact lv_istore X.1.1 X.1.2.1 hd (mAl_has ha) hn rfl (fun arr' ha' => k arr' H locs (mSt1_has (arr := arr) ha') hh hS)
  · exact k.elim
theorem sn_lstore_n (X : mCx l B own cc nL p s m args c) {j : Fin 4} {i : Nat} (hd : decode cc pc = .ok (.lstore_n j, 1)) (hi : (j : Nat) = i) (hn : i + 1 < nL) : mSnd l B nL p e R s m args below meth c Qf Q (aSL i (pc + 1)) pc := by
  intro ls st h k arr H locs ha hh hS
  unfold aSL at k
  split at k
  · exact lv_lstore_n X.1.1 X.1.2.1 hd hi (mAl_has ha) hn rfl (fun arr' ha' => k arr' H locs (mSt2_has (arr := arr) ha') hh hS)
  · exact k.elim
theorem sn_lstore (X : mCx l B own cc nL p s m args c) {i : Nat} (hd : decode cc pc = .ok (.lstore i, 2)) (hn : i + 1 < nL) : mSnd l B nL p e R s m args below meth c Qf Q (aSL i (pc + 2)) pc := by
  intro ls st h k arr H locs ha hh hS
  unfold aSL at k
  split at k
  · exact lv_lstore X.1.1 X.1.2.1 hd (mAl_has ha) hn rfl (fun arr' ha' => k arr' H locs (mSt2_has (arr := arr) ha') hh hS)
  · exact k.elim
theorem sn_astore_n (X : mCx l B own cc nL p s m args c) {j : Fin 4} {i : Nat} (hd : decode cc pc = .ok (.astore_n j, 1)) (hi : (j : Nat) = i) (hn : i < nL) : mSnd l B nL p e R s m args below meth c Qf Q (aSA i (pc + 1)) pc := by
  intro ls st h k arr H locs ha hh hS
  unfold aSA at k
  split at k
  · exact lv_astore_n X.1.1 X.1.2.1 hd hi (mAl_has ha) hn rfl (fun arr' ha' => k arr' H locs (mSt1_has (arr := arr) ha') hh hS)
  · exact lv_astore_nN X.1.1 X.1.2.1 hd hi (mAl_has ha) hn rfl (fun arr' ha' => k arr' H locs (mSt1_has (arr := arr) ha') hh hS)
  · exact k.elim
theorem sn_astore (X : mCx l B own cc nL p s m args c) {i : Nat} (hd : decode cc pc = .ok (.astore i, 2)) (hn : i < nL) : mSnd l B nL p e R s m args below meth c Qf Q (aSA i (pc + 2)) pc := by
  intro ls st h k arr H locs ha hh hS
  unfold aSA at k
  split at k
  · exact lv_astore X.1.1 X.1.2.1 hd (mAl_has ha) hn rfl (fun arr' ha' => k arr' H locs (mSt1_has (arr := arr) ha') hh hS)
  · exact lv_astoreN X.1.1 X.1.2.1 hd (mAl_has ha) hn rfl (fun arr' ha' => k arr' H locs (mSt1_has (arr := arr) ha') hh hS)
  · exact k.elim
end
