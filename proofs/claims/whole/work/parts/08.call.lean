/-! ===== new cells, calls, ends ===== -/
def mRm (d mc ms : Nat) : Room := { frames := d, cells := mc, slots := ms, locals := 43 * d }
theorem mTg_app {t : mTT} {q : mSh} {n k : Nat} {x : Nat} (h : x < t.1.length) : mTg (t.1 ++ [q], n, k) x = mTg t x := by unfold mTg; rw [List.getElem?_append_left h]
theorem mLn_app {t : mTT} {q : mSh} {n k : Nat} {x : Nat} (h : x < t.1.length) : mLn (t.1 ++ [q], n, k) x = mLn t x := by unfold mLn; rw [List.getElem?_append_left h]
theorem mRf_app {t : mTT} {q : mSh} {n k : Nat} {x j : Nat} (h : x < t.1.length) : mRf (t.1 ++ [q], n, k) x j = mRf t x j := by unfold mRf; rw [List.getElem?_append_left h]
theorem mTg_new {t : mTT} {q : mSh} {n k : Nat} : mTg (t.1 ++ [q], n, k) t.1.length = q.1 := by unfold mTg; simp
theorem mLn_new {t : mTT} {q : mSh} {n k : Nat} : mLn (t.1 ++ [q], n, k) t.1.length = q.2.1 := by unfold mLn; simp
theorem mRf_new {t : mTT} {q : mSh} {n k j : Nat} : mRf (t.1 ++ [q], n, k) t.1.length j = q.2.2.getD j none := by unfold mRf; simp
/-- one more cell -/
theorem m_born {B : mBs} {h : mHp} {q : mSh} {H H1 : Heap} {E : va_E} (hh : mHold B h H) (hz : H.size = bb B + (h.1.1.length - 2)) (hE : mE B (mBorn h q) h.1.1.length = E) (he : va_at (bD B) vwCl (H.size, E) H1) (hk : ∀ x : Nat, x < H.size → H1[x]? = H[x]?) : mHold B (mBorn h q) H1 := by
  obtain ⟨g1, g2, g3, ⟨g4, g5⟩, g6, g7⟩ := hh
  have ho : ∀ x, x < h.1.1.length → mE B (mBorn h q) x = mE B h x := fun x hx => mE_congr (mTg_app hx) (mLn_app hx) (fun _ => mRf_app hx) (fun j => by show (if x = h.1.1.length then _ else _) = _; rw [if_neg (Nat.ne_of_lt hx)]) (fun j => by show (if x = h.1.1.length then _ else _) = _; rw [if_neg (Nat.ne_of_lt hx)])
  have e := m_push (h' := mBorn h q) g1 hz g3 (by show (h.1.1 ++ [q]).length = _; simp) hE ho
  refine ⟨?_, ?_, ?_, ⟨?_, ?_⟩, fun j hj => ?_, fun j hj => ?_⟩
  · rw [← e]
    refine (g1.kept (fun k x hx => hk x.1 ((g1 k x hx).lt))).app (fun k x hx => ?_)
    have hz1 : k < 1 := (List.getElem?_eq_some_iff.mp hx).1
    rw [show k = 0 by omega] at hx
    cases hx
    exact he
  · rw [← e]
    exact g2.push g1 rfl (by show bb B ≤ H.size; omega)
  · show 2 ≤ (h.1.1 ++ [q]).length; simp; omega
  · show (h.1.1 ++ [q])[0]? = _; rw [List.getElem?_append_left (by omega)]; exact g4
  · show (h.1.1 ++ [q])[1]? = _; rw [List.getElem?_append_left (by omega)]; exact g5
  · show (if 0 = h.1.1.length then _ else _) = _; rw [if_neg (by omega)]; exact g6 j hj
  · show (if 1 = h.1.1.length then _ else _) = _; rw [if_neg (by omega)]; exact g7 j hj
theorem mBorn_0 (h : mHp) (q : mSh) (j : Nat) : (mBorn h q).2.1 h.1.1.length j = 0 := if_pos rfl
theorem mBorn_1 (h : mHp) (q : mSh) (j : Nat) : (mBorn h q).2.2 h.1.1.length j = 0 := if_pos rfl
def mDf (kd : Nat) : Value := match kd with
  | 0 => .int 0
  | 1 => .long 0
  | _ => .null
section
variable {l : Launch} {B : mBs} {own : String} {cc : ByteArray} {nL : Nat} {p : Program} {e : Env} {R : Room} {s : State} {m : MethodId} {args : Array Value} {below : List Frame} {meth : Method} {c : Code} {Qf : State → Prop} {Q : mQo} {pc : Nat}
theorem sn_new (X : mCx l B own cc nL p s m args c) {d mc ms ci nf idx : Nat} {C : String} {T : u_T} {ty : Nat → FieldType} (hc : vwCl[ci]? = some (C, T, nf)) (hin : ∀ w ∈ u_ws C T nf, w ∈ mGood) (hty : mTok ty T nf) (hdf : ∀ j, j < nf → defaultValue (ty j) = mDf (mFk ci j)) (hN : mN ci = nf) (hcl : Cond.classLink own idx C ∈ mGood) (hins : Cond.instantiable C nf ∈ mGood) (hini : Cond.initialized C ∈ mGood) (hd : decode cc pc = .ok (.new idx, 3)) : mSnd l B nL p e (mRm d mc ms) s m args below meth c Qf Q (aNew ci nf mc ms (pc + 3)) pc := by
  intro ls st h kk arr H locs ha hh hS
  obtain ⟨⟨k1, k2⟩, kk⟩ := kk
  refine W.sized (fun hu => ?_)
  have hz := m_size hh.1 hh.2.1 X.2.2.2.2.2.1.2.2 hS hu
  have hKn := X.2.2.2.2.1.1 ci _ hc
  refine W.newcK X.1.1 X.1.2.1 X.1.2.2.2 (X.2.1 _ hcl) (X.2.1 _ hins) (X.2.1 _ hini) rfl hd k1 k2 hKn.2.1 rfl fun H1 kC hkC e1 z1 o1 => ?_
  have ht : mTg (mBorn h (ci + 3, nf, List.replicate nf none)).1 h.1.1.length = ci + 3 := mTg_new
  have hold : mHold B (mBorn h (ci + 3, nf, List.replicate nf none)) H1 := by
    refine m_born hh.1 hz (mE_ob ht) ⟨_, hc, (u_born ty X.2.1 hin hKn hkC e1 hty.1).to (fun j hj => ?_)⟩ (fun x hx => o1 x hx)
    rw [hdf j hj]
    unfold vp_V
    rw [List.getD_eq_getElem?_getD, m_fs hj hN]
    show _ = mFV B _ _ ci j
    unfold mFV mDf
    have hr : mRf (mBorn h (ci + 3, nf, List.replicate nf none)).1 h.1.1.length j = none := by
      refine mRf_new.trans ?_
      rw [List.getD_eq_getElem?_getD, List.getElem?_replicate]
      split <;> rfl
    rw [mBorn_0, mBorn_1, hr]
    generalize mFk ci j = kd
    match kd with
    | 0 => rfl
    | 1 => rfl
    | _ + 2 => rfl
  have hr : mRho B h.1.1.length = H.size := by rw [mRho_eq B hh.1.2.2.1]; omega
  have hz2 := kk arr H1 locs ha ⟨hold, by
    have h2 := hh.2.1
    have h3 := hh.1.2.2.1
    show s.heap.size + (h.1.2.1 + 1) = bb B + ((h.1.1 ++ [_]).length - 2)
    rw [List.length_append]
    show s.heap.size + (h.1.2.1 + 1) = bb B + (h.1.1.length + 1 - 2)
    omega, k1, k2⟩ ⟨Nat.le_trans hS.1 (by omega), fun x h1 h2 => (o1 x (Nat.lt_of_lt_of_le h1 hS.1)).trans (hS.2.1 x h1 h2), hS.2.2⟩
  rw [List.map_cons] at hz2
  have e2 : mCv B (.ref h.1.1.length) = .ref H.size := by show Value.ref (mRho B h.1.1.length) = _; rw [hr]
  rw [e2] at hz2
  exact hz2
theorem sn_newI (X : mCx l B own cc nL p s m args c) {d mc ms : Nat} (ha1 : Cond.arrayClass .int ∈ mGood) (hd : decode cc pc = .ok (.newarray .int, 2)) : mSnd l B nL p e (mRm d mc ms) s m args below meth c Qf Q (aNI 0 mc ms (pc + 2)) pc := by
  intro ls st h kk arr H locs ha hh hS
  unfold aNI at kk
  split at kk
  · rename_i x r
    obtain ⟨⟨k0, k0'⟩, ⟨k1, k2⟩, kk⟩ := kk
    refine W.sized (fun hu => ?_)
    have hz := m_size hh.1 hh.2.1 X.2.2.2.2.2.1.2.2 hS hu
    refine va_newaK (atype := .int) X.1.1 X.1.2.1 (X.2.1 _ ha1) rfl hd rfl k0 rfl (by show x.toNatClampNeg * 4 ≤ _; omega) k1 k2 rfl fun H1 cA e1 z1 o1 hAr hNm => ?_
    have hcA : cA = bki B := Option.some.inj (hNm.symm.trans (X.2.2.2.2.1.2 0 _ rfl).2)
    subst hcA
    have ht : mTg (mBorn h (0, x.toNatClampNeg, [])).1 h.1.1.length = 0 := mTg_new
    have hold : mHold B (mBorn h (0, x.toNatClampNeg, [])) H1 := by
      refine m_born hh.1 hz (mE_0 ht) ?_ (fun x hx => o1 x hx)
      show H1[H.size]? = some (vp_cell _ _)
      rw [vp_cell_i, e1]
      congr 1
      rw [show mLn (mBorn h (0, x.toNatClampNeg, [])).1 h.1.1.length = x.toNatClampNeg from mLn_new]
      congr 1
      funext j
      rw [mBorn_0]; rfl
    have hr : mRho B h.1.1.length = H.size := by rw [mRho_eq B hh.1.2.2.1]; omega
    have hz2 := kk arr H1 locs ha ⟨hold, by
      have h2 := hh.2.1
      have h3 := hh.1.2.2.1
      show s.heap.size + (h.1.2.1 + 1) = bb B + ((h.1.1 ++ [_]).length - 2)
      rw [List.length_append]
      show s.heap.size + (h.1.2.1 + 1) = bb B + (h.1.1.length + 1 - 2)
      omega, k1, k2⟩ ⟨Nat.le_trans hS.1 (by omega), fun x h1 h2 => (o1 x (Nat.lt_of_lt_of_le h1 hS.1)).trans (hS.2.1 x h1 h2), hS.2.2⟩
    rw [List.map_cons] at hz2
    have e2 : mCv B (.ref h.1.1.length) = .ref H.size := by show Value.ref (mRho B h.1.1.length) = _; rw [hr]
    rw [e2] at hz2
    exact hz2
  · exact kk.elim
theorem sn_newJ (X : mCx l B own cc nL p s m args c) {d mc ms : Nat} (ha1 : Cond.arrayClass .long ∈ mGood) (hd : decode cc pc = .ok (.newarray .long, 2)) : mSnd l B nL p e (mRm d mc ms) s m args below meth c Qf Q (aNI 1 mc ms (pc + 2)) pc := by
  intro ls st h kk arr H locs ha hh hS
  unfold aNI at kk
  split at kk
  · rename_i x r
    obtain ⟨⟨k0, k0'⟩, ⟨k1, k2⟩, kk⟩ := kk
    refine W.sized (fun hu => ?_)
    have hz := m_size hh.1 hh.2.1 X.2.2.2.2.2.1.2.2 hS hu
    refine va_newaK (atype := .long) X.1.1 X.1.2.1 (X.2.1 _ ha1) rfl hd rfl k0 rfl (by show x.toNatClampNeg * 8 ≤ _; omega) k1 k2 rfl fun H1 cA e1 z1 o1 hAr hNm => ?_
    have hcA : cA = bkl B := Option.some.inj (hNm.symm.trans (X.2.2.2.2.1.2 1 _ rfl).2)
    subst hcA
    have ht : mTg (mBorn h (1, x.toNatClampNeg, [])).1 h.1.1.length = 1 := mTg_new
    have hold : mHold B (mBorn h (1, x.toNatClampNeg, [])) H1 := by
      refine m_born hh.1 hz (mE_1 ht) ?_ (fun x hx => o1 x hx)
      show H1[H.size]? = some (vp_cell _ _)
      rw [vp_cell_l, e1]
      congr 1
      rw [show mLn (mBorn h (1, x.toNatClampNeg, [])).1 h.1.1.length = x.toNatClampNeg from mLn_new]
      congr 1
      funext j
      rw [mBorn_1]; rfl
    have hr : mRho B h.1.1.length = H.size := by rw [mRho_eq B hh.1.2.2.1]; omega
    have hz2 := kk arr H1 locs ha ⟨hold, by
      have h2 := hh.2.1
      have h3 := hh.1.2.2.1
      show s.heap.size + (h.1.2.1 + 1) = bb B + ((h.1.1 ++ [_]).length - 2)
      rw [List.length_append]
      show s.heap.size + (h.1.2.1 + 1) = bb B + (h.1.1.length + 1 - 2)
      omega, k1, k2⟩ ⟨Nat.le_trans hS.1 (by omega), fun x h1 h2 => (o1 x (Nat.lt_of_lt_of_le h1 hS.1)).trans (hS.2.1 x h1 h2), hS.2.2⟩
    rw [List.map_cons] at hz2
    have e2 : mCv B (.ref h.1.1.length) = .ref H.size := by show Value.ref (mRho B h.1.1.length) = _; rw [hr]
    rw [e2] at hz2
    exact hz2
  · exact kk.elim
theorem sn_newP (X : mCx l B own cc nL p s m args c) {d mc ms idx : Nat} (hcl : Cond.classLink own idx RX7 ∈ mGood) (hd : decode cc pc = .ok (.anewarray idx, 3)) : mSnd l B nL p e (mRm d mc ms) s m args below meth c Qf Q (aNP mc ms (pc + 3)) pc := by
  intro ls st h kk arr H locs ha hh hS
  unfold aNP at kk
  split at kk
  · rename_i x r
    obtain ⟨⟨k0, k0'⟩, ⟨k1, k2⟩, kk⟩ := kk
    refine W.sized (fun hu => ?_)
    have hz := m_size hh.1 hh.2.1 X.2.2.2.2.2.1.2.2 hS hu
    refine W.anew X.1.1 X.1.2.1 X.1.2.2.2 (X.2.1 _ hcl) (va_AO.use X.2.2.2.1) rfl hd rfl k0 (by omega) k1 k2 fun cA kA comp f1 f2 f3 f4 => ?_
    obtain ⟨_, _, _, _, _, _, f5⟩ := X.2.2.2.2.1.2 2 _ rfl
    have hcA : cA = bkp B := Option.some.inj (f1.symm.trans f5)
    subst hcA
    generalize hH1 : H.push ({ cls := bkp B, slots := Array.replicate x.toNatClampNeg .null, vm := .none } : Cell) = H1
    have z1 : H1.size = H.size + 1 := by rw [← hH1, Array.size_push]
    have e1 : H1[H.size]? = some (arrV (bkp B) x.toNatClampNeg (fun _ => .null)) := by rw [← hH1, Array.getElem?_push_size, ← arrV_new]
    have o1 : ∀ q : Nat, q < H.size → H1[q]? = H[q]? := fun q hq => by rw [← hH1, Array.getElem?_push, if_neg (Nat.ne_of_lt hq)]
    have ht : mTg (mBorn h (2, x.toNatClampNeg, List.replicate x.toNatClampNeg none)).1 h.1.1.length = 2 := mTg_new
    have hold : mHold B (mBorn h (2, x.toNatClampNeg, List.replicate x.toNatClampNeg none)) H1 := by
      refine m_born hh.1 hz (mE_2 ht) ?_ (fun x hx => o1 x hx)
      show H1[H.size]? = some (vp_cell _ _)
      rw [vp_cell_q, e1]
      congr 1
      rw [show mLn (mBorn h (2, x.toNatClampNeg, List.replicate x.toNatClampNeg none)).1 h.1.1.length = x.toNatClampNeg from mLn_new]
      congr 1
      funext j
      rw [show mRf (mBorn h (2, x.toNatClampNeg, List.replicate x.toNatClampNeg none)).1 h.1.1.length j = (List.replicate x.toNatClampNeg none).getD j none from mRf_new]
      rw [List.getD_eq_getElem?_getD, List.getElem?_replicate]
      split <;> rfl
    have hr : mRho B h.1.1.length = H.size := by rw [mRho_eq B hh.1.2.2.1]; omega
    have hz2 := kk arr H1 locs ha ⟨hold, by
      have h2 := hh.2.1
      have h3 := hh.1.2.2.1
      show s.heap.size + (h.1.2.1 + 1) = bb B + ((h.1.1 ++ [_]).length - 2)
      rw [List.length_append]
      show s.heap.size + (h.1.2.1 + 1) = bb B + (h.1.1.length + 1 - 2)
      omega, k1, k2⟩ ⟨Nat.le_trans hS.1 (by omega), fun x h1 h2 => (o1 x (Nat.lt_of_lt_of_le h1 hS.1)).trans (hS.2.1 x h1 h2), hS.2.2⟩
    rw [List.map_cons] at hz2
    have e2 : mCv B (.ref h.1.1.length) = .ref H.size := by show Value.ref (mRho B h.1.1.length) = _; rw [hr]
    rw [e2] at hz2
    exact hz2
  · exact kk.elim
theorem sn_obj (X : mCx l B own cc nL p s m args c) {d mc ms idx : Nat} (hd0 : 1 ≤ d) (hl : Cond.methodLink own idx objectInit ∈ mGood) (hi : Cond.instanceMethod objectInit ∈ mGood) (hc : Cond.code objectInit ⟨#[0xb1]⟩ 1 none ∈ mGood) (hd : decode cc pc = .ok (.invokespecial idx, 3)) : mSnd l B nL p e (mRm d mc ms) s m args below meth c Qf Q (aObj (pc + 3)) pc := by
  intro ls st h kk arr H locs ha hh hS
  unfold aObj at kk
  split at kk
  · rename_i a r
    obtain ⟨k1, kk⟩ := kk
    refine W.objInit X.1.1 X.1.2.1 X.1.2.2.2 (X.2.1 _ hl) (X.2.1 _ hi) (X.2.1 _ hc) rfl (by rw [X.1.2.2.1]; exact ha.1) rfl hd hd0 ?_ (kk arr H locs ha hh hS)
    have h1 := lv_room (m := m) (pc := pc) (ls := arr) (rest := (.ref (mRho B a) :: r.map (mCv B))) (st := r.map (mCv B)) (by rw [mCv_sum]; exact k1)
    show _ + 12 ≤ 43 * d
    have h2 : 2 * (F0 m pc arr (.ref (mRho B a) :: r.map (mCv B))).monitorRoom + ((r.map (mCv B)).map fun v => v.category).sum ≤ 8 := h1
    exact Nat.le_trans (Nat.add_le_add_right h2 12) (by omega)
  · exact kk.elim
theorem sn_copy (X : mCx l B own cc nL p s m args c) {d mc ms idx : Nat} (hd0 : 1 ≤ d) (hl : Cond.methodLink own idx arraycopyName ∈ mGood) (hna : Cond.native arraycopyName ∈ mGood) (hst : Cond.static arraycopyName ∈ mGood) (hini : Cond.initialized "java/lang/System" ∈ mGood) (hd : decode cc pc = .ok (.invokestatic idx, 3)) : mSnd l B nL p e (mRm d mc ms) s m args below meth c Qf Q (aCp (pc + 3)) pc := by
  intro ls st h kk arr H locs ha hh hS
  unfold aCp at kk
  split at kk
  · rename_i z dp a sp a0 r
    obtain ⟨⟨t0, g0, t1, g1⟩, ⟨z1, z2, z3, z4, z5, z6⟩, kk⟩ := kk
    have hl1 : a < h.1.1.length := m_lt (by rw [t1]; omega)
    obtain ⟨q0, hq0⟩ := m_get (B := B) g0 (m_lt (t := h.1) (by rw [t0]; omega))
    obtain ⟨q, hq⟩ := m_get (B := B) g1 hl1
    have hq' := hq
    rw [mE_0 t1] at hq'
    rw [mE_0 t0] at hq0
    refine va_copyi (ty := .int) X.1.1 X.1.2.1 (by rw [X.1.2.2.1]; exact ha.1.symm) X.1.2.2.2 (X.2.1 _ hl) (X.2.1 _ hna) (X.2.1 _ hst) (X.2.1 _ hini) X.2.2.2.2.1 hh.1.1 hh.1.2.1 hS q0 q 0 0 hq0 hq' rfl rfl rfl z1 z2 z3 z4 z5 (fun _ _ => rfl) hd0 ?_ hd (fun H1 locs1 hP1 hD1 hS1 => ?_)
    · rw [mCv_sum]
      show _ + (nativeFrameWords "java/lang/System" "arraycopy" 5 + 11) ≤ 43 * d
      have h1 : nativeFrameWords "java/lang/System" "arraycopy" 5 = 7 := by decide
      rw [h1]
      omega
    · refine kk arr H1 locs1 ha ⟨m_held hh.1 g1 hl1 hq hP1 hD1 rfl ?_ (fun x' hx' => mE_congr rfl rfl (fun _ => rfl) (fun j => by show mCpI _ _ _ _ _ _ x' j = _; unfold mCpI; rw [if_neg hx']) (fun _ => rfl)) (fun _ _ => rfl) (fun x' j hx' => by show mCpI _ _ _ _ _ _ x' j = _; unfold mCpI; rw [if_neg hx']), hh.2⟩ hS1
      rw [mE_0 (h := (h.1, mCpI h.2.1 a0 a sp.toNatClampNeg dp.toNatClampNeg z.toNatClampNeg, h.2.2)) t1]
      congr 4
      show mCpI h.2.1 a0 a _ _ _ a = _
      unfold mCpI
      rw [if_pos rfl]
  · exact kk.elim
end
