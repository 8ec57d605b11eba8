section
variable {l : Launch} {B : mBs} {own : String} {cc : ByteArray} {nL : Nat} {p : Program} {e : Env} {R : Room} {s : State} {m : MethodId} {args : Array Value} {below : List Frame} {meth : Method} {c : Code} {Qf : State → Prop} {Q : mQo} {pc : Nat}

theorem sn_aload_n (X : mCx l B own cc nL p s m args c) {j : Fin 4} {i : Nat} (hd : decode cc pc = .ok (.aload_n j, 1)) (hi : (j : Nat) = i) : mSnd l B nL p e R s m args below meth c Qf Q (aLA i (pc + 1)) pc := by
  intro ls st h k arr H locs ha hh hS
  unfold aLA at k
  split at k
  · rename_i x hx
    exact lv_aload_n X.1.1 X.1.2.1 hd hi (ha.2.2 i _ hx) (k arr H locs ha hh hS)
  · rename_i hx
    exact lv_aload_nN X.1.1 X.1.2.1 hd hi (ha.2.2 i _ hx) (k arr H locs ha hh hS)
  · exact k.elim
theorem sn_aload (X : mCx l B own cc nL p s m args c) {i : Nat} (hd : decode cc pc = .ok (.aload i, 2)) : mSnd l B nL p e R s m args below meth c Qf Q (aLA i (pc + 2)) pc := by
  intro ls st h k arr H locs ha hh hS
  unfold aLA at k
  split at k
  · rename_i x hx
    exact lv_aload X.1.1 X.1.2.1 hd (ha.2.2 i _ hx) (k arr H locs ha hh hS)
  · rename_i hx
    exact lv_aloadN X.1.1 X.1.2.1 hd (ha.2.2 i _ hx) (k arr H locs ha hh hS)
  · exact k.elim
theorem sn_iinc (X : mCx l B own cc nL p s m args c) {i : Nat} {n : Int} {v : Int32} (hd : decode cc pc = .ok (.iinc i n, 3)) (hv : Int32.ofInt n = v) (hn : i < nL) : mSnd l B nL p e R s m args below meth c Qf Q (aInc i v (pc + 3)) pc := by
  intro ls st h k arr H locs ha hh hS
  subst hv
  unfold aInc at k
  split at k
  · rename_i x hx
    obtain ⟨q, hq⟩ := List.getElem?_of_mem (mAl_in (B := B) hx)
    exact lv_iinc X.1.1 X.1.2.1 hd (mAl_has ha) hq rfl hn rfl (fun arr' ha' => k arr' H locs (mSt1_has (arr := arr) ha') hh hS)
  · exact k.elim
theorem sn_iadd (X : mCx l B own cc nL p s m args c) (hd : decode cc pc = .ok (.iadd, 1)) : mSnd l B nL p e R s m args below meth c Qf Q (aB (fun x y => x + y) (pc + 1)) pc := by
  intro ls st h k arr H locs ha hh hS
  unfold aB at k
  split at k
  · exact lv_iadd X.1.1 X.1.2.1 hd (k arr H locs ha hh hS)
  · exact k.elim
theorem sn_isub (X : mCx l B own cc nL p s m args c) (hd : decode cc pc = .ok (.isub, 1)) : mSnd l B nL p e R s m args below meth c Qf Q (aB (fun x y => x - y) (pc + 1)) pc := by
  intro ls st h k arr H locs ha hh hS
  unfold aB at k
  split at k
  · exact lv_isub X.1.1 X.1.2.1 hd (k arr H locs ha hh hS)
  · exact k.elim
theorem sn_imul (X : mCx l B own cc nL p s m args c) (hd : decode cc pc = .ok (.imul, 1)) : mSnd l B nL p e R s m args below meth c Qf Q (aB (fun x y => x * y) (pc + 1)) pc := by
  intro ls st h k arr H locs ha hh hS
  unfold aB at k
  split at k
  · exact lv_imul X.1.1 X.1.2.1 hd (k arr H locs ha hh hS)
  · exact k.elim
theorem sn_iand (X : mCx l B own cc nL p s m args c) (hd : decode cc pc = .ok (.iand, 1)) : mSnd l B nL p e R s m args below meth c Qf Q (aB (fun x y => x &&& y) (pc + 1)) pc := by
  intro ls st h k arr H locs ha hh hS
  unfold aB at k
  split at k
  · exact lv_iand X.1.1 X.1.2.1 hd (k arr H locs ha hh hS)
  · exact k.elim
theorem sn_ladd (X : mCx l B own cc nL p s m args c) (hd : decode cc pc = .ok (.ladd, 1)) : mSnd l B nL p e R s m args below meth c Qf Q (aBL (fun x y => x + y) (pc + 1)) pc := by
  intro ls st h k arr H locs ha hh hS
  unfold aBL at k
  split at k
  · exact lv_ladd X.1.1 X.1.2.1 hd (k arr H locs ha hh hS)
  · exact k.elim
theorem sn_lsub (X : mCx l B own cc nL p s m args c) (hd : decode cc pc = .ok (.lsub, 1)) : mSnd l B nL p e R s m args below meth c Qf Q (aBL (fun x y => x - y) (pc + 1)) pc := by
  intro ls st h k arr H locs ha hh hS
  unfold aBL at k
  split at k
  · exact lv_lsub X.1.1 X.1.2.1 hd (k arr H locs ha hh hS)
  · exact k.elim
theorem sn_lmul (X : mCx l B own cc nL p s m args c) (hd : decode cc pc = .ok (.lmul, 1)) : mSnd l B nL p e R s m args below meth c Qf Q (aBL (fun x y => x * y) (pc + 1)) pc := by
  intro ls st h k arr H locs ha hh hS
  unfold aBL at k
  split at k
  · exact lv_lmul X.1.1 X.1.2.1 hd (k arr H locs ha hh hS)
  · exact k.elim
theorem sn_lor (X : mCx l B own cc nL p s m args c) (hd : decode cc pc = .ok (.lor, 1)) : mSnd l B nL p e R s m args below meth c Qf Q (aBL (fun x y => x ||| y) (pc + 1)) pc := by
  intro ls st h k arr H locs ha hh hS
  unfold aBL at k
  split at k
  · exact lv_lor X.1.1 X.1.2.1 hd (k arr H locs ha hh hS)
  · exact k.elim
theorem sn_ineg (X : mCx l B own cc nL p s m args c) (hd : decode cc pc = .ok (.ineg, 1)) : mSnd l B nL p e R s m args below meth c Qf Q (aU (fun x => -x) (pc + 1)) pc := by
  intro ls st h k arr H locs ha hh hS
  unfold aU at k
  split at k
  · exact lv_ineg X.1.1 X.1.2.1 hd (k arr H locs ha hh hS)
  · exact k.elim
theorem sn_lneg (X : mCx l B own cc nL p s m args c) (hd : decode cc pc = .ok (.lneg, 1)) : mSnd l B nL p e R s m args below meth c Qf Q (aUL (fun x => -x) (pc + 1)) pc := by
  intro ls st h k arr H locs ha hh hS
  unfold aUL at k
  split at k
  · exact lv_lneg X.1.1 X.1.2.1 hd (k arr H locs ha hh hS)
  · exact k.elim
theorem sn_i2l (X : mCx l B own cc nL p s m args c) (hd : decode cc pc = .ok (.i2l, 1)) : mSnd l B nL p e R s m args below meth c Qf Q (aI2L (pc + 1)) pc := by
  intro ls st h k arr H locs ha hh hS
  unfold aI2L at k
  split at k
  · exact lv_i2l X.1.1 X.1.2.1 hd rfl (k arr H locs ha hh hS)
  · exact k.elim
theorem sn_l2i (X : mCx l B own cc nL p s m args c) (hd : decode cc pc = .ok (.l2i, 1)) : mSnd l B nL p e R s m args below meth c Qf Q (aL2I (pc + 1)) pc := by
  intro ls st h k arr H locs ha hh hS
  unfold aL2I at k
  split at k
  · exact lv_l2i X.1.1 X.1.2.1 hd rfl (k arr H locs ha hh hS)
  · exact k.elim
theorem sn_lcmp (X : mCx l B own cc nL p s m args c) (hd : decode cc pc = .ok (.lcmp, 1)) : mSnd l B nL p e R s m args below meth c Qf Q (aCmp (pc + 1)) pc := by
  intro ls st h k arr H locs ha hh hS
  unfold aCmp at k
  split at k
  · exact W.lcmp X.1.1 X.1.2.1 hd (k arr H locs ha hh hS)
  · exact k.elim
theorem sn_lshr (X : mCx l B own cc nL p s m args c) (hd : decode cc pc = .ok (.lshr, 1)) : mSnd l B nL p e R s m args below meth c Qf Q (aSh (fun x y => x >>> (y.toInt64 &&& 63)) (pc + 1)) pc := by
  intro ls st h k arr H locs ha hh hS
  unfold aSh at k
  split at k
  · exact lv_lshr X.1.1 X.1.2.1 hd rfl (k arr H locs ha hh hS)
  · exact k.elim
theorem sn_lushr (X : mCx l B own cc nL p s m args c) (hd : decode cc pc = .ok (.lushr, 1)) : mSnd l B nL p e R s m args below meth c Qf Q (aSh (fun x y => (x.toUInt64 >>> (y.toInt64.toUInt64 &&& Int64.toUInt64 63)).toInt64) (pc + 1)) pc := by
  intro ls st h k arr H locs ha hh hS
  unfold aSh at k
  split at k
  · exact lv_lushr X.1.1 X.1.2.1 hd rfl (k arr H locs ha hh hS)
  · exact k.elim
theorem sn_idiv (X : mCx l B own cc nL p s m args c) (hd : decode cc pc = .ok (.idiv, 1)) : mSnd l B nL p e R s m args below meth c Qf Q (aD (fun x y => x / y) (pc + 1)) pc := by
  intro ls st h k arr H locs ha hh hS
  unfold aD at k
  split at k
  · exact lv_idiv X.1.1 X.1.2.1 hd k.1 (k.2 arr H locs ha hh hS)
  · exact k.elim
theorem sn_irem (X : mCx l B own cc nL p s m args c) (hd : decode cc pc = .ok (.irem, 1)) : mSnd l B nL p e R s m args below meth c Qf Q (aD (fun x y => x - x / y * y) (pc + 1)) pc := by
  intro ls st h k arr H locs ha hh hS
  unfold aD at k
  split at k
  · exact lv_irem X.1.1 X.1.2.1 hd k.1 (k.2 arr H locs ha hh hS)
  · exact k.elim
theorem sn_ldiv (X : mCx l B own cc nL p s m args c) (hd : decode cc pc = .ok (.ldiv, 1)) : mSnd l B nL p e R s m args below meth c Qf Q (aDL (fun x y => x / y) (pc + 1)) pc := by
  intro ls st h k arr H locs ha hh hS
  unfold aDL at k
  split at k
  · exact lv_ldiv X.1.1 X.1.2.1 hd k.1 (k.2 arr H locs ha hh hS)
  · exact k.elim
theorem sn_dup (X : mCx l B own cc nL p s m args c) (hd : decode cc pc = .ok (.dup, 1)) : mSnd l B nL p e R s m args below meth c Qf Q (aDup (pc + 1)) pc := by
  intro ls st h k arr H locs ha hh hS
  unfold aDup at k
  split at k
  · exact lv_dup X.1.1 X.1.2.1 hd rfl (k arr H locs ha hh hS)
  · exact lv_dup X.1.1 X.1.2.1 hd rfl (k arr H locs ha hh hS)
  · exact k.elim
theorem sn_dup2 (X : mCx l B own cc nL p s m args c) (hd : decode cc pc = .ok (.dup2, 1)) : mSnd l B nL p e R s m args below meth c Qf Q (aDup2 (pc + 1)) pc := by
  intro ls st h k arr H locs ha hh hS
  unfold aDup2 at k
  split at k
  · exact lv_dup2_11 X.1.1 X.1.2.1 hd rfl rfl (k arr H locs ha hh hS)
  · exact k.elim
theorem sn_pop (X : mCx l B own cc nL p s m args c) (hd : decode cc pc = .ok (.pop, 1)) : mSnd l B nL p e R s m args below meth c Qf Q (aPop (pc + 1)) pc := by
  intro ls st h k arr H locs ha hh hS
  unfold aPop at k
  split at k
  · exact lv_pop X.1.1 X.1.2.1 hd rfl (k arr H locs ha hh hS)
  · exact k.elim
theorem sn_goto (X : mCx l B own cc nL p s m args c) {off : Int} {t : Nat} (hd : decode cc pc = .ok (.goto off, 3)) (ht : (pc : Int) + off = (t : Int)) : mSnd l B nL p e R s m args below meth c Qf Q (aGo t) pc :=
  fun _ _ _ k arr H locs ha hh hS => lv_goto X.1.1 X.1.2.1 hd ht (k arr H locs ha hh hS)
theorem sn_ifnull (X : mCx l B own cc nL p s m args c) {off : Int} {t : Nat} (hd : decode cc pc = .ok (.ifnull off, 3)) (ht : (pc : Int) + off = (t : Int)) : mSnd l B nL p e R s m args below meth c Qf Q (aNu t (pc + 3)) pc := by
  intro ls st h k arr H locs ha hh hS
  unfold aNu at k
  split at k
  · exact lv_ifnullN X.1.1 X.1.2.1 hd ht (k arr H locs ha hh hS)
  · exact lv_ifnull X.1.1 X.1.2.1 hd (k arr H locs ha hh hS)
  · exact k.elim
theorem sn_ifnonnull (X : mCx l B own cc nL p s m args c) {off : Int} {t : Nat} (hd : decode cc pc = .ok (.ifnonnull off, 3)) (ht : (pc : Int) + off = (t : Int)) : mSnd l B nL p e R s m args below meth c Qf Q (aNn t (pc + 3)) pc := by
  intro ls st h k arr H locs ha hh hS
  unfold aNn at k
  split at k
  · exact lv_ifnonnullN X.1.1 X.1.2.1 hd (k arr H locs ha hh hS)
  · exact lv_ifnonnull X.1.1 X.1.2.1 hd ht (k arr H locs ha hh hS)
  · exact k.elim
theorem sn_icmp_eq (X : mCx l B own cc nL p s m args c) {off : Int} {t : Nat} (hd : decode cc pc = .ok (.if_icmp .eq off, 3)) (ht : (pc : Int) + off = (t : Int)) : mSnd l B nL p e R s m args below meth c Qf Q (aIc (fun x y => x = y) t (pc + 3)) pc := by
  intro ls st h k arr H locs ha hh hS
  unfold aIc at k
  split at k
  · exact lv_icmp_eq X.1.1 X.1.2.1 hd ht (fun z => k.1 z arr H locs ha hh hS) (fun z => k.2 z arr H locs ha hh hS)
  · exact k.elim
theorem sn_icmp_ne (X : mCx l B own cc nL p s m args c) {off : Int} {t : Nat} (hd : decode cc pc = .ok (.if_icmp .ne off, 3)) (ht : (pc : Int) + off = (t : Int)) : mSnd l B nL p e R s m args below meth c Qf Q (aIc (fun x y => x = y) (pc + 3) t) pc := by
  intro ls st h k arr H locs ha hh hS
  unfold aIc at k
  split at k
  · exact lv_icmp_ne X.1.1 X.1.2.1 hd ht (fun z => k.2 z arr H locs ha hh hS) (fun z => k.1 z arr H locs ha hh hS)
  · exact k.elim
theorem sn_icmp_lt (X : mCx l B own cc nL p s m args c) {off : Int} {t : Nat} (hd : decode cc pc = .ok (.if_icmp .lt off, 3)) (ht : (pc : Int) + off = (t : Int)) : mSnd l B nL p e R s m args below meth c Qf Q (aIc (fun x y => x < y) t (pc + 3)) pc := by
  intro ls st h k arr H locs ha hh hS
  unfold aIc at k
  split at k
  · exact lv_icmp_lt X.1.1 X.1.2.1 hd ht (fun z => k.1 z arr H locs ha hh hS) (fun z => k.2 z arr H locs ha hh hS)
  · exact k.elim
theorem sn_icmp_ge (X : mCx l B own cc nL p s m args c) {off : Int} {t : Nat} (hd : decode cc pc = .ok (.if_icmp .ge off, 3)) (ht : (pc : Int) + off = (t : Int)) : mSnd l B nL p e R s m args below meth c Qf Q (aIc (fun x y => y ≤ x) t (pc + 3)) pc := by
  intro ls st h k arr H locs ha hh hS
  unfold aIc at k
  split at k
  · exact lv_icmp_ge X.1.1 X.1.2.1 hd ht (fun z => k.1 z arr H locs ha hh hS) (fun z => k.2 z arr H locs ha hh hS)
  · exact k.elim
theorem sn_icmp_gt (X : mCx l B own cc nL p s m args c) {off : Int} {t : Nat} (hd : decode cc pc = .ok (.if_icmp .gt off, 3)) (ht : (pc : Int) + off = (t : Int)) : mSnd l B nL p e R s m args below meth c Qf Q (aIc (fun x y => y < x) t (pc + 3)) pc := by
  intro ls st h k arr H locs ha hh hS
  unfold aIc at k
  split at k
  · exact lv_icmp_gt X.1.1 X.1.2.1 hd ht (fun z => k.1 z arr H locs ha hh hS) (fun z => k.2 z arr H locs ha hh hS)
  · exact k.elim
theorem sn_icmp_le (X : mCx l B own cc nL p s m args c) {off : Int} {t : Nat} (hd : decode cc pc = .ok (.if_icmp .le off, 3)) (ht : (pc : Int) + off = (t : Int)) : mSnd l B nL p e R s m args below meth c Qf Q (aIc (fun x y => x ≤ y) t (pc + 3)) pc := by
  intro ls st h k arr H locs ha hh hS
  unfold aIc at k
  split at k
  · exact lv_icmp_le X.1.1 X.1.2.1 hd ht (fun z => k.1 z arr H locs ha hh hS) (fun z => k.2 z arr H locs ha hh hS)
  · exact k.elim
theorem sn_if_eq (X : mCx l B own cc nL p s m args c) {off : Int} {t : Nat} (hd : decode cc pc = .ok (.ifCond .eq off, 3)) (ht : (pc : Int) + off = (t : Int)) : mSnd l B nL p e R s m args below meth c Qf Q (aIf (fun x => x = 0) t (pc + 3)) pc := by
  intro ls st h k arr H locs ha hh hS
  unfold aIf at k
  split at k
  · exact lv_if_eq X.1.1 X.1.2.1 hd ht (fun z => k.1 z arr H locs ha hh hS) (fun z => k.2 z arr H locs ha hh hS)
  · exact k.elim
theorem sn_if_ne (X : mCx l B own cc nL p s m args c) {off : Int} {t : Nat} (hd : decode cc pc = .ok (.ifCond .ne off, 3)) (ht : (pc : Int) + off = (t : Int)) : mSnd l B nL p e R s m args below meth c Qf Q (aIf (fun x => x = 0) (pc + 3) t) pc := by
  intro ls st h k arr H locs ha hh hS
  unfold aIf at k
  split at k
  · exact lv_if_ne X.1.1 X.1.2.1 hd ht (fun z => k.2 z arr H locs ha hh hS) (fun z => k.1 z arr H locs ha hh hS)
  · exact k.elim
theorem sn_if_lt (X : mCx l B own cc nL p s m args c) {off : Int} {t : Nat} (hd : decode cc pc = .ok (.ifCond .lt off, 3)) (ht : (pc : Int) + off = (t : Int)) : mSnd l B nL p e R s m args below meth c Qf Q (aIf (fun x => x < 0) t (pc + 3)) pc := by
  intro ls st h k arr H locs ha hh hS
  unfold aIf at k
  split at k
  · exact lv_if_lt X.1.1 X.1.2.1 hd ht (fun z => k.1 z arr H locs ha hh hS) (fun z => k.2 z arr H locs ha hh hS)
  · exact k.elim
theorem sn_if_ge (X : mCx l B own cc nL p s m args c) {off : Int} {t : Nat} (hd : decode cc pc = .ok (.ifCond .ge off, 3)) (ht : (pc : Int) + off = (t : Int)) : mSnd l B nL p e R s m args below meth c Qf Q (aIf (fun x => 0 ≤ x) t (pc + 3)) pc := by
  intro ls st h k arr H locs ha hh hS
  unfold aIf at k
  split at k
  · exact lv_if_ge X.1.1 X.1.2.1 hd ht (fun z => k.1 z arr H locs ha hh hS) (fun z => k.2 z arr H locs ha hh hS)
  · exact k.elim
theorem sn_if_gt (X : mCx l B own cc nL p s m args c) {off : Int} {t : Nat} (hd : decode cc pc = .ok (.ifCond .gt off, 3)) (ht : (pc : Int) + off = (t : Int)) : mSnd l B nL p e R s m args below meth c Qf Q (aIf (fun x => 0 < x) t (pc + 3)) pc := by
  intro ls st h k arr H locs ha hh hS
  unfold aIf at k
  split at k
  · exact lv_if_gt X.1.1 X.1.2.1 hd ht (fun z => k.1 z arr H locs ha hh hS) (fun z => k.2 z arr H locs ha hh hS)
  · exact k.elim
theorem sn_if_le (X : mCx l B own cc nL p s m args c) {off : Int} {t : Nat} (hd : decode cc pc = .ok (.ifCond .le off, 3)) (ht : (pc : Int) + off = (t : Int)) : mSnd l B nL p e R s m args below meth c Qf Q (aIf (fun x => x ≤ 0) t (pc + 3)) pc := by
  intro ls st h k arr H locs ha hh hS
  unfold aIf at k
  split at k
  · exact lv_if_le X.1.1 X.1.2.1 hd ht (fun z => k.1 z arr H locs ha hh hS) (fun z => k.2 z arr H locs ha hh hS)
  · exact k.elim
/-- tableswitch: keys lo, lo + 1 .. with their targets -/
def mTsOk (pc : Nat) (dflt lo hi : Int) (offs : Array Int) (ks : List (Int32 × Nat)) (d : Nat) : Prop :=
  (pc : Int) + dflt = (d : Int) ∧ hi = lo + (ks.length : Int) - 1 ∧ ∀ j, j < ks.length → ((ks.getD j (0, 0)).1.toInt = lo + (j : Int) ∧ (pc : Int) + (offs[j]?).getD 0 = ((ks.getD j (0, 0)).2 : Int) ∧ j < offs.size)
theorem sn_ts (X : mCx l B own cc nL p s m args c) {dflt lo hi : Int} {offs : Array Int} {len : Nat} {ks : List (Int32 × Nat)} {d : Nat} (hd : decode cc pc = .ok (.tableswitch dflt lo hi offs, len)) (hk : mTsOk pc dflt lo hi offs ks d) : mSnd l B nL p e R s m args below meth c Qf Q (aTs ks d) pc := by
  intro ls st h k arr H locs ha hh hS
  unfold aTs at k
  split at k
  · rename_i x r
    obtain ⟨k1, k2⟩ := k
    obtain ⟨o1, o2, o3⟩ := hk
    by_cases hr : x.toInt < lo ∨ hi < x.toInt
    · refine lv_tableOut X.1.1 X.1.2.1 hd hr o1 (k2 (fun q hq e => ?_) arr H locs ha hh hS)
      obtain ⟨j, hj⟩ := List.getElem?_of_mem hq
      have hlt := (List.getElem?_eq_some_iff.mp hj).1
      have h1 := (o3 j hlt).1
      rw [List.getD_eq_getElem?_getD, hj] at h1
      have h2 : x.toInt = lo + (j : Int) := by rw [e]; exact h1
      omega
    · have g1 : ¬ x.toInt < lo := fun z => hr (Or.inl z)
      have g2 : ¬ hi < x.toInt := fun z => hr (Or.inr z)
      have hlt : (x.toInt - lo).toNat < ks.length := by omega
      obtain ⟨h1, h2, h3⟩ := o3 _ hlt
      have hg : ks[(x.toInt - lo).toNat]? = some (ks[(x.toInt - lo).toNat]) := List.getElem?_eq_getElem hlt
      rw [List.getD_eq_getElem?_getD, hg] at h1 h2
      have hx : x = (ks[(x.toInt - lo).toNat]).1 := Int32.toInt_inj.mp (by rw [show (ks[(x.toInt - lo).toNat]).1.toInt = _ from h1]; omega)
      have ho : offs[(x.toInt - lo).toNat]? = some offs[(x.toInt - lo).toNat] := Array.getElem?_eq_getElem h3
      rw [ho] at h2
      exact lv_tableIn X.1.1 X.1.2.1 hd g1 g2 ho h2 (k1 _ (List.mem_of_getElem? hg) hx arr H locs ha hh hS)
  · exact k.elim
end
