/-! ===== the law's start: the machine's base out of the Statement's premises ===== -/
theorem mArr {args : Array Value} {s : State} {ty : FieldType} (h : (Cond.arrayClass ty).before args s = true) : ∃ cA : ClassId, ArrOfT s cA ty ∧ s.vm.findClass ("[" ++ ty.toString) = some cA := by
  obtain ⟨cA, kA, comp, hfind, hk, hkind⟩ := Cond.arrayClass_spec h
  exact ⟨cA, fun n z => ⟨fun k h => (by cases h), kA, hk, comp, hkind⟩, hfind⟩
theorem mArrP {s : State} {C : String} (h : va_AO C s) : ∃ cA : ClassId, ArrOfT s cA (.object C) ∧ va_RA s cA (.object C) := by
  obtain ⟨comp, cA, kA, h1, h2, h3, h4, h5⟩ := Cond.arrayOver_spec h
  exact ⟨cA, fun n z => ⟨fun k h => (by cases h), kA, h3, comp, h4⟩, kA, comp, h3, h4, h1, h5⟩
def mT0 (n : Nat) : List mSh := [(0, n, []), (0, 64, [])]
def mI0 (xs : Nat → Int32) : Nat → Nat → Int32 := fun a j => if a = 0 then xs j else if a = 1 then mSn j else 0
theorem mSn_in : ∀ j, j < 64 → Cond.eq (Term.elem (Term.static "PuppetStage" "SINES" "[I") (.int (Int32.ofNat j))) (.int (mSn j)) ∈ flatC (Jvm.Cond.and given_1 narrow_1) := by decide +kernel
theorem mClasses {s : State} {args : Array Value} (hts : ∀ w ∈ mGood, w.before args s = true) : ∃ (dC : Nat → ClassId) (dI : Nat → Nat → Nat), ∀ (k : Nat) (q : vw_C), vwCl[k]? = some q → u_Kn s q.1 q.2.1 q.2.2 (dC k) (dI k) := by
  have h : ∀ k : Nat, ∃ (c : ClassId) (i : Nat → Nat), ∀ q : vw_C, vwCl[k]? = some q → u_Kn s q.1 q.2.1 q.2.2 c i := by
    intro k
    match k with
    | 0 => obtain ⟨c, i, h⟩ := u_known (C := RX0) (T := TX0) (N := 5) hts inw_0 (hts _ (wd_149)); exact ⟨c, i, fun q hq => by cases hq; exact h⟩
    | 1 => obtain ⟨c, i, h⟩ := u_known (C := RX1) (T := TX1) (N := 11) hts inw_1 (hts _ (wd_311)); exact ⟨c, i, fun q hq => by cases hq; exact h⟩
    | 2 => obtain ⟨c, i, h⟩ := u_known (C := RX2) (T := TX2) (N := 6) hts inw_2 (hts _ (wd_222)); exact ⟨c, i, fun q hq => by cases hq; exact h⟩
    | 3 => obtain ⟨c, i, h⟩ := u_known (C := RX3) (T := TX3) (N := 4) hts inw_3 (hts _ (wd_288)); exact ⟨c, i, fun q hq => by cases hq; exact h⟩
    | 4 => obtain ⟨c, i, h⟩ := u_known (C := RX4) (T := TX4) (N := 7) hts inw_4 (hts _ (wd_182)); exact ⟨c, i, fun q hq => by cases hq; exact h⟩
    | 5 => obtain ⟨c, i, h⟩ := u_known (C := RX5) (T := TX5) (N := 7) hts inw_5 (hts _ (wd_79)); exact ⟨c, i, fun q hq => by cases hq; exact h⟩
    | 6 => obtain ⟨c, i, h⟩ := u_known (C := RX6) (T := TX6) (N := 4) hts inw_6 (hts _ (wd_369)); exact ⟨c, i, fun q hq => by cases hq; exact h⟩
    | 7 => obtain ⟨c, i, h⟩ := u_known (C := RX7) (T := TX7) (N := 6) hts inw_7 (hts _ (wd_73)); exact ⟨c, i, fun q hq => by cases hq; exact h⟩
    | 8 => obtain ⟨c, i, h⟩ := u_known (C := RX8) (T := TX8) (N := 1) hts inw_8 (hts _ (wd_357)); exact ⟨c, i, fun q hq => by cases hq; exact h⟩
    | 9 => obtain ⟨c, i, h⟩ := u_known (C := RX9) (T := TX9) (N := 3) hts inw_9 (hts _ (wd_128)); exact ⟨c, i, fun q hq => by cases hq; exact h⟩
    | 10 => obtain ⟨c, i, h⟩ := u_known (C := RX10) (T := TX10) (N := 11) hts inw_10 (hts _ (wd_65)); exact ⟨c, i, fun q hq => by cases hq; exact h⟩
    | 11 => obtain ⟨c, i, h⟩ := u_known (C := RX11) (T := TX11) (N := 22) hts inw_11 (hts _ (wd_903)); exact ⟨c, i, fun q hq => by cases hq; exact h⟩
    | k + 12 => exact ⟨0, fun _ => 0, fun q hq => by simp [vwCl] at hq⟩
  exact ⟨fun k => Classical.choose (h k), fun k => Classical.choose (Classical.choose_spec (h k)), fun k q hq => Classical.choose_spec (Classical.choose_spec (h k)) q hq⟩
set_option maxHeartbeats 4000000 in
theorem law_start {p : Program} {e : Env} {s : State} {m : MethodId} {below : List Frame} {meth : Method} {c : Code} (l : Launch) {b L : Nat} {xs : Nat → Int32} (C0 : lw_At p s m meth c b L xs) (hWP : mWP tb_L_law (fun r _ => r = some (.int 1)) 0 [some (.ref 0), none, none, none] [] ((mT0 L, 0, 0), mI0 xs, fun _ _ => 0)) : W p l e room_1 s m #[Value.ref b] below meth c s.heap [] 0 0 (lw_Z below #[Value.ref b] s) (entryFrame m ([Value.ref b] : List Value).toArray 4) := by
  obtain ⟨hx, hb, hr, hml, hown, hts, hX, hbl, hlocks, hgv⟩ := id C0
  have hs := flat_of_before _ hgv
  have hgood : ∀ w ∈ mGood, w.before #[Value.ref b] s = true := fun w hw => hts w (List.mem_filter.mp hw).1
  have hnest : ∀ w ∈ mNest, va_Nw w s := fun w hw => by
    have h1 := hts w (List.mem_filter.mp hw).1
    obtain ⟨a, i, x, o, rfl⟩ := mNest_form hw
    exact va_Nw.of rfl h1
  have hAO : va_AO RX7 s := va_AO.of (hts (.arrayOver (.object RX7)) (List.mem_of_getElem? (i := 294) (by decide +kernel)))
  obtain ⟨dC, dI, hKc⟩ := mClasses hgood
  obtain ⟨ki, hki, hki2⟩ := mArr (hgood _ wd_126)
  obtain ⟨kl, hkl, hkl2⟩ := mArr (hgood _ wd_979)
  obtain ⟨kp, hkp, hkp2⟩ := mArrP hAO
  have hA : ∀ a : Nat, a < s.heap.size → ¬ (fun q : Nat => s.heap.size ≤ q) a := fun a h => Nat.not_le.mpr h
  obtain ⟨ya, hya, hT⟩ := va_Tof (tm := Term.static "PuppetStage" "SINES" "[I") (ty := .int) (N := 64) (f := fun j => .int (mSn j)) (A := fun q : Nat => s.heap.size ≤ q) (by decide) (hs _ (by decide +kernel)) (va_eqt (hs (.eq (Term.length (Term.static "PuppetStage" "SINES" "[I")) (.int 64)) (by decide +kernel))) (fun j hj => va_eqt (hs _ (mSn_in j hj))) hA
  have hZ := va_Zof (C := RX10) (n := "SINES") (d := "[I") (v := .ref ya) (A := fun q : Nat => s.heap.size ≤ q) (args := #[Value.ref b]) (s := s) (hts (.laysStatic RX10 "SINES" "[I") (List.mem_of_getElem? (i := 587) (by decide +kernel))) (hgood _ wd_49) hya hA
  obtain ⟨B, hB⟩ : ∃ B : mBs, B = ((dC, dI), (ki, kl, kp), (b, ya, s.heap.size), L, xs) := ⟨_, rfl⟩
  have hWd : mWd B s := by
    subst hB
    refine ⟨hnest, hAO, ⟨hKc, fun k q hq => ?_⟩, ⟨hX, hbl, Nat.le_refl _⟩, hT, hZ⟩
    match k, hq with
    | 0, hq => cases hq; exact ⟨hki, hki2⟩
    | 1, hq => cases hq; exact ⟨hkl, hkl2⟩
    | 2, hq => cases hq; exact ⟨hkp, hkp2⟩
    | k + 3, hq => simp [mTys] at hq
  have hbb : bb B = s.heap.size := by subst hB; rfl
  have hLB : bL B = L := by subst hB; rfl
  have hxB : bxs B = xs := by subst hB; rfl
  have X : mCx l B RL code 4 p s m #[Value.ref b] c := ⟨⟨hx, hb, hml, hown⟩, hgood, hWd⟩
  have hold : mHold B ((mT0 L, 0, 0), mI0 xs, fun _ _ => 0) s.heap := by
    refine ⟨fun k q h => ?_, ⟨fun i j p q h => ?_, fun k q h => ?_⟩, Nat.le_refl 2, ⟨by rw [hLB]; rfl, rfl⟩, fun j _ => by rw [hxB]; rfl, fun j _ => rfl⟩
    · simp [mWs, mT0, va_pl] at h
    · simp [mWs, mT0, va_pl] at h
    · simp [mWs, mT0, va_pl] at h
  have hl := lv_entry ([.ref b]) (n := 4) (Nat.le_of_ble_eq_true rfl)
  rw [lg_entry_eq]
  generalize (lg_sl ([.ref b]) ++ List.replicate (4 - (lg_sl ([.ref b])).length) Slot.unset).toArray = arr at hl ⊢
  have hhas : mHas B arr 4 [some (.ref 0), none, none, none] := by
    refine ⟨hl.1, hl.2.1, fun i v hi => ?_⟩
    match i, hi with
    | 0, hi =>
      cases hi
      have h1 := hl.2.2 (0, .ref b) List.mem_cons_self
      have h2 : mCv B (.ref 0) = .ref b := by subst hB; rfl
      rw [h2]
      exact h1
    | 1, hi => cases hi
    | 2, hi => cases hi
    | 3, hi => cases hi
    | i + 4, hi => simp at hi
  have hG := hWP (mG l B 4 p e (mRm 12 600000 7302250) s m #[Value.ref b] below meth c (lw_Z below #[Value.ref b] s)) (fun pc ls st h' q => by
    unfold mLk at q
    cases hf : tb_L_law.find? (fun q => q.1 == pc) with
    | none => rw [hf] at q; exact q.elim
    | some z =>
      rw [hf] at q
      have e1 : z.1 = pc := by have := List.find?_some hf; simpa using this
      have := sd_L_law l B p e s m b below meth c X hr hlocks hbb z (List.mem_of_find?_eq_some hf) ls st h' q
      rw [e1] at this
      exact this)
  exact hG arr s.heap [] hhas ⟨hold, by rw [hbb]; rfl, Nat.zero_le _, Nat.zero_le _⟩ va_S.rf
