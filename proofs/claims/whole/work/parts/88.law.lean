/-! ===== the law's loop and its start ===== -/
theorem law_step {Q : mQo} {n k c s : Nat} {xs : Nat → Int32} {I : Nat → Nat → Int32} {L : Nat → Nat → Int64} (hQ : ∀ h, Q (some (.int 1)) h) (hn : n ≤ 3072) (hk : 6 * k ≤ n) (hR : rAll n xs k I L) (h : 6 * k + 6 ≤ n → ∀ I' L', rAll n xs (k + 1) I' L' → mWP tb_L_law Q 18 [some (.ref 0), some (.ref 2), some (.ref 329), some (.int (nI (6 * (k + 1))))] [] ((mT1 n, c, s), I', L')) : mWP tb_L_law Q 18 [some (.ref 0), some (.ref 2), some (.ref 329), some (.int (nI (6 * k)))] [] ((mT1 n, c, s), I, L) := by
  obtain ⟨⟨t0, l0⟩, t2, t3⟩ := tgL (n := n) (c := c) (s := s)
  rw [e_L_law_18, e_L_law_19, e_L_law_20, t0, l0, e_L_law_21, e_L_law_23, e_L_law_24]
  refine ⟨by omega, fun _ => ?_, fun hx => ?_⟩
  · rw [e_L_law_1466, e_L_law_1467]
    exact ⟨Or.inr rfl, hQ _⟩
  · have hx : ¬ (nI n - nI 6 < nI (6 * k)) := hx
    rw [lt_6 hn (by omega)] at hx
    have hi : 6 * k + 6 ≤ n := by omega
    have nx : ∀ I' L', rAll n xs (k + 1) I' L' → mWP tb_L_law Q 1460 [some (.ref 0), some (.ref 2), some (.ref 329), some (.int (nI (6 * k)))] [] ((mT1 n, c, s), I', L') := fun I' L' hR' => by
      rw [e_L_law_1460, e_L_law_1463, mNl_r, show nI (6 * k) + 6 = nI (6 * (k + 1)) from nI_add _ _]
      exact h hi I' L' hR'
    have hk5 : k < 512 := by omega
    rw [e_L_law_27, e_L_law_28, e_L_law_29, t0, l0]
    refine ⟨rfl, ?_, ?_⟩
    · rw [s_in (by omega)]; omega
    rw [e_L_law_30, e_L_law_32, e_L_law_33]
    refine ⟨?_, fun _ => nx _ _ (rAll_same hR (fun _ _ _ => rfl) rfl rfl rfl)⟩
    exact List.forall_mem_cons.mpr ⟨fun _ => lc_0 hn hi hk5 hR nx, List.forall_mem_cons.mpr ⟨fun _ => lc_1 hn hi hk5 hR nx, List.forall_mem_cons.mpr ⟨fun _ => lc_2 hn hi hk5 hR nx, List.forall_mem_cons.mpr ⟨fun _ => lc_3 hn hi hk5 hR nx, List.forall_mem_cons.mpr ⟨fun _ => lc_4 hn hi hk5 hR nx, List.forall_mem_cons.mpr ⟨fun _ => lc_5 hn hi hk5 hR nx, List.forall_mem_cons.mpr ⟨fun _ => lc_6 hn hi hk5 hR nx, List.forall_mem_cons.mpr ⟨fun _ => lc_7 hn hi hk5 hR nx, List.forall_mem_cons.mpr ⟨fun _ => lc_8 hn hi hk5 hR nx, List.forall_mem_cons.mpr ⟨fun _ => lc_9 hn hi hk5 hR nx, List.forall_mem_cons.mpr ⟨fun _ => lc_10 hn hi hk5 hR nx, List.forall_mem_cons.mpr ⟨fun _ => lc_11 hn hi hk5 hR nx, List.forall_mem_cons.mpr ⟨fun _ => lc_12 hn hi hk5 hR nx, List.forall_mem_cons.mpr ⟨fun _ => lc_13 hn hi hk5 hR nx, List.forall_mem_cons.mpr ⟨fun _ => lc_14 hn hi hk5 hR nx, List.forall_mem_cons.mpr ⟨fun _ => lc_15 hn hi hk5 hR nx, List.forall_mem_cons.mpr ⟨fun _ => lc_16 hn hi hk5 hR nx, List.forall_mem_cons.mpr ⟨fun _ => lc_17 hn hi hk5 hR nx, List.forall_mem_cons.mpr ⟨fun _ => lc_18 hn hi hk5 hR nx, List.forall_mem_cons.mpr ⟨fun _ => lc_19 hn hi hk5 hR nx, List.forall_mem_cons.mpr ⟨fun _ => lc_20 hn hi hk5 hR nx, List.forall_mem_cons.mpr ⟨fun _ => lc_21 hn hi hk5 hR nx, List.forall_mem_cons.mpr ⟨fun _ => lc_22 hn hi hk5 hR nx, List.forall_mem_cons.mpr ⟨fun _ => lc_23 hn hi hk5 hR nx, List.forall_mem_cons.mpr ⟨fun _ => lc_24 hn hi hk5 hR nx, List.forall_mem_cons.mpr ⟨fun _ => lc_25 hn hi hk5 hR nx, List.forall_mem_cons.mpr ⟨fun _ => lc_26 hn hi hk5 hR nx, List.forall_mem_cons.mpr ⟨fun _ => lc_27 hn hi hk5 hR nx, List.forall_mem_cons.mpr ⟨fun _ => lc_28 hn hi hk5 hR nx, List.forall_mem_cons.mpr ⟨fun _ => lc_29 hn hi hk5 hR nx, List.forall_mem_cons.mpr ⟨fun _ => lc_30 hn hi hk5 hR nx, List.forall_mem_cons.mpr ⟨fun _ => lc_31 hn hi hk5 hR nx, List.forall_mem_cons.mpr ⟨fun _ => lc_32 hn hi hk5 hR nx, List.forall_mem_cons.mpr ⟨fun _ => lc_33 hn hi hk5 hR nx, fun _ h => absurd h List.not_mem_nil⟩⟩⟩⟩⟩⟩⟩⟩⟩⟩⟩⟩⟩⟩⟩⟩⟩⟩⟩⟩⟩⟩⟩⟩⟩⟩⟩⟩⟩⟩⟩⟩⟩⟩
theorem law_loop {Q : mQo} {n c s : Nat} {xs : Nat → Int32} (hQ : ∀ h, Q (some (.int 1)) h) (hn : n ≤ 3072) : ∀ (r k : Nat) (I : Nat → Nat → Int32) (L : Nat → Nat → Int64), n < 6 * k + 6 * r + 6 → 6 * k ≤ n → rAll n xs k I L → mWP tb_L_law Q 18 [some (.ref 0), some (.ref 2), some (.ref 329), some (.int (nI (6 * k)))] [] ((mT1 n, c, s), I, L) := by
  intro r
  induction r with
  | zero => exact fun k I L h1 h2 hR => law_step hQ hn h2 hR (fun h => absurd h (by omega))
  | succ r ih => exact fun k I L h1 h2 hR => law_step hQ hn h2 hR (fun h I' L' hR' => ih (k + 1) I' L' (by omega) (by omega) hR')
theorem law_body {n : Nat} {xs : Nat → Int32} (hn : n ≤ 3072) : mWP tb_L_law (fun r _ => r = some (.int 1)) 0 [some (.ref 0), none, none, none] [] ((mT0 n, 0, 0), mI0 xs, fun _ _ => 0) := by
  rw [e_L_law_0]
  refine ⟨⟨by decide, by decide⟩, ?_⟩
  rw [e_L_law_3, e_L_law_4]
  refine ⟨⟨show 1 ≤ 8 by decide, by decide, by decide⟩, ?_⟩
  refine i_X10 (N := 2) rfl (fun I1 L1 f1 hp hL1 => ⟨rfl, ⟨rfl, Nat.le_refl _⟩, ?_⟩)
  obtain ⟨p1, p2, b2, b3⟩ := hp
  show mWP tb_L_law _ 7 [some (.ref 0), none, none, none] (.ref 2 :: []) ((mT0 n ++ g10 2, 327, 3385), I1, L1)
  rw [e_L_law_7, e_L_law_8, lenS]
  refine ⟨⟨by decide, by decide⟩, ?_⟩
  rw [e_L_law_11, e_L_law_12]
  refine ⟨⟨by decide, by decide, by decide⟩, ?_⟩
  refine i_X11 lenS allT (fun I2 L2 f2 h330 h332 fL => ⟨rfl, ⟨rfl, Nat.le_refl _⟩, ?_⟩)
  show mWP tb_L_law _ 15 [mNl (some (.ref 0)), some (.ref 2), none, none] (.ref 329 :: []) ((mT1 n, 338, 6381), I2, L2)
  rw [e_L_law_15, e_L_law_16, e_L_law_17, mNl_r, mNl_r, mNl_r, show (0 : Int32) = nI (6 * 0) from rfl]
  have low : ∀ x j, x < 329 → I2 x j = I1 x j := fun x j hx => by
    rw [f2 x j (by omega)]
    exact zI_n (by omega)
  have z329 : ∀ j, I2 329 j = 0 := fun j => by
    rw [f2 329 j (by omega)]
    exact zI_y rfl
  have e0 : ∀ j, I2 0 j = xs j := fun j => by
    rw [low 0 j (by omega), f1 0 j (by omega)]
    rfl
  have e1 : ∀ j, I2 1 j = mSn j := fun j => by
    rw [low 1 j (by omega), f1 1 j (by omega)]
    rfl
  refine law_loop (xs := xs) (fun _ => rfl) hn 512 0 I2 L2 (by omega) (by omega) ?_
  refine ⟨⟨rP_0 (pS_c p1 (fun x j _ hx => low x j (by omega))) (fun i hi => ?_), rP_0 (pS_c p2 (fun x j _ hx => low x j (by omega))) (fun i hi => ?_)⟩, ⟨0, 0, ⟨by decide, by decide⟩, ⟨?_, ?_, z329 2⟩, fun j hj => absurd hj (by omega)⟩, ⟨0, by decide, z329 3, ?_⟩, fun j hj => ⟨h332 j hj, e1 j⟩, fun j _ => e0 j⟩
  · rw [h330]
    split <;> split <;> first | rfl | omega | (split <;> first | rfl | omega | (split <;> first | rfl | omega))
  · rw [h330]
    split <;> split <;> first | rfl | omega | (split <;> first | rfl | omega | (split <;> first | rfl | omega))
  · rw [low 51 2 (by omega)]; exact b2
  · rw [low 51 3 (by omega)]; exact b3
  · rw [fL 2 10 (by omega)]
    show (zL L1 329) 2 10 = _
    rw [zL_n (by omega), hL1]
    rfl
theorem whole_start {p : Program} {e : Env} {s : State} {m : MethodId} {below : List Frame} {meth : Method} {c : Code} (l : Launch) (hflags : l.flags = flags0) {b L : Nat} {xs : Nat → Int32} (hL : L ≤ 3072) (C0 : lw_At p s m meth c b L xs) : W p l e room_1 s m #[Value.ref b] below meth c s.heap [] 0 0 (lw_Z below #[Value.ref b] s) (entryFrame m ([Value.ref b] : List Value).toArray 4) := law_start l C0 (law_body hL)
