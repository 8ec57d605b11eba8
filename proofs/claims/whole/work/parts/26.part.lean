/-! ===== the parts of the relation, one by one ===== -/
section
variable {c c' : Nat → Nat → Int32} {f f' : Nat → Int32} {n q m tk ps : Nat}
theorem rLim_congr (h1 : c' 1 4 = c 1 4) (h2 : ∀ k, k < 6 → c' 2 k = c 2 k ∧ c' 3 k = c 3 k ∧ c' 4 k = c 4 k ∧ c' 5 k = c 5 k) (hf : ∀ i, i < 25 → f' i = f i) (h : rLim c f n) : rLim c' f' n := by
  obtain ⟨l1, l2, l3, l4⟩ := h
  refine ⟨l1, by rw [h1]; exact l2, by rw [hf _ (by omega)]; exact l3, fun k hk => ?_⟩
  obtain ⟨g1, g2, g3, g4⟩ := h2 k (by omega)
  rw [g1, g2, g3, g4, hf _ (by omega), hf _ (by omega), hf _ (by omega), hf _ (by omega)]
  exact l4 k hk
theorem rPin_up (h1 : c' 1 5 = c 1 5) (h2 : c' 1 6 = c 1 6) (h3 : f' 25 = f 25) (h4 : f' 26 = f 26) (hb : ∀ k, k < 6 → f' (19 + k) = f (19 + k) ∨ inR (f' (19 + k)) (-32) 31) (h : rPin c f) : rPin c' f' := by
  obtain ⟨g1, g2, g3, g4, g5⟩ := h
  refine ⟨by rw [h1, h3]; exact g1, by rw [h2, h4]; exact g2, by rw [h3]; exact g3, by rw [h4]; exact g4, fun k hk => ?_⟩
  rcases hb k hk with e | e
  · rw [e]; exact g5 k hk
  · exact ⟨e.1, Int.le_trans e.2 (by decide)⟩
theorem rPin_congr (h1 : c' 1 5 = c 1 5) (h2 : c' 1 6 = c 1 6) (h3 : f' 25 = f 25) (h4 : f' 26 = f 26) (hb : ∀ k, k < 6 → f' (19 + k) = f (19 + k)) (h : rPin c f) : rPin c' f' := rPin_up h1 h2 h3 h4 (fun k hk => Or.inl (hb k hk)) h
theorem rSpa_congr (h1 : c' 6 2 = c 6 2) (h2 : ∀ k, k < 6 → c' 7 k = c 7 k ∧ c' 8 k = c 8 k) (hf : ∀ i, 27 ≤ i → i < 40 → f' i = f i) (h : rSpa c f q) : rSpa c' f' q := by
  obtain ⟨l1, l2, l3⟩ := h
  have hq : q ≤ 6 := by rcases l2 with ⟨-, z⟩ | ⟨-, z⟩ <;> omega
  refine ⟨by rw [h1, hf _ (by omega) (by omega)]; exact l1, by rw [hf _ (by omega) (by omega)]; exact l2, fun k hk => ?_⟩
  obtain ⟨g1, g2⟩ := h2 k (by omega)
  rw [g1, g2, hf _ (by omega) (by omega), hf _ (by omega) (by omega)]
  exact l3 k hk
theorem rCro_congr (h1 : c' 9 2 = c 9 2) (h2 : c' 9 3 = c 9 3) (h3 : c' 9 4 = c 9 4) (hf : ∀ i, 40 ≤ i → i < 43 → f' i = f i) (h : rCro c f) : rCro c' f' := by
  unfold rCro; rw [h1, h2, h3, hf _ (by omega) (by omega), hf _ (by omega) (by omega), hf _ (by omega) (by omega)]; exact h
theorem rBar_congr (h2 : ∀ k, k < 6 → c' 10 k = c 10 k ∧ c' 11 k = c 11 k) (hf : ∀ i, 43 ≤ i → i < 55 → f' i = f i) (h : rBar c f) : rBar c' f' := by
  intro k hk
  obtain ⟨g1, g2⟩ := h2 k (by omega)
  rw [g1, g2, hf _ (by omega) (by omega), hf _ (by omega) (by omega)]
  exact h k hk
theorem rHol_congr (h1 : c' 12 6 = c 12 6) (h2 : ∀ k, k < 12 → c' 13 k = c 13 k ∧ c' 14 k = c 14 k ∧ c' 15 k = c 15 k ∧ c' 16 k = c 16 k ∧ c' 17 k = c 17 k ∧ c' 18 k = c 18 k) (hf : ∀ i, 55 ≤ i → i < 128 → f' i = f i) (h : rHol c f n m) : rHol c' f' n m := by
  obtain ⟨l1, l2, l3, l4⟩ := h
  refine ⟨l1, by rw [h1]; exact l2, by rw [hf _ (by omega) (by omega)]; exact l3, fun k hk => ?_⟩
  obtain ⟨g1, g2, g3, g4, g5, g6⟩ := h2 k (by omega)
  rw [g1, g2, g3, g4, g5, g6, hf _ (by omega) (by omega), hf _ (by omega) (by omega), hf _ (by omega) (by omega), hf _ (by omega) (by omega), hf _ (by omega) (by omega), hf _ (by omega) (by omega)]
  exact l4 k hk
theorem rHan_congr (h1 : c' 0 5 = c 0 5) (h2 : f' 128 = f 128) (h : rHan c f) : rHan c' f' := by
  unfold rHan; rw [h1, h2]; exact h
theorem rGes_congr (h1 : c' 19 4 = c 19 4) (h2 : ∀ k, k < 12 → c' 20 k = c 20 k ∧ c' 21 k = c 21 k ∧ c' 22 k = c 22 k) (hf : ∀ i, 129 ≤ i → i < 166 → f' i = f i) (h : rGes c f tk) : rGes c' f' tk := by
  obtain ⟨l1, l2, l3, l4⟩ := h
  refine ⟨l1, by rw [h1]; exact l2, by rw [hf _ (by omega) (by omega)]; exact l3, fun k hk => ?_⟩
  obtain ⟨g1, g2, g3⟩ := h2 k (by omega)
  rw [g1, g2, g3, hf _ (by omega) (by omega), hf _ (by omega) (by omega), hf _ (by omega) (by omega)]
  exact l4 k hk
theorem rPos_congr (h1 : c' 19 5 = c 19 5) (h2 : ∀ k, k < 72 → c' 23 k = c 23 k) (hf : ∀ i, 166 ≤ i → i < 239 → f' i = f i) (h : rPos c f n tk ps) : rPos c' f' n tk ps := by
  obtain ⟨o1, o1', o2, o3, o4⟩ := h
  refine ⟨o1, o1', by rw [h1]; exact o2, by rw [hf _ (by omega) (by omega)]; exact o3, fun k hk i hi => ?_⟩
  rw [h2 _ (by omega), hf _ (by omega) (by omega)]
  exact o4 k hk i hi
end
/-! ===== a kept change, put together ===== -/
theorem kpM_ne {I : Nat → Nat → Int32} {kp x j : Nat} (h1 : x ≠ 331) (h2 : x ≠ 329 ∨ j ≠ 2) : kpM I kp x j = I x j := by
  have g : ∀ (J : Nat → Nat → Int32) v, mUI J 329 2 v x j = J x j := fun J v => by
    rcases h2 with h | h
    · exact mUI_ne h
    · exact mUI_nk h
  unfold kpM
  split
  · rw [g]
    unfold bCopy
    rw [if_neg (by omega), g]
    unfold bShift
    rw [if_neg (by omega)]
  · rw [g]
    unfold bCopy
    rw [if_neg (by omega)]
theorem kpM_329 {I : Nat → Nat → Int32} {kp : Nat} (hk : kp ≤ 5) : kpM I kp 329 2 = nI (min (kp + 1) 5) := by
  unfold kpM
  split
  · rename_i h; subst h; exact mUI_same
  · rw [mUI_same, Nat.min_eq_left (by omega)]
theorem kpM_congr {I J : Nat → Nat → Int32} {kp : Nat} (h1 : ∀ j, J 330 j = I 330 j) (h2 : ∀ j, J 331 j = I 331 j) (j : Nat) : kpM J kp 331 j = kpM I kp 331 j := by
  unfold kpM
  split
  · rw [mUI_ne (by decide), mUI_ne (by decide)]
    unfold bCopy bShift
    simp only [mUI_ne (show (330 : Nat) ≠ 329 by decide), mUI_ne (show (331 : Nat) ≠ 329 by decide), h1, h2]
  · rw [mUI_ne (by decide), mUI_ne (by decide)]
    unfold bCopy
    simp only [h1, h2]
/-- keepC: what the class's keep makes of the ints -/
def kpC (I : Nat → Nat → Int32) (kp nx : Nat) : Nat → Nat → Int32 := mUI (mUI (hKeep I nx) 51 2 (nI ((nx + 1) % 5))) 51 3 (nI (min (kp + 1) 5))
theorem kpC_ne {I : Nat → Nat → Int32} {kp nx x j : Nat} (hn : nx < 5) (h : x < 51 ∨ 294 ≤ x) : kpC I kp nx x j = I x j := by
  unfold kpC
  rw [mUI_ne (by omega), mUI_ne (by omega), hKeep_other (by unfold hF; omega)]
theorem kpC_h {I : Nat → Nat → Int32} {kp nx x j : Nat} (h : 54 ≤ x) : kpC I kp nx x j = hKeep I nx x j := by
  unfold kpC
  rw [mUI_ne (by omega), mUI_ne (by omega)]
theorem kpC_2 {I : Nat → Nat → Int32} {kp nx : Nat} : kpC I kp nx 51 2 = nI ((nx + 1) % 5) := by
  unfold kpC
  rw [mUI_nk (by decide), mUI_same]
theorem kpC_3 {I : Nat → Nat → Int32} {kp nx : Nat} : kpC I kp nx 51 3 = nI (min (kp + 1) 5) := mUI_same
/-- JC: the class's ints behind its call, JM: all behind both calls -/
theorem rAll_keep {n : Nat} {xs : Nat → Int32} {k : Nat} {I JM : Nat → Nat → Int32} {L L' : Nat → Nat → Int64} {kp nx : Nat} (hR : rAll n xs k I L) (hH : rH I kp nx) (h1 : ∀ x j, 54 ≤ x → x < 294 → JM x j = hKeep I nx x j) (h2 : JM 51 2 = nI ((nx + 1) % 5)) (h3 : JM 51 3 = nI (min (kp + 1) 5)) (h4 : JM 329 2 = nI (min (kp + 1) 5)) (h5 : ∀ j, JM 331 j = kpM I kp 331 j) (hl : rL JM) (hc : rC JM L' (k + 1)) (ht : ∀ x j, x = 0 ∨ x = 1 ∨ x = 332 → JM x j = I x j) : rAll n xs (k + 1) JM L' := by
  obtain ⟨g1, g2, g3, g4, g5⟩ := hR
  refine ⟨hl, ⟨_, _, rH_keep hH g1 h1 h2 h3 h4 h5⟩, hc, fun j hj => ?_, fun j hj => ?_⟩
  · rw [ht _ _ (Or.inr (Or.inr rfl)), ht _ _ (Or.inr (Or.inl rfl))]; exact g4 j hj
  · rw [ht _ _ (Or.inl rfl)]; exact g5 j hj
theorem rC_next {I J : Nat → Nat → Int32} {L L' : Nat → Nat → Int64} {k : Nat} (h : rC I L k) (h1 : J 329 3 = I 329 3) (h2 : L' 2 10 = L 2 10) : rC J L' (k + 1) := by
  obtain ⟨r, g1, g2, g3⟩ := h
  exact ⟨r, by omega, by rw [h1]; exact g2, by rw [h2]; exact g3⟩
/-- a call that changes nothing that counts -/
theorem rAll_same {n : Nat} {xs : Nat → Int32} {k : Nat} {I J : Nat → Nat → Int32} {L L' : Nat → Nat → Int64} (hR : rAll n xs k I L) (h : ∀ x j, (x < 294 ∨ x = 330 ∨ x = 331 ∨ x = 332) → J x j = I x j) (h2 : J 329 2 = I 329 2) (h3 : J 329 3 = I 329 3) (hL : L' 2 10 = L 2 10) : rAll n xs (k + 1) J L' := by
  obtain ⟨⟨g1, g1'⟩, ⟨kp, nx, g2⟩, g3, g4, g5⟩ := hR
  have fb : ∀ a off j, a + 24 ≤ 294 → pAll off j = true → blk J a off j = blk I a off j := fun a off j ha hp => h _ _ (Or.inl (by have := pAll_lt hp; omega))
  refine ⟨⟨rP_congr (fun off j hp => fb 3 off j (by decide) hp) (fun i _ => h _ _ (Or.inr (Or.inl rfl))) g1, rP_congr (fun off j hp => fb 27 off j (by decide) hp) (fun i _ => h _ _ (Or.inr (Or.inl rfl))) g1'⟩, ⟨kp, nx, rH_frame g2 (fun x j _ hx => h _ _ (Or.inl hx)) (h _ _ (Or.inl (by decide))) (h _ _ (Or.inl (by decide))) h2 (fun j => h _ _ (Or.inr (Or.inr (Or.inl rfl))))⟩, rC_next g3 h3 hL, fun j hj => ?_, fun j hj => ?_⟩
  · rw [h _ _ (Or.inr (Or.inr (Or.inr rfl))), h _ _ (Or.inl (by decide))]; exact g4 j hj
  · rw [h _ _ (Or.inl (by decide))]; exact g5 j hj
def opOK (n : Nat) (xs : Nat → Int32) (CX CM : mCo) (as : List Value) : Prop := ∀ (k : Nat) (I : Nat → Nat → Int32) (L : Nat → Nat → Int64), k < 512 → rAll n xs k I L → CX (.ref 2 :: as) (tt n, I, L) (fun r h1 => h1.1 = tt n ∧ ∃ v, r = some (.long v) ∧ CM (.ref 329 :: as) (tt n, h1.2) (fun r' h2 => h2.1 = tt n ∧ r' = some (.long v) ∧ rAll n xs (k + 1) h2.2.1 h2.2.2))
