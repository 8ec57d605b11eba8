theorem loC_congr {a : Nat} {v : Int32} : ∀ (i m : Nat) (I I' : Nat → Nat → Int32), (∀ y k, a + 12 ≤ y ∧ y ≤ a + 18 → I' y k = I y k) → ∀ y k, a + 12 ≤ y ∧ y ≤ a + 18 → (loC a v i m I').2 y k = (loC a v i m I).2 y k := by
  intro i
  induction i with
  | zero => intro m I I' h; exact h
  | succ i ih =>
    intro m I I' h
    unfold loC
    rw [h (a + 15) i (by omega)]
    by_cases e : I (a + 15) i = v
    · rw [if_pos e, if_pos e]
      refine ih (m - 1) _ _ (fun y k hy => ?_)
      unfold rmC
      rw [h y k hy, h y (k + 1) hy]
    · rw [if_neg e, if_neg e]; exact ih m _ _ h
theorem loM_congr {b : Nat} {v : Int32} : ∀ (i m : Nat) (I I' : Nat → Nat → Int32), i ≤ 12 → (∀ k, b ≤ k ∧ k < b + 239 → I' 330 k = I 330 k) → ∀ k, b ≤ k ∧ k < b + 239 → (loM b v i m I').2 330 k = (loM b v i m I).2 330 k := by
  intro i
  induction i with
  | zero => intro m I I' hi h; exact h
  | succ i ih =>
    intro m I I' hi h
    unfold loM
    rw [h (b + (56 + 6 * i + 1)) (by omega)]
    by_cases e : I 330 (b + (56 + 6 * i + 1)) = v
    · rw [if_pos e, if_pos e]
      refine ih (m - 1) _ _ (by omega) (fun k hk => ?_)
      by_cases h1 : k = b + 55
      · subst h1; rw [dpM_6, dpM_6]
      · by_cases h2 : b + (56 + 6 * i) ≤ k ∧ k < b + 122
        · rw [dpM_s h2, dpM_s h2, h (k + 6) (by omega)]
        · rw [dpM_ne (by omega), dpM_ne (by omega), h k hk]
    · rw [if_neg e, if_neg e]; exact ih m _ _ (by omega) h
theorem rP_lose {c c' : Nat → Nat → Int32} {f f' : Nat → Int32} {r q m tk ps : Nat} (h : rP6 c f (r + 1) q m tk ps) (hv : ∀ h, h < m → f (57 + 6 * h) ≠ nI r) (hc : ∀ off i, pAll off i = true → ¬ (off = 1 ∧ i = 4 ∨ off = 19 ∧ i = 5) → c' off i = c off i) (c0 : c' 1 4 = nI r) (cp : c' 19 5 = nI 0) (hf : ∀ i, i < 239 → ¬ (i = 0 ∨ i = 166) → f' i = f i) (f0 : f' 0 = nI r) (fp : f' 166 = nI 0) : rP c' f' := by
  obtain ⟨hLim, hPin, hSpa, hCro, hBar, hHol, hHan, hGes, hPos⟩ := h
  have hn := hLim.1
  have hHol : rHol c f r m := by
    refine ⟨hHol.1, hHol.2.1, hHol.2.2.1, fun h hh => ?_⟩
    obtain ⟨z, r1, r2, r3⟩ := hHol.2.2.2 h hh
    have g : (f (57 + 6 * h)).toInt ≠ (r : Int) := fun e => hv h hh (Int32.toInt_inj.mp (by rw [e, s_toI (by omega)]))
    exact ⟨z, r1, ⟨r2.1, by have := r2.2; omega⟩, r3⟩
  refine ⟨r, q, m, tk, 0, ⟨by omega, c0, f0, fun k hk => ?_⟩, rPin_congr (hc 1 5 (by decide) (by omega)) (hc 1 6 (by decide) (by omega)) (hf 25 (by omega) (by omega)) (hf 26 (by omega) (by omega)) (fun k hk => hf (19 + k) (by omega) (by omega)) hPin, rSpa_congr (hc 6 2 (by decide) (by omega)) (fun k hk => ⟨hc 7 k (pA_6 k hk).2.2.2.2.1 (by omega), hc 8 k (pA_6 k hk).2.2.2.2.2.1 (by omega)⟩) (fun i hi hi2 => hf i (by omega) (by omega)) hSpa, rCro_congr (hc 9 2 (by decide) (by omega)) (hc 9 3 (by decide) (by omega)) (hc 9 4 (by decide) (by omega)) (fun i hi hi2 => hf i (by omega) (by omega)) hCro, rBar_congr (fun k hk => ⟨hc 10 k (pA_6 k hk).2.2.2.2.2.2.1 (by omega), hc 11 k (pA_6 k hk).2.2.2.2.2.2.2 (by omega)⟩) (fun i hi hi2 => hf i (by omega) (by omega)) hBar, rHol_congr (hc 12 6 (by decide) (by omega)) (fun k hk => ⟨hc 13 k (pA_12 k hk).1 (by omega), hc 14 k (pA_12 k hk).2.1 (by omega), hc 15 k (pA_12 k hk).2.2.1 (by omega), hc 16 k (pA_12 k hk).2.2.2.1 (by omega), hc 17 k (pA_12 k hk).2.2.2.2.1 (by omega), hc 18 k (pA_12 k hk).2.2.2.2.2.1 (by omega)⟩) (fun i hi hi2 => hf i (by omega) (by omega)) hHol, rHan_congr (hc 0 5 (by decide) (by omega)) (hf 128 (by omega) (by omega)) hHan, rGes_congr (hc 19 4 (by decide) (by omega)) (fun k hk => ⟨hc 20 k (pA_12 k hk).2.2.2.2.2.2.1 (by omega), hc 21 k (pA_12 k hk).2.2.2.2.2.2.2.1 (by omega), hc 22 k (pA_12 k hk).2.2.2.2.2.2.2.2 (by omega)⟩) (fun i hi hi2 => hf i (by omega) (by omega)) hGes, ⟨Or.inl rfl, by omega, cp, fp, fun k hk => absurd hk (by omega)⟩⟩
  rw [hc 2 k (pA_6 k (by omega)).1 (by omega), hc 3 k (pA_6 k (by omega)).2.1 (by omega), hc 4 k (pA_6 k (by omega)).2.2.1 (by omega), hc 5 k (pA_6 k (by omega)).2.2.2.1 (by omega), hf (1 + k) (by omega) (by omega), hf (7 + k) (by omega) (by omega), hf (13 + k) (by omega) (by omega), hf (19 + k) (by omega) (by omega)]
  exact hLim.2.2.2 k (by omega)
