/-! ===== the class's cells and the reference's row: one state ===== -/
def blk (I : Nat → Nat → Int32) (a : Nat) : Nat → Nat → Int32 := fun off j => I (a + off) j
def row (I : Nat → Nat → Int32) (x b : Nat) : Nat → Int32 := fun i => I x (b + i)
def inR (x : Int32) (lo hi : Int) : Prop := lo ≤ x.toInt ∧ x.toInt ≤ hi
def rLim (c : Nat → Nat → Int32) (f : Nat → Int32) (n : Nat) : Prop := n ≤ 6 ∧ c 1 4 = nI n ∧ f 0 = nI n ∧ ∀ k, k < n → c 2 k = f (1 + k) ∧ c 3 k = f (7 + k) ∧ c 4 k = f (13 + k) ∧ c 5 k = f (19 + k) ∧ inR (f (1 + k)) 1 100 ∧ inR (f (7 + k)) 0 50 ∧ inR (f (13 + k)) (-1) ((k : Int) - 1) ∧ inR (f (19 + k)) (-32) 31
def rPin (c : Nat → Nat → Int32) (f : Nat → Int32) : Prop := c 1 5 = f 25 ∧ c 1 6 = f 26 ∧ inR (f 25) (-300) 300 ∧ inR (f 26) (-300) 300 ∧ ∀ k, k < 6 → inR (f (19 + k)) (-32) 32
def rSpa (c : Nat → Nat → Int32) (f : Nat → Int32) (q : Nat) : Prop := c 6 2 = f 27 ∧ (f 27 = -1 ∧ q = 0 ∨ f 27 = nI q ∧ q ≤ 6) ∧ ∀ k, k < q → c 7 k = f (28 + 2 * k) ∧ c 8 k = f (29 + 2 * k) ∧ inR (f (28 + 2 * k)) (-32) (f (29 + 2 * k)).toInt ∧ inR (f (29 + 2 * k)) (-32) 31
def rCro (c : Nat → Nat → Int32) (f : Nat → Int32) : Prop := c 9 2 = f 40 ∧ c 9 3 = f 41 ∧ c 9 4 = f 42 ∧ inR (f 40) (-300) 300 ∧ inR (f 41) (-300) 300 ∧ inR (f 42) (-32) 31
def rBar (c : Nat → Nat → Int32) (f : Nat → Int32) : Prop := ∀ k, k < 6 → c 10 k = f (43 + 2 * k) ∧ c 11 k = f (44 + 2 * k) ∧ inR (f (43 + 2 * k)) (-100) 100 ∧ inR (f (44 + 2 * k)) (-100) 100
def rHol (c : Nat → Nat → Int32) (f : Nat → Int32) (n m : Nat) : Prop := m ≤ 12 ∧ c 12 6 = nI m ∧ f 55 = nI m ∧ ∀ h, h < m → (c 13 h = f (56 + 6 * h) ∧ c 15 h = f (57 + 6 * h) ∧ c 16 h = f (58 + 6 * h) ∧ c 14 h = f (59 + 6 * h) ∧ c 17 h = f (60 + 6 * h) ∧ c 18 h = f (61 + 6 * h)) ∧ inR (f (56 + 6 * h)) 0 4 ∧ inR (f (57 + 6 * h)) 0 ((n : Int) - 1) ∧ inR (f (58 + 6 * h)) 0 100 ∧ inR (f (59 + 6 * h)) 0 5 ∧ inR (f (60 + 6 * h)) 0 500 ∧ inR (f (61 + 6 * h)) 0 (f (60 + 6 * h)).toInt
def rHan (c : Nat → Nat → Int32) (f : Nat → Int32) : Prop := c 0 5 = f 128 ∧ (f 128 = 0 ∨ f 128 = 1)
def rGes (c : Nat → Nat → Int32) (f : Nat → Int32) (tk : Nat) : Prop := tk ≤ 12 ∧ c 19 4 = nI tk ∧ f 129 = nI tk ∧ ∀ k, k < tk → c 20 k = f (130 + 3 * k) ∧ c 21 k = f (131 + 3 * k) ∧ c 22 k = f (132 + 3 * k) ∧ inR (f (130 + 3 * k)) (-300) 300 ∧ inR (f (131 + 3 * k)) (-300) 300 ∧ inR (f (132 + 3 * k)) (-32) 31
def rPos (c : Nat → Nat → Int32) (f : Nat → Int32) (n tk ps : Nat) : Prop := (ps = 0 ∨ ps = tk) ∧ ps ≤ 12 ∧ c 19 5 = nI ps ∧ f 166 = nI ps ∧ ∀ k, k < ps → ∀ i, i < 6 → (i < n → c 23 (6 * k + i) = f (167 + 6 * k + i)) ∧ (n ≤ i → c 23 (6 * k + i) = 0) ∧ (i < n → inR (f (167 + 6 * k + i)) (-32) 31)
def rP6 (c : Nat → Nat → Int32) (f : Nat → Int32) (n q m tk ps : Nat) : Prop := rLim c f n ∧ rPin c f ∧ rSpa c f q ∧ rCro c f ∧ rBar c f ∧ rHol c f n m ∧ rHan c f ∧ rGes c f tk ∧ rPos c f n tk ps
def rP (c : Nat → Nat → Int32) (f : Nat → Int32) : Prop := ∃ n q m tk ps, rP6 c f n q m tk ps
/-! what of a block is read: pAll -/
theorem pA_1 : pAll 1 4 = true ∧ pAll 1 5 = true ∧ pAll 1 6 = true ∧ pAll 6 2 = true ∧ pAll 9 2 = true ∧ pAll 9 3 = true ∧ pAll 9 4 = true ∧ pAll 12 6 = true ∧ pAll 19 4 = true ∧ pAll 19 5 = true ∧ pAll 0 5 = true := by decide
theorem pA_6 : ∀ k, k < 6 → pAll 2 k = true ∧ pAll 3 k = true ∧ pAll 4 k = true ∧ pAll 5 k = true ∧ pAll 7 k = true ∧ pAll 8 k = true ∧ pAll 10 k = true ∧ pAll 11 k = true := by decide
theorem pA_12 : ∀ k, k < 12 → pAll 13 k = true ∧ pAll 14 k = true ∧ pAll 15 k = true ∧ pAll 16 k = true ∧ pAll 17 k = true ∧ pAll 18 k = true ∧ pAll 20 k = true ∧ pAll 21 k = true ∧ pAll 22 k = true := by decide
theorem pA_72 : ∀ k, k < 72 → pAll 23 k = true := by decide
theorem rP6_congr {c c' : Nat → Nat → Int32} {f f' : Nat → Int32} {n q m tk ps : Nat} (hc : ∀ off j, pAll off j = true → c' off j = c off j) (hf : ∀ i, i < 239 → f' i = f i) (h : rP6 c f n q m tk ps) : rP6 c' f' n q m tk ps := by
  obtain ⟨p1, p2, p3, p4, p5, p6, p7, p8, p9, p10, p11⟩ := pA_1
  obtain ⟨⟨l1, l2, l3, l4⟩, ⟨a1, a2, a3, a4, a5⟩, ⟨s1, s2, s3⟩, ⟨x1, x2, x3, x4, x5, x6⟩, b1, ⟨h1, h2, h3, h4⟩, ⟨d1, d2⟩, ⟨g1, g2, g3, g4⟩, ⟨o1, o1', o2, o3, o4⟩⟩ := h
  have hq : q ≤ 6 := by rcases s2 with ⟨-, z⟩ | ⟨-, z⟩ <;> omega
  refine ⟨⟨l1, by rw [hc _ _ p1]; exact l2, by rw [hf _ (by omega)]; exact l3, fun k hk => ?_⟩, ⟨by rw [hc _ _ p2, hf _ (by omega)]; exact a1, by rw [hc _ _ p3, hf _ (by omega)]; exact a2, by rw [hf _ (by omega)]; exact a3, by rw [hf _ (by omega)]; exact a4, fun k hk => by rw [hf _ (by omega)]; exact a5 k hk⟩, ⟨by rw [hc _ _ p4, hf _ (by omega)]; exact s1, by rw [hf _ (by omega)]; exact s2, fun k hk => ?_⟩, ⟨by rw [hc _ _ p5, hf _ (by omega)]; exact x1, by rw [hc _ _ p6, hf _ (by omega)]; exact x2, by rw [hc _ _ p7, hf _ (by omega)]; exact x3, by rw [hf _ (by omega)]; exact x4, by rw [hf _ (by omega)]; exact x5, by rw [hf _ (by omega)]; exact x6⟩, fun k hk => ?_, ⟨h1, by rw [hc _ _ p8]; exact h2, by rw [hf _ (by omega)]; exact h3, fun k hk => ?_⟩, ⟨by rw [hc _ _ p11, hf _ (by omega)]; exact d1, by rw [hf _ (by omega)]; exact d2⟩, ⟨g1, by rw [hc _ _ p9]; exact g2, by rw [hf _ (by omega)]; exact g3, fun k hk => ?_⟩, ⟨o1, o1', by rw [hc _ _ p10]; exact o2, by rw [hf _ (by omega)]; exact o3, fun k hk i hi => ?_⟩⟩
  · obtain ⟨q1, q2, q3, q4, -⟩ := pA_6 k (by omega)
    rw [hc _ _ q1, hc _ _ q2, hc _ _ q3, hc _ _ q4, hf _ (by omega), hf _ (by omega), hf _ (by omega), hf _ (by omega)]
    exact l4 k hk
  · obtain ⟨-, -, -, -, q5, q6, -⟩ := pA_6 k (by omega)
    rw [hc _ _ q5, hc _ _ q6, hf _ (by omega), hf _ (by omega)]
    exact s3 k hk
  · obtain ⟨-, -, -, -, -, -, q7, q8⟩ := pA_6 k hk
    rw [hc _ _ q7, hc _ _ q8, hf _ (by omega), hf _ (by omega)]
    exact b1 k hk
  · obtain ⟨q1, q2, q3, q4, q5, q6, -⟩ := pA_12 k (by omega)
    rw [hc _ _ q1, hc _ _ q2, hc _ _ q3, hc _ _ q4, hc _ _ q5, hc _ _ q6, hf _ (by omega), hf _ (by omega), hf _ (by omega), hf _ (by omega), hf _ (by omega), hf _ (by omega)]
    exact h4 k hk
  · obtain ⟨-, -, -, -, -, -, q7, q8, q9⟩ := pA_12 k (by omega)
    rw [hc _ _ q7, hc _ _ q8, hc _ _ q9, hf _ (by omega), hf _ (by omega), hf _ (by omega)]
    exact g4 k hk
  · rw [hc _ _ (pA_72 _ (by omega)), hf _ (by omega)]
    exact o4 k hk i hi
theorem rP_congr {c c' : Nat → Nat → Int32} {f f' : Nat → Int32} (hc : ∀ off j, pAll off j = true → c' off j = c off j) (hf : ∀ i, i < 239 → f' i = f i) (h : rP c f) : rP c' f' := by
  obtain ⟨n, q, m, tk, ps, h⟩ := h
  exact ⟨n, q, m, tk, ps, rP6_congr hc hf h⟩
def rL (I : Nat → Nat → Int32) : Prop := rP (blk I 3) (row I 330 0) ∧ rP (blk I 27) (row I 330 239)
def rH (I : Nat → Nat → Int32) (kp nx : Nat) : Prop := (kp ≤ 5 ∧ nx < 5) ∧ (I 51 2 = nI nx ∧ I 51 3 = nI kp ∧ I 329 2 = nI kp) ∧ ∀ j, j < kp → rP (blk I (hF ((nx + 5 - kp + j) % 5))) (row I 331 (478 * j)) ∧ rP (blk I (hS ((nx + 5 - kp + j) % 5))) (row I 331 (478 * j + 239))
def rC (I : Nat → Nat → Int32) (L : Nat → Nat → Int64) (k : Nat) : Prop := ∃ r, r ≤ 300 * k ∧ I 329 3 = nI r ∧ L 2 10 = (nI r).toInt64
def rT (n : Nat) (xs : Nat → Int32) (I : Nat → Nat → Int32) : Prop := (∀ j, j < 64 → I 332 j = mSn j ∧ I 1 j = mSn j) ∧ ∀ j, j < n → I 0 j = xs j
def rAll (n : Nat) (xs : Nat → Int32) (k : Nat) (I : Nat → Nat → Int32) (L : Nat → Nat → Int64) : Prop := rL I ∧ (∃ kp nx, rH I kp nx) ∧ rC I L k ∧ rT n xs I
theorem blk_bcU {I : Nat → Nat → Int32} {a b off j : Nat} (hp : pAll off j = true) (ho : off < 24) : blk (bcU I a b pAll) a off j = blk I b off j := by
  unfold blk bcU
  rw [if_pos ⟨by omega, by omega, by rw [show a + off - a = off by omega]; exact hp⟩, show a + off - a = off by omega]
theorem pAll_lt : ∀ {off j : Nat}, pAll off j = true → off < 24 := by
  intro off j h
  rcases Nat.lt_or_ge off 24 with z | z
  · exact z
  · exfalso
    have e : ∀ k, k < 24 → (off == k) = false := fun k hk => by simp; omega
    simp [pAll, pFld, pRow, e] at h
/-- history behind a change that was kept: what was laid down is what was -/
theorem rH_keep {I I' : Nat → Nat → Int32} {kp nx : Nat} (h : rH I kp nx) (hl : rL I) (h1 : ∀ x j, 54 ≤ x → x < 294 → I' x j = hKeep I nx x j) (h2 : I' 51 2 = nI ((nx + 1) % 5)) (h3 : I' 51 3 = nI (min (kp + 1) 5)) (h4 : I' 329 2 = nI (min (kp + 1) 5)) (h5 : ∀ j, I' 331 j = kpM I kp 331 j) : rH I' (min (kp + 1) 5) ((nx + 1) % 5) := by
  obtain ⟨⟨k1, k2⟩, -, hh⟩ := h
  refine ⟨⟨by omega, Nat.mod_lt _ (by decide)⟩, ⟨h2, h3, h4⟩, fun j hj => ?_⟩
  -- the newest, or an older one
  have hM : ∀ i, i < 478 → I' 331 (478 * j + i) = if j = min kp 4 then I 330 i else if kp = 5 then I 331 (478 * (j + 1) + i) else I 331 (478 * j + i) := by
    intro i hi
    rw [h5]
    unfold kpM
    by_cases e5 : kp = 5
    · rw [if_pos e5, mUI_ne (by decide)]
      unfold bCopy
      by_cases ej : j = 4
      · rw [if_pos ⟨rfl, by omega, by omega⟩, if_pos (by omega), mUI_ne (by decide), show 478 * j + i - 1912 = i by omega]
        unfold bShift
        rw [if_neg (by omega)]
      · rw [if_neg (by omega), if_neg (by omega), if_pos e5, mUI_ne (by decide)]
        unfold bShift
        rw [if_pos ⟨rfl, by omega, by omega⟩, show 478 * j + i + 478 = 478 * (j + 1) + i by omega]
    · rw [if_neg e5, mUI_ne (by decide)]
      unfold bCopy
      by_cases ej : j = kp
      · subst ej
        rw [if_pos ⟨rfl, by omega, by omega⟩, if_pos (by omega), show 478 * j + i - 478 * j = i by omega]
      · rw [if_neg (by omega), if_neg (by omega), if_neg e5]
  have hB : ∀ (s : Nat), s < 5 → (∀ off j, pAll off j = true → blk I' (hF s) off j = if s = nx then blk I 3 off j else blk I (hF s) off j) ∧ (∀ off j, pAll off j = true → blk I' (hS s) off j = if s = nx then blk I 27 off j else blk I (hS s) off j) := by
    intro s hs
    constructor
    · intro off j hp
      have ho := pAll_lt hp
      by_cases e : s = nx
      · subst e
        rw [if_pos rfl]
        show I' (hF s + off) j = _
        rw [h1 _ _ (by unfold hF; omega) (by unfold hF; omega)]
        unfold hKeep
        rw [bcU_other (by unfold hF hS; omega)]
        exact blk_bcU hp ho
      · rw [if_neg e]
        show I' (hF s + off) j = I (hF s + off) j
        rw [h1 _ _ (by unfold hF; omega) (by unfold hF; omega), hKeep_other (by unfold hF; omega)]
    · intro off j hp
      have ho := pAll_lt hp
      by_cases e : s = nx
      · subst e
        rw [if_pos rfl]
        show I' (hS s + off) j = _
        rw [h1 _ _ (by unfold hS; omega) (by unfold hS; omega)]
        unfold hKeep
        refine (blk_bcU (a := hS s) hp ho).trans ?_
        show bcU I (hF s) 3 pAll (27 + off) j = I (27 + off) j
        rw [bcU_other (by unfold hF; omega)]
      · rw [if_neg e]
        show I' (hS s + off) j = I (hS s + off) j
        rw [h1 _ _ (by unfold hS; omega) (by unfold hS; omega), hKeep_other (by unfold hF hS; omega)]
  have hs5 : ((nx + 1) % 5 + 5 - min (kp + 1) 5 + j) % 5 < 5 := Nat.mod_lt _ (by decide)
  obtain ⟨b1, b2⟩ := hB _ hs5
  by_cases ej : j = min kp 4
  · have es : ((nx + 1) % 5 + 5 - min (kp + 1) 5 + j) % 5 = nx := by omega
    rw [es] at b1 b2 ⊢
    refine ⟨rP_congr (fun off j hp => by rw [b1 off j hp, if_pos rfl]) (fun i hi => ?_) hl.1, rP_congr (fun off j hp => by rw [b2 off j hp, if_pos rfl]) (fun i hi => ?_) hl.2⟩
    · show I' 331 (478 * j + i) = I 330 (0 + i)
      rw [hM i (by omega), if_pos ej, Nat.zero_add]
    · show I' 331 (478 * j + 239 + i) = I 330 (239 + i)
      rw [Nat.add_assoc, hM (239 + i) (by omega), if_pos ej]
  · have es : ((nx + 1) % 5 + 5 - min (kp + 1) 5 + j) % 5 ≠ nx := by omega
    by_cases e5 : kp = 5
    · have e6 : ((nx + 1) % 5 + 5 - min (kp + 1) 5 + j) % 5 = (nx + 5 - kp + (j + 1)) % 5 := by omega
      obtain ⟨z1, z2⟩ := hh (j + 1) (by omega)
      rw [e6] at b1 b2 es ⊢
      refine ⟨rP_congr (fun off j hp => by rw [b1 off j hp, if_neg es]) (fun i hi => ?_) z1, rP_congr (fun off j hp => by rw [b2 off j hp, if_neg es]) (fun i hi => ?_) z2⟩
      · show I' 331 (478 * j + i) = I 331 (478 * (j + 1) + i)
        rw [hM i (by omega), if_neg ej, if_pos e5]
      · show I' 331 (478 * j + 239 + i) = I 331 (478 * (j + 1) + 239 + i)
        rw [Nat.add_assoc, hM (239 + i) (by omega), if_neg ej, if_pos e5, Nat.add_assoc]
    · have e6 : ((nx + 1) % 5 + 5 - min (kp + 1) 5 + j) % 5 = (nx + 5 - kp + j) % 5 := by omega
      obtain ⟨z1, z2⟩ := hh j (by omega)
      rw [e6] at b1 b2 es ⊢
      refine ⟨rP_congr (fun off j hp => by rw [b1 off j hp, if_neg es]) (fun i hi => ?_) z1, rP_congr (fun off j hp => by rw [b2 off j hp, if_neg es]) (fun i hi => ?_) z2⟩
      · show I' 331 (478 * j + i) = I 331 (478 * j + i)
        rw [hM i (by omega), if_neg ej, if_neg e5]
      · show I' 331 (478 * j + 239 + i) = I 331 (478 * j + 239 + i)
        rw [Nat.add_assoc, hM (239 + i) (by omega), if_neg ej, if_neg e5]
theorem rH_frame {I I' : Nat → Nat → Int32} {kp nx : Nat} (h : rH I kp nx) (h1 : ∀ x j, 54 ≤ x → x < 294 → I' x j = I x j) (h2 : I' 51 2 = I 51 2) (h3 : I' 51 3 = I 51 3) (h4 : I' 329 2 = I 329 2) (h5 : ∀ j, I' 331 j = I 331 j) : rH I' kp nx := by
  obtain ⟨k1, ⟨g1, g2, g3⟩, hh⟩ := h
  refine ⟨k1, ⟨by rw [h2]; exact g1, by rw [h3]; exact g2, by rw [h4]; exact g3⟩, fun j hj => ?_⟩
  have hs : (nx + 5 - kp + j) % 5 < 5 := Nat.mod_lt _ (by decide)
  obtain ⟨z1, z2⟩ := hh j hj
  refine ⟨rP_congr (fun off j hp => ?_) (fun i _ => h5 _) z1, rP_congr (fun off j hp => ?_) (fun i _ => h5 _) z2⟩
  · have := pAll_lt hp
    exact h1 _ _ (by unfold hF; omega) (by unfold hF; omega)
  · have := pAll_lt hp
    exact h1 _ _ (by unfold hS; omega) (by unfold hS; omega)
