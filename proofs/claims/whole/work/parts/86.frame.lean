/-! ===== no method of the first side writes cell 0 ===== -/
def gd (s0 : Nat → Int32) (h : mHp) : Prop := mTg h.1 0 = 0 ∧ h.2.1 0 = s0
def pF (a : mAc) : Prop := ∀ (s0 : Nat → Int32) (Q : mQo) (K : mKo) (ls : mLs) (st : List Value) (h : mHp), gd s0 h → a Q (fun pc ls st h => gd s0 h → K pc ls st h) ls st h → a (fun r h' => Q r h' ∧ gd s0 h') K ls st h
def pC (C : mCo) : Prop := ∀ (s0 : Nat → Int32) (as : List Value) (h : mHp) (Q : mQo), gd s0 h → C as h Q → C as h (fun r h' => Q r h' ∧ gd s0 h')
theorem pWP {tb : mTb} (hm : mMT tb) (hp : ∀ q ∈ tb, pF q.2) {s0 : Nat → Int32} {Q : mQo} {pc : Nat} {ls : mLs} {st : List Value} {h : mHp} (g : gd s0 h) (k : mWP tb Q pc ls st h) : mWP tb (fun r h' => Q r h' ∧ gd s0 h') pc ls st h := by
  refine k (fun pc ls st h => gd s0 h → mWP tb (fun r h' => Q r h' ∧ gd s0 h') pc ls st h) (fun pc ls st h q g => mWP_in hm ?_) g
  unfold mLk at q ⊢
  cases e : tb.find? (fun q => q.1 == pc) with
  | none => rw [e] at q; exact q.elim
  | some z =>
    rw [e] at q
    exact hp z (List.mem_of_find?_eq_some e) s0 Q _ ls st h g q
theorem pRun {tb : mTb} (hm : mMT tb) (hp : ∀ q ∈ tb, pF q.2) (nL : Nat) : pC (mRun tb nL) := fun s0 as h Q g k => ⟨k.1, pWP hm hp g k.2⟩
theorem pf_LI (i n : Nat) : pF (aLI i n) := fun s0 Q K ls st h g k => by
  unfold aLI at k ⊢; split at k <;> first | exact k g | exact k.elim
theorem pf_LL (i n : Nat) : pF (aLL i n) := fun s0 Q K ls st h g k => by
  unfold aLL at k ⊢; split at k <;> first | exact k g | exact k.elim
theorem pf_LA (i n : Nat) : pF (aLA i n) := fun s0 Q K ls st h g k => by
  unfold aLA at k ⊢; split at k <;> first | exact k g | exact k.elim
theorem pf_SI (i n : Nat) : pF (aSI i n) := fun s0 Q K ls st h g k => by
  unfold aSI at k ⊢; split at k <;> first | exact k g | exact k.elim
theorem pf_SL (i n : Nat) : pF (aSL i n) := fun s0 Q K ls st h g k => by
  unfold aSL at k ⊢; split at k <;> first | exact k g | exact k.elim
theorem pf_SA (i n : Nat) : pF (aSA i n) := fun s0 Q K ls st h g k => by
  unfold aSA at k ⊢; split at k <;> first | exact k g | exact k.elim
theorem pf_PI (v : Int32) (n : Nat) : pF (aPI v n) := fun s0 Q K ls st h g k => k g
theorem pf_PL (v : Int64) (n : Nat) : pF (aPL v n) := fun s0 Q K ls st h g k => k g
theorem pf_PN (n : Nat) : pF (aPN n) := fun s0 Q K ls st h g k => k g
theorem pf_Go (n : Nat) : pF (aGo n) := fun s0 Q K ls st h g k => k g
theorem pf_GS (n : Nat) : pF (aGS n) := fun s0 Q K ls st h g k => k g
theorem pf_Inc (i : Nat) (v : Int32) (n : Nat) : pF (aInc i v n) := fun s0 Q K ls st h g k => by
  unfold aInc at k ⊢; split at k <;> first | exact k g | exact k.elim
theorem pf_U (f : Int32 → Int32) (n : Nat) : pF (aU f n) := fun s0 Q K ls st h g k => by
  unfold aU at k ⊢; split at k <;> first | exact k g | exact k.elim
theorem pf_B (f : Int32 → Int32 → Int32) (n : Nat) : pF (aB f n) := fun s0 Q K ls st h g k => by
  unfold aB at k ⊢; split at k <;> first | exact k g | exact k.elim
theorem pf_D (f : Int32 → Int32 → Int32) (n : Nat) : pF (aD f n) := fun s0 Q K ls st h g k => by
  unfold aD at k ⊢; split at k <;> first | exact ⟨k.1, k.2 g⟩ | exact k.elim
theorem pf_UL (f : Int64 → Int64) (n : Nat) : pF (aUL f n) := fun s0 Q K ls st h g k => by
  unfold aUL at k ⊢; split at k <;> first | exact k g | exact k.elim
theorem pf_BL (f : Int64 → Int64 → Int64) (n : Nat) : pF (aBL f n) := fun s0 Q K ls st h g k => by
  unfold aBL at k ⊢; split at k <;> first | exact k g | exact k.elim
theorem pf_DL (f : Int64 → Int64 → Int64) (n : Nat) : pF (aDL f n) := fun s0 Q K ls st h g k => by
  unfold aDL at k ⊢; split at k <;> first | exact ⟨k.1, k.2 g⟩ | exact k.elim
theorem pf_Sh (f : Int64 → Int32 → Int64) (n : Nat) : pF (aSh f n) := fun s0 Q K ls st h g k => by
  unfold aSh at k ⊢; split at k <;> first | exact k g | exact k.elim
theorem pf_I2L (n : Nat) : pF (aI2L n) := fun s0 Q K ls st h g k => by
  unfold aI2L at k ⊢; split at k <;> first | exact k g | exact k.elim
theorem pf_L2I (n : Nat) : pF (aL2I n) := fun s0 Q K ls st h g k => by
  unfold aL2I at k ⊢; split at k <;> first | exact k g | exact k.elim
theorem pf_Cmp (n : Nat) : pF (aCmp n) := fun s0 Q K ls st h g k => by
  unfold aCmp at k ⊢; split at k <;> first | exact k g | exact k.elim
theorem pf_Dup (n : Nat) : pF (aDup n) := fun s0 Q K ls st h g k => by
  unfold aDup at k ⊢; split at k <;> first | exact k g | exact k.elim
theorem pf_Dup2 (n : Nat) : pF (aDup2 n) := fun s0 Q K ls st h g k => by
  unfold aDup2 at k ⊢; split at k <;> first | exact k g | exact k.elim
theorem pf_Pop (n : Nat) : pF (aPop n) := fun s0 Q K ls st h g k => by
  unfold aPop at k ⊢; split at k <;> first | exact k g | exact k.elim
theorem pf_If (P : Int32 → Prop) (t n : Nat) : pF (aIf P t n) := fun s0 Q K ls st h g k => by
  unfold aIf at k ⊢; split at k <;> first | exact ⟨fun c => k.1 c g, fun c => k.2 c g⟩ | exact k.elim
theorem pf_Ic (P : Int32 → Int32 → Prop) (t n : Nat) : pF (aIc P t n) := fun s0 Q K ls st h g k => by
  unfold aIc at k ⊢; split at k <;> first | exact ⟨fun c => k.1 c g, fun c => k.2 c g⟩ | exact k.elim
theorem pf_Nu (t n : Nat) : pF (aNu t n) := fun s0 Q K ls st h g k => by
  unfold aNu at k ⊢; split at k <;> first | exact k g | exact k.elim
theorem pf_Nn (t n : Nat) : pF (aNn t n) := fun s0 Q K ls st h g k => by
  unfold aNn at k ⊢; split at k <;> first | exact k g | exact k.elim
theorem pf_Ts (ks : List (Int32 × Nat)) (d : Nat) : pF (aTs ks d) := fun s0 Q K ls st h g k => by
  unfold aTs at k ⊢; split at k <;> first | exact ⟨fun q hq e => k.1 q hq e g, fun c => k.2 c g⟩ | exact k.elim
theorem pf_GI (ci j n : Nat) : pF (aGI ci j n) := fun s0 Q K ls st h g k => by
  unfold aGI at k ⊢; split at k <;> first | exact ⟨k.1, k.2 g⟩ | exact k.elim
theorem pf_GL (ci j n : Nat) : pF (aGL ci j n) := fun s0 Q K ls st h g k => by
  unfold aGL at k ⊢; split at k <;> first | exact ⟨k.1, k.2 g⟩ | exact k.elim
theorem pf_GR (ci j n : Nat) : pF (aGR ci j n) := fun s0 Q K ls st h g k => by
  unfold aGR at k ⊢; split at k <;> first | exact ⟨k.1, k.2 g⟩ | exact k.elim
theorem pf_WL (ci j n : Nat) : pF (aWL ci j n) := fun s0 Q K ls st h g k => by
  unfold aWL at k ⊢; split at k <;> first | exact ⟨k.1, k.2 g⟩ | exact k.elim
theorem pf_IA (n : Nat) : pF (aIA n) := fun s0 Q K ls st h g k => by
  unfold aIA at k ⊢; split at k <;> first | exact ⟨k.1, k.2.1, k.2.2 g⟩ | exact k.elim
theorem pf_JA (n : Nat) : pF (aJA n) := fun s0 Q K ls st h g k => by
  unfold aJA at k ⊢; split at k <;> first | exact ⟨k.1, k.2.1, k.2.2 g⟩ | exact k.elim
theorem pf_AA (n : Nat) : pF (aAA n) := fun s0 Q K ls st h g k => by
  unfold aAA at k ⊢; split at k <;> first | exact ⟨k.1, k.2.1, k.2.2 g⟩ | exact k.elim
theorem pf_JS (n : Nat) : pF (aJS n) := fun s0 Q K ls st h g k => by
  unfold aJS at k ⊢; split at k <;> first | exact ⟨k.1, k.2.1, k.2.2 g⟩ | exact k.elim
theorem pf_Len (n : Nat) : pF (aLen n) := fun s0 Q K ls st h g k => by
  unfold aLen at k ⊢; split at k <;> first | exact ⟨k.1, k.2 g⟩ | exact k.elim
theorem pf_M2 (f : Int32 → Int32 → Int32) (n : Nat) : pF (aM2 f n) := fun s0 Q K ls st h g k => by
  unfold aM2 at k ⊢; split at k <;> first | exact ⟨k.1, k.2 g⟩ | exact k.elim
theorem pf_M2L (f : Int64 → Int64 → Int64) (n : Nat) : pF (aM2L f n) := fun s0 Q K ls st h g k => by
  unfold aM2L at k ⊢; split at k <;> first | exact ⟨k.1, k.2 g⟩ | exact k.elim
theorem pf_M1L (f : Int64 → Int64) (n : Nat) : pF (aM1L f n) := fun s0 Q K ls st h g k => by
  unfold aM1L at k ⊢; split at k <;> first | exact ⟨k.1, k.2 g⟩ | exact k.elim
theorem gd_u {s0 : Nat → Int32} {h : mHp} {a k : Nat} {v : Int32} (g : gd s0 h) (ha : a ≠ 0) : gd s0 (h.1, mUI h.2.1 a k v, h.2.2) := ⟨g.1, by funext j; rw [← g.2]; exact mUI_ne (Ne.symm ha)⟩
theorem pf_WI (ci j n : Nat) : pF (aWI ci j n) := fun s0 Q K ls st h g k => by
  unfold aWI at k ⊢; split at k
  · rename_i x a r
    exact ⟨k.1, k.2 (gd_u g (fun e => by have := k.1; rw [e, g.1] at this; omega))⟩
  · exact k.elim
theorem pf_IS (n : Nat) : pF (aIS n) := fun s0 Q K ls st h g k => by
  unfold aIS at k ⊢; split at k
  · rename_i x i a r
    have h2 : 2 ≤ a := k.1.2
    exact ⟨k.1, k.2.1, k.2.2 (gd_u g (fun e => by rw [e] at h2; exact Nat.not_succ_le_zero _ h2))⟩
  · exact k.elim
theorem pf_Cp (n : Nat) : pF (aCp n) := fun s0 Q K ls st h g k => by
  unfold aCp at k ⊢; split at k
  · rename_i z dp a sp a0 r
    refine ⟨k.1, k.2.1, k.2.2 ⟨g.1, ?_⟩⟩
    show mCpI h.2.1 a0 a sp.toNatClampNeg dp.toNatClampNeg z.toNatClampNeg 0 = s0
    unfold mCpI
    have h2 : 2 ≤ a := k.1.2.2.2
    rw [if_neg (fun e => by rw [← e] at h2; exact Nat.not_succ_le_zero _ h2)]
    exact g.2
  · exact k.elim
theorem pf_CS (kk : Nat) {C : mCo} (hm : mMC C) (hC : pC C) (n : Nat) : pF (aCS kk C n) := fun s0 Q K ls st h g k => ⟨k.1, hm _ _ _ _ (fun r h' z => ⟨z.1.1, z.1.2 ⟨g.1, z.2.2⟩⟩) (hC s0 _ _ _ ⟨g.1, g.2⟩ k.2)⟩
theorem pf_CV (ci kk : Nat) {C : mCo} (hm : mMC C) (hC : pC C) (n : Nat) : pF (aCV ci kk C n) := fun s0 Q K ls st h g k => ⟨k.1, k.2.1, hm _ _ _ _ (fun r h' z => ⟨z.1.1, z.1.2 ⟨g.1, z.2.2⟩⟩) (hC s0 _ _ _ ⟨g.1, g.2⟩ k.2.2)⟩
theorem pf_RI : pF (aRI) := fun s0 Q K ls st h g k => by
  unfold aRI at k ⊢; split at k <;> first | exact ⟨k, g⟩ | exact k.elim
theorem pf_RL : pF (aRL) := fun s0 Q K ls st h g k => by
  unfold aRL at k ⊢; split at k <;> first | exact ⟨k, g⟩ | exact k.elim
theorem pf_RR : pF (aRR) := fun s0 Q K ls st h g k => by
  unfold aRR at k ⊢; split at k <;> first | exact ⟨k, g⟩ | exact k.elim
theorem pf_RV : pF (aRV) := fun s0 Q K ls st h g k => by
  unfold aRV at k ⊢; split at k <;> first | exact ⟨k, g⟩ | exact k.elim
theorem pf_RZ : pF (aRZ) := fun s0 Q K ls st h g k => by
  unfold aRZ at k ⊢; split at k <;> first | exact ⟨k.1, k.2, g⟩ | exact k.elim
theorem ft_X0_put : ∀ q ∈ tb_X0_put, pF q.2 :=
  mF (pf_LA _ _) <|
  mF (pf_LI _ _) <|
  mF (pf_WI _ _ _) <|
  mF (pf_LA _ _) <|
  mF (pf_LI _ _) <|
  mF (pf_WI _ _ _) <|
  mF (pf_LA _ _) <|
  mF (pf_LI _ _) <|
  mF (pf_WI _ _ _) <|
  mF (pf_RV) <|
  mF0
theorem fc_X0_put : pC C_X0_put := pRun mt_X0_put ft_X0_put 4
theorem ft_X10_copyRow : ∀ q ∈ tb_X10_copyRow, pF q.2 :=
  mF (pf_LA _ _) <|
  mF (pf_PI _ _) <|
  mF (pf_LA _ _) <|
  mF (pf_PI _ _) <|
  mF (pf_LA _ _) <|
  mF (pf_Len _) <|
  mF (pf_LA _ _) <|
  mF (pf_Len _) <|
  mF (pf_M2 _ _) <|
  mF (pf_Cp _) <|
  mF (pf_RV) <|
  mF0
theorem fc_X10_copyRow : pC C_X10_copyRow := pRun mt_X10_copyRow ft_X10_copyRow 2
theorem ft_X0_become : ∀ q ∈ tb_X0_become, pF q.2 :=
  mF (pf_LA _ _) <|
  mF (pf_GR _ _ _) <|
  mF (pf_LA _ _) <|
  mF (pf_GR _ _ _) <|
  mF (pf_CS _ mc_X10_copyRow fc_X10_copyRow _) <|
  mF (pf_LA _ _) <|
  mF (pf_GR _ _ _) <|
  mF (pf_LA _ _) <|
  mF (pf_GR _ _ _) <|
  mF (pf_CS _ mc_X10_copyRow fc_X10_copyRow _) <|
  mF (pf_LA _ _) <|
  mF (pf_LA _ _) <|
  mF (pf_GI _ _ _) <|
  mF (pf_LA _ _) <|
  mF (pf_GI _ _ _) <|
  mF (pf_LA _ _) <|
  mF (pf_GI _ _ _) <|
  mF (pf_CV _ _ mc_X0_put fc_X0_put _) <|
  mF (pf_RV) <|
  mF0
theorem fc_X0_become : pC C_X0_become := pRun mt_X0_become ft_X0_become 2
theorem ft_X10_turnSigns : ∀ q ∈ tb_X10_turnSigns, pF q.2 :=
  mF (pf_PI _ _) <|
  mF (pf_SI _ _) <|
  mF (pf_LI _ _) <|
  mF (pf_LI _ _) <|
  mF (pf_Ic _ _ _) <|
  mF (pf_LI _ _) <|
  mF (pf_LA _ _) <|
  mF (pf_Len _) <|
  mF (pf_Ic _ _ _) <|
  mF (pf_LA _ _) <|
  mF (pf_LI _ _) <|
  mF (pf_LA _ _) <|
  mF (pf_LI _ _) <|
  mF (pf_IA _) <|
  mF (pf_U _ _) <|
  mF (pf_IS _) <|
  mF (pf_Inc _ _ _) <|
  mF (pf_Go _) <|
  mF (pf_RV) <|
  mF0
theorem fc_X10_turnSigns : pC C_X10_turnSigns := pRun mt_X10_turnSigns ft_X10_turnSigns 3
theorem ft_X0_turnOver : ∀ q ∈ tb_X0_turnOver, pF q.2 :=
  mF (pf_LA _ _) <|
  mF (pf_LA _ _) <|
  mF (pf_GI _ _ _) <|
  mF (pf_U _ _) <|
  mF (pf_WI _ _ _) <|
  mF (pf_LA _ _) <|
  mF (pf_LA _ _) <|
  mF (pf_GI _ _ _) <|
  mF (pf_U _ _) <|
  mF (pf_WI _ _ _) <|
  mF (pf_LA _ _) <|
  mF (pf_GR _ _ _) <|
  mF (pf_PI _ _) <|
  mF (pf_CS _ mc_X10_turnSigns fc_X10_turnSigns _) <|
  mF (pf_RV) <|
  mF0
theorem fc_X0_turnOver : pC C_X0_turnOver := pRun mt_X0_turnOver ft_X0_turnOver 1
theorem ft_X10_sine : ∀ q ∈ tb_X10_sine, pF q.2 :=
  mF (pf_GS _) <|
  mF (pf_LI _ _) <|
  mF (pf_PI _ _) <|
  mF (pf_B _ _) <|
  mF (pf_IA _) <|
  mF (pf_RI) <|
  mF0
theorem fc_X10_sine : pC C_X10_sine := pRun mt_X10_sine ft_X10_sine 1
theorem ft_X10_cosine : ∀ q ∈ tb_X10_cosine, pF q.2 :=
  mF (pf_GS _) <|
  mF (pf_LI _ _) <|
  mF (pf_PI _ _) <|
  mF (pf_B _ _) <|
  mF (pf_PI _ _) <|
  mF (pf_B _ _) <|
  mF (pf_IA _) <|
  mF (pf_RI) <|
  mF0
theorem fc_X10_cosine : pC C_X10_cosine := pRun mt_X10_cosine ft_X10_cosine 1
theorem ft_X1_layBars : ∀ q ∈ tb_X1_layBars, pF q.2 :=
  mF (pf_LA _ _) <|
  mF (pf_GI _ _ _) <|
  mF (pf_PI _ _) <|
  mF (pf_B _ _) <|
  mF (pf_SI _ _) <|
  mF (pf_LA _ _) <|
  mF (pf_GI _ _ _) <|
  mF (pf_PI _ _) <|
  mF (pf_B _ _) <|
  mF (pf_SI _ _) <|
  mF (pf_PI _ _) <|
  mF (pf_SI _ _) <|
  mF (pf_LI _ _) <|
  mF (pf_PI _ _) <|
  mF (pf_Ic _ _ _) <|
  mF (pf_LA _ _) <|
  mF (pf_GR _ _ _) <|
  mF (pf_LI _ _) <|
  mF (pf_PI _ _) <|
  mF (pf_LA _ _) <|
  mF (pf_GI _ _ _) <|
  mF (pf_B _ _) <|
  mF (pf_LA _ _) <|
  mF (pf_GR _ _ _) <|
  mF (pf_LI _ _) <|
  mF (pf_IA _) <|
  mF (pf_LI _ _) <|
  mF (pf_CS _ mc_X10_sine fc_X10_sine _) <|
  mF (pf_B _ _) <|
  mF (pf_B _ _) <|
  mF (pf_LA _ _) <|
  mF (pf_GR _ _ _) <|
  mF (pf_LI _ _) <|
  mF (pf_IA _) <|
  mF (pf_LI _ _) <|
  mF (pf_CS _ mc_X10_sine fc_X10_sine _) <|
  mF (pf_B _ _) <|
  mF (pf_B _ _) <|
  mF (pf_IS _) <|
  mF (pf_LA _ _) <|
  mF (pf_GR _ _ _) <|
  mF (pf_LI _ _) <|
  mF (pf_PI _ _) <|
  mF (pf_LA _ _) <|
  mF (pf_GI _ _ _) <|
  mF (pf_B _ _) <|
  mF (pf_LA _ _) <|
  mF (pf_GR _ _ _) <|
  mF (pf_LI _ _) <|
  mF (pf_IA _) <|
  mF (pf_LI _ _) <|
  mF (pf_CS _ mc_X10_cosine fc_X10_cosine _) <|
  mF (pf_B _ _) <|
  mF (pf_B _ _) <|
  mF (pf_LA _ _) <|
  mF (pf_GR _ _ _) <|
  mF (pf_LI _ _) <|
  mF (pf_IA _) <|
  mF (pf_LI _ _) <|
  mF (pf_CS _ mc_X10_cosine fc_X10_cosine _) <|
  mF (pf_B _ _) <|
  mF (pf_B _ _) <|
  mF (pf_IS _) <|
  mF (pf_Inc _ _ _) <|
  mF (pf_Go _) <|
  mF (pf_RV) <|
  mF0
theorem fc_X1_layBars : pC C_X1_layBars := pRun mt_X1_layBars ft_X1_layBars 5
theorem ft_X1_spotX : ∀ q ∈ tb_X1_spotX, pF q.2 :=
  mF (pf_LA _ _) <|
  mF (pf_GR _ _ _) <|
  mF (pf_LI _ _) <|
  mF (pf_IA _) <|
  mF (pf_LI _ _) <|
  mF (pf_LA _ _) <|
  mF (pf_GR _ _ _) <|
  mF (pf_LI _ _) <|
  mF (pf_IA _) <|
  mF (pf_B _ _) <|
  mF (pf_B _ _) <|
  mF (pf_RI) <|
  mF0
theorem fc_X1_spotX : pC C_X1_spotX := pRun mt_X1_spotX ft_X1_spotX 3
theorem ft_X1_spotY : ∀ q ∈ tb_X1_spotY, pF q.2 :=
  mF (pf_LA _ _) <|
  mF (pf_GR _ _ _) <|
  mF (pf_LI _ _) <|
  mF (pf_IA _) <|
  mF (pf_LI _ _) <|
  mF (pf_LA _ _) <|
  mF (pf_GR _ _ _) <|
  mF (pf_LI _ _) <|
  mF (pf_IA _) <|
  mF (pf_B _ _) <|
  mF (pf_B _ _) <|
  mF (pf_RI) <|
  mF0
theorem fc_X1_spotY : pC C_X1_spotY := pRun mt_X1_spotY ft_X1_spotY 3
theorem ft_X1_layLimbs_c0 : ∀ q ∈ tb_X1_layLimbs_c0, pF q.2 :=
  mF (pf_PI _ _) <|
  mF (pf_SI _ _) <|
  mF (pf_LI _ _) <|
  mF (pf_LA _ _) <|
  mF (pf_GI _ _ _) <|
  mF (pf_Ic _ _ _) <|
  mF (pf_LA _ _) <|
  mF (pf_GR _ _ _) <|
  mF (pf_LI _ _) <|
  mF (pf_IA _) <|
  mF (pf_SI _ _) <|
  mF (pf_LI _ _) <|
  mF (pf_If _ _ _) <|
  mF (pf_LI _ _) <|
  mF (pf_LI _ _) <|
  mF (pf_Ic _ _ _) <|
  mF (pf_PI _ _) <|
  mF (pf_Go _) <|
  mF (pf_PI _ _) <|
  mF (pf_SI _ _) <|
  mF (pf_LA _ _) <|
  mF (pf_GR _ _ _) <|
  mF (pf_LI _ _) <|
  mF (pf_LI _ _) <|
  mF (pf_If _ _ _) <|
  mF (pf_LA _ _) <|
  mF (pf_GR _ _ _) <|
  mF (pf_LI _ _) <|
  mF (pf_IA _) <|
  mF (pf_Go _) <|
  mF (pf_PI _ _) <|
  mF (pf_LA _ _) <|
  mF (pf_GR _ _ _) <|
  mF (pf_LI _ _) <|
  mF (pf_IA _) <|
  mF (pf_B _ _) <|
  mF (pf_PI _ _) <|
  mF (pf_B _ _) <|
  mF (pf_IS _) <|
  mF (pf_LA _ _) <|
  mF (pf_GR _ _ _) <|
  mF (pf_LI _ _) <|
  mF (pf_LA _ _) <|
  mF (pf_GR _ _ _) <|
  mF (pf_LI _ _) <|
  mF (pf_IA _) <|
  mF (pf_CS _ mc_X10_sine fc_X10_sine _) <|
  mF (pf_IS _) <|
  mF (pf_LA _ _) <|
  mF (pf_GR _ _ _) <|
  mF (pf_LI _ _) <|
  mF (pf_LA _ _) <|
  mF (pf_GR _ _ _) <|
  mF (pf_LI _ _) <|
  mF (pf_IA _) <|
  mF (pf_CS _ mc_X10_cosine fc_X10_cosine _) <|
  mF (pf_U _ _) <|
  mF (pf_IS _) <|
  mF (pf_LA _ _) <|
  mF (pf_GR _ _ _) <|
  mF (pf_LI _ _) <|
  mF (pf_LI _ _) <|
  mF (pf_If _ _ _) <|
  mF (pf_LA _ _) <|
  mF (pf_GR _ _ _) <|
  mF (pf_LI _ _) <|
  mF (pf_IA _) <|
  mF (pf_Go _) <|
  mF (pf_PI _ _) <|
  mF (pf_LA _ _) <|
  mF0
theorem ft_X1_layLimbs_c1 : ∀ q ∈ tb_X1_layLimbs_c1, pF q.2 :=
  mF (pf_GI _ _ _) <|
  mF (pf_B _ _) <|
  mF (pf_IS _) <|
  mF (pf_LA _ _) <|
  mF (pf_GR _ _ _) <|
  mF (pf_LI _ _) <|
  mF (pf_LI _ _) <|
  mF (pf_If _ _ _) <|
  mF (pf_LA _ _) <|
  mF (pf_GR _ _ _) <|
  mF (pf_LI _ _) <|
  mF (pf_IA _) <|
  mF (pf_Go _) <|
  mF (pf_PI _ _) <|
  mF (pf_LA _ _) <|
  mF (pf_GI _ _ _) <|
  mF (pf_B _ _) <|
  mF (pf_IS _) <|
  mF (pf_LA _ _) <|
  mF (pf_GR _ _ _) <|
  mF (pf_LI _ _) <|
  mF (pf_LA _ _) <|
  mF (pf_LI _ _) <|
  mF (pf_LA _ _) <|
  mF (pf_GR _ _ _) <|
  mF (pf_LI _ _) <|
  mF (pf_IA _) <|
  mF (pf_CV _ _ mc_X1_spotX fc_X1_spotX _) <|
  mF (pf_IS _) <|
  mF (pf_LA _ _) <|
  mF (pf_GR _ _ _) <|
  mF (pf_LI _ _) <|
  mF (pf_LA _ _) <|
  mF (pf_LI _ _) <|
  mF (pf_LA _ _) <|
  mF (pf_GR _ _ _) <|
  mF (pf_LI _ _) <|
  mF (pf_IA _) <|
  mF (pf_CV _ _ mc_X1_spotY fc_X1_spotY _) <|
  mF (pf_IS _) <|
  mF (pf_Inc _ _ _) <|
  mF (pf_Go _) <|
  mF (pf_RV) <|
  mF0
theorem ft_X1_layLimbs : ∀ q ∈ tb_X1_layLimbs, pF q.2 := mFA ft_X1_layLimbs_c0 ft_X1_layLimbs_c1
theorem fc_X1_layLimbs : pC C_X1_layLimbs := pRun mt_X1_layLimbs ft_X1_layLimbs 5
theorem ft_X1_lay : ∀ q ∈ tb_X1_lay, pF q.2 :=
  mF (pf_LA _ _) <|
  mF (pf_LA _ _) <|
  mF (pf_GR _ _ _) <|
  mF (pf_CV _ _ mc_X1_layBars fc_X1_layBars _) <|
  mF (pf_LA _ _) <|
  mF (pf_LA _ _) <|
  mF (pf_GR _ _ _) <|
  mF (pf_CV _ _ mc_X1_layLimbs fc_X1_layLimbs _) <|
  mF (pf_RV) <|
  mF0
theorem fc_X1_lay : pC C_X1_lay := pRun mt_X1_lay ft_X1_lay 2
theorem ft_X10_squareOf : ∀ q ∈ tb_X10_squareOf, pF q.2 :=
  mF (pf_LL _ _) <|
  mF (pf_LL _ _) <|
  mF (pf_BL _ _) <|
  mF (pf_LL _ _) <|
  mF (pf_LL _ _) <|
  mF (pf_BL _ _) <|
  mF (pf_BL _ _) <|
  mF (pf_RL) <|
  mF0
theorem fc_X10_squareOf : pC C_X10_squareOf := pRun mt_X10_squareOf ft_X10_squareOf 4
theorem ft_X10_distance : ∀ q ∈ tb_X10_distance, pF q.2 :=
  mF (pf_LL _ _) <|
  mF (pf_M1L _ _) <|
  mF (pf_LL _ _) <|
  mF (pf_M1L _ _) <|
  mF (pf_M2L _ _) <|
  mF (pf_SL _ _) <|
  mF (pf_LL _ _) <|
  mF (pf_M1L _ _) <|
  mF (pf_LL _ _) <|
  mF (pf_M1L _ _) <|
  mF (pf_M2L _ _) <|
  mF (pf_SL _ _) <|
  mF (pf_LL _ _) <|
  mF (pf_LL _ _) <|
  mF (pf_CS _ mc_X10_squareOf fc_X10_squareOf _) <|
  mF (pf_SL _ _) <|
  mF (pf_LL _ _) <|
  mF (pf_LL _ _) <|
  mF (pf_PL _ _) <|
  mF (pf_BL _ _) <|
  mF (pf_PL _ _) <|
  mF (pf_DL _ _) <|
  mF (pf_BL _ _) <|
  mF (pf_SL _ _) <|
  mF (pf_PI _ _) <|
  mF (pf_SI _ _) <|
  mF (pf_LI _ _) <|
  mF (pf_PI _ _) <|
  mF (pf_Ic _ _ _) <|
  mF (pf_LL _ _) <|
  mF (pf_PL _ _) <|
  mF (pf_Cmp _) <|
  mF (pf_If _ _ _) <|
  mF (pf_LL _ _) <|
  mF (pf_LL _ _) <|
  mF (pf_LL _ _) <|
  mF (pf_DL _ _) <|
  mF (pf_BL _ _) <|
  mF (pf_PL _ _) <|
  mF (pf_DL _ _) <|
  mF (pf_SL _ _) <|
  mF (pf_LL _ _) <|
  mF (pf_LL _ _) <|
  mF (pf_Cmp _) <|
  mF (pf_If _ _ _) <|
  mF (pf_Go _) <|
  mF (pf_LL _ _) <|
  mF (pf_SL _ _) <|
  mF (pf_Inc _ _ _) <|
  mF (pf_Go _) <|
  mF (pf_LL _ _) <|
  mF (pf_LL _ _) <|
  mF (pf_BL _ _) <|
  mF (pf_LL _ _) <|
  mF (pf_Cmp _) <|
  mF (pf_If _ _ _) <|
  mF (pf_LL _ _) <|
  mF (pf_PL _ _) <|
  mF (pf_BL _ _) <|
  mF (pf_Go _) <|
  mF (pf_LL _ _) <|
  mF (pf_RL) <|
  mF0
theorem fc_X10_distance : pC C_X10_distance := pRun mt_X10_distance ft_X10_distance 15
theorem ft_X1_far_c0 : ∀ q ∈ tb_X1_far_c0, pF q.2 :=
  mF (pf_LA _ _) <|
  mF (pf_GR _ _ _) <|
  mF (pf_LI _ _) <|
  mF (pf_IA _) <|
  mF (pf_PI _ _) <|
  mF (pf_Ic _ _ _) <|
  mF (pf_PL _ _) <|
  mF (pf_RL) <|
  mF (pf_LA _ _) <|
  mF (pf_GR _ _ _) <|
  mF (pf_LI _ _) <|
  mF (pf_IA _) <|
  mF (pf_SI _ _) <|
  mF (pf_LA _ _) <|
  mF (pf_GR _ _ _) <|
  mF (pf_LI _ _) <|
  mF (pf_IA _) <|
  mF (pf_SI _ _) <|
  mF (pf_LA _ _) <|
  mF (pf_GR _ _ _) <|
  mF (pf_LI _ _) <|
  mF (pf_IA _) <|
  mF (pf_SI _ _) <|
  mF (pf_LA _ _) <|
  mF (pf_LI _ _) <|
  mF (pf_LI _ _) <|
  mF (pf_CV _ _ mc_X1_spotX fc_X1_spotX _) <|
  mF (pf_LA _ _) <|
  mF (pf_GR _ _ _) <|
  mF (pf_LI _ _) <|
  mF (pf_IA _) <|
  mF (pf_B _ _) <|
  mF (pf_I2L _) <|
  mF (pf_LA _ _) <|
  mF (pf_LI _ _) <|
  mF (pf_LI _ _) <|
  mF (pf_CV _ _ mc_X1_spotY fc_X1_spotY _) <|
  mF (pf_LA _ _) <|
  mF (pf_GR _ _ _) <|
  mF (pf_LI _ _) <|
  mF (pf_IA _) <|
  mF (pf_B _ _) <|
  mF (pf_I2L _) <|
  mF (pf_CS _ mc_X10_distance fc_X10_distance _) <|
  mF (pf_SL _ _) <|
  mF (pf_LA _ _) <|
  mF (pf_GR _ _ _) <|
  mF (pf_LI _ _) <|
  mF (pf_IA _) <|
  mF (pf_PI _ _) <|
  mF (pf_Ic _ _ _) <|
  mF (pf_LL _ _) <|
  mF (pf_LA _ _) <|
  mF (pf_GR _ _ _) <|
  mF (pf_PI _ _) <|
  mF (pf_IA _) <|
  mF (pf_LA _ _) <|
  mF (pf_GR _ _ _) <|
  mF (pf_LI _ _) <|
  mF (pf_IA _) <|
  mF (pf_B _ _) <|
  mF (pf_I2L _) <|
  mF (pf_LA _ _) <|
  mF (pf_GR _ _ _) <|
  mF (pf_PI _ _) <|
  mF (pf_IA _) <|
  mF (pf_LA _ _) <|
  mF (pf_GR _ _ _) <|
  mF (pf_LI _ _) <|
  mF (pf_IA _) <|
  mF0
theorem ft_X1_far_c1 : ∀ q ∈ tb_X1_far_c1, pF q.2 :=
  mF (pf_B _ _) <|
  mF (pf_I2L _) <|
  mF (pf_CS _ mc_X10_distance fc_X10_distance _) <|
  mF (pf_BL _ _) <|
  mF (pf_SL _ _) <|
  mF (pf_LL _ _) <|
  mF (pf_RL) <|
  mF0
theorem ft_X1_far : ∀ q ∈ tb_X1_far, pF q.2 := mFA ft_X1_far_c0 ft_X1_far_c1
theorem fc_X1_far : pC C_X1_far := pRun mt_X1_far ft_X1_far 8
theorem ft_X4_free : ∀ q ∈ tb_X4_free, pF q.2 :=
  mF (pf_PI _ _) <|
  mF (pf_LA _ _) <|
  mF (pf_GR _ _ _) <|
  mF (pf_LI _ _) <|
  mF (pf_IA _) <|
  mF (pf_LA _ _) <|
  mF (pf_GR _ _ _) <|
  mF (pf_LI _ _) <|
  mF (pf_IA _) <|
  mF (pf_B _ _) <|
  mF (pf_B _ _) <|
  mF (pf_RI) <|
  mF0
theorem fc_X4_free : pC C_X4_free := pRun mt_X4_free ft_X4_free 2
theorem ft_X1_tooLong : ∀ q ∈ tb_X1_tooLong, pF q.2 :=
  mF (pf_LL _ _) <|
  mF (pf_LA _ _) <|
  mF (pf_LI _ _) <|
  mF (pf_CV _ _ mc_X4_free fc_X4_free _) <|
  mF (pf_I2L _) <|
  mF (pf_BL _ _) <|
  mF (pf_SL _ _) <|
  mF (pf_LA _ _) <|
  mF (pf_GR _ _ _) <|
  mF (pf_LI _ _) <|
  mF (pf_IA _) <|
  mF (pf_PI _ _) <|
  mF (pf_Ic _ _ _) <|
  mF (pf_LA _ _) <|
  mF (pf_LA _ _) <|
  mF (pf_GR _ _ _) <|
  mF (pf_LI _ _) <|
  mF (pf_IA _) <|
  mF (pf_LA _ _) <|
  mF (pf_GR _ _ _) <|
  mF (pf_LI _ _) <|
  mF (pf_IA _) <|
  mF (pf_CV _ _ mc_X1_spotY fc_X1_spotY _) <|
  mF (pf_U _ _) <|
  mF (pf_I2L _) <|
  mF (pf_SL _ _) <|
  mF (pf_Go _) <|
  mF (pf_LA _ _) <|
  mF (pf_GR _ _ _) <|
  mF (pf_LI _ _) <|
  mF (pf_IA _) <|
  mF (pf_PI _ _) <|
  mF (pf_Ic _ _ _) <|
  mF (pf_LL _ _) <|
  mF (pf_M1L _ _) <|
  mF (pf_PL _ _) <|
  mF (pf_BL _ _) <|
  mF (pf_SL _ _) <|
  mF (pf_PL _ _) <|
  mF (pf_LL _ _) <|
  mF (pf_M2L _ _) <|
  mF (pf_RL) <|
  mF0
theorem fc_X1_tooLong : pC C_X1_tooLong := pRun mt_X1_tooLong ft_X1_tooLong 7
theorem ft_X1_depthOf : ∀ q ∈ tb_X1_depthOf, pF q.2 :=
  mF (pf_PL _ _) <|
  mF (pf_SL _ _) <|
  mF (pf_PI _ _) <|
  mF (pf_SI _ _) <|
  mF (pf_LI _ _) <|
  mF (pf_LA _ _) <|
  mF (pf_GI _ _ _) <|
  mF (pf_Ic _ _ _) <|
  mF (pf_LL _ _) <|
  mF (pf_LA _ _) <|
  mF (pf_GR _ _ _) <|
  mF (pf_LI _ _) <|
  mF (pf_IA _) <|
  mF (pf_I2L _) <|
  mF (pf_LA _ _) <|
  mF (pf_GR _ _ _) <|
  mF (pf_LI _ _) <|
  mF (pf_IA _) <|
  mF (pf_LA _ _) <|
  mF (pf_GR _ _ _) <|
  mF (pf_LI _ _) <|
  mF (pf_IA _) <|
  mF (pf_B _ _) <|
  mF (pf_I2L _) <|
  mF (pf_BL _ _) <|
  mF (pf_BL _ _) <|
  mF (pf_SL _ _) <|
  mF (pf_Inc _ _ _) <|
  mF (pf_Go _) <|
  mF (pf_LL _ _) <|
  mF (pf_RL) <|
  mF0
theorem fc_X1_depthOf : pC C_X1_depthOf := pRun mt_X1_depthOf ft_X1_depthOf 5
theorem ft_X1_begin : ∀ q ∈ tb_X1_begin, pF q.2 :=
  mF (pf_LA _ _) <|
  mF (pf_LA _ _) <|
  mF (pf_CV _ _ mc_X1_layBars fc_X1_layBars _) <|
  mF (pf_LA _ _) <|
  mF (pf_PL _ _) <|
  mF (pf_WL _ _ _) <|
  mF (pf_RV) <|
  mF0
theorem fc_X1_begin : pC C_X1_begin := pRun mt_X1_begin ft_X1_begin 2
theorem ft_X1_isBetter : ∀ q ∈ tb_X1_isBetter, pF q.2 :=
  mF (pf_LA _ _) <|
  mF (pf_LA _ _) <|
  mF (pf_GR _ _ _) <|
  mF (pf_CV _ _ mc_X1_layLimbs fc_X1_layLimbs _) <|
  mF (pf_PL _ _) <|
  mF (pf_SL _ _) <|
  mF (pf_PI _ _) <|
  mF (pf_SI _ _) <|
  mF (pf_LI _ _) <|
  mF (pf_LA _ _) <|
  mF (pf_GR _ _ _) <|
  mF (pf_GI _ _ _) <|
  mF (pf_Ic _ _ _) <|
  mF (pf_LL _ _) <|
  mF (pf_LA _ _) <|
  mF (pf_LA _ _) <|
  mF (pf_GR _ _ _) <|
  mF (pf_LI _ _) <|
  mF (pf_LA _ _) <|
  mF (pf_LA _ _) <|
  mF (pf_GR _ _ _) <|
  mF (pf_LI _ _) <|
  mF (pf_CV _ _ mc_X1_far fc_X1_far _) <|
  mF (pf_CV _ _ mc_X1_tooLong fc_X1_tooLong _) <|
  mF (pf_BL _ _) <|
  mF (pf_SL _ _) <|
  mF (pf_LL _ _) <|
  mF (pf_LA _ _) <|
  mF (pf_GL _ _ _) <|
  mF (pf_Cmp _) <|
  mF (pf_If _ _ _) <|
  mF (pf_PI _ _) <|
  mF (pf_RZ) <|
  mF (pf_Inc _ _ _) <|
  mF (pf_Go _) <|
  mF (pf_LA _ _) <|
  mF (pf_LA _ _) <|
  mF (pf_GR _ _ _) <|
  mF (pf_CV _ _ mc_X1_depthOf fc_X1_depthOf _) <|
  mF (pf_SL _ _) <|
  mF (pf_LL _ _) <|
  mF (pf_LA _ _) <|
  mF (pf_GL _ _ _) <|
  mF (pf_Cmp _) <|
  mF (pf_If _ _ _) <|
  mF (pf_LL _ _) <|
  mF (pf_LA _ _) <|
  mF (pf_GL _ _ _) <|
  mF (pf_Cmp _) <|
  mF (pf_If _ _ _) <|
  mF (pf_PI _ _) <|
  mF (pf_RZ) <|
  mF (pf_LA _ _) <|
  mF (pf_LL _ _) <|
  mF (pf_WL _ _ _) <|
  mF (pf_LA _ _) <|
  mF (pf_LL _ _) <|
  mF (pf_WL _ _ _) <|
  mF (pf_PI _ _) <|
  mF (pf_RZ) <|
  mF0
theorem fc_X1_isBetter : pC C_X1_isBetter := pRun mt_X1_isBetter ft_X1_isBetter 6
theorem ft_X6_put : ∀ q ∈ tb_X6_put, pF q.2 :=
  mF (pf_LA _ _) <|
  mF (pf_LL _ _) <|
  mF (pf_WL _ _ _) <|
  mF (pf_LA _ _) <|
  mF (pf_LL _ _) <|
  mF (pf_WL _ _ _) <|
  mF (pf_LA _ _) <|
  mF (pf_LL _ _) <|
  mF (pf_WL _ _ _) <|
  mF (pf_LA _ _) <|
  mF (pf_LL _ _) <|
  mF (pf_WL _ _ _) <|
  mF (pf_RV) <|
  mF0
theorem fc_X6_put : pC C_X6_put := pRun mt_X6_put ft_X6_put 9
theorem ft_X1_drawLimb : ∀ q ∈ tb_X1_drawLimb, pF q.2 :=
  mF (pf_LA _ _) <|
  mF (pf_LA _ _) <|
  mF (pf_GR _ _ _) <|
  mF (pf_LI _ _) <|
  mF (pf_IA _) <|
  mF (pf_I2L _) <|
  mF (pf_LA _ _) <|
  mF (pf_GR _ _ _) <|
  mF (pf_LI _ _) <|
  mF (pf_IA _) <|
  mF (pf_I2L _) <|
  mF (pf_LA _ _) <|
  mF (pf_GR _ _ _) <|
  mF (pf_LI _ _) <|
  mF (pf_IA _) <|
  mF (pf_I2L _) <|
  mF (pf_LA _ _) <|
  mF (pf_GR _ _ _) <|
  mF (pf_LI _ _) <|
  mF (pf_IA _) <|
  mF (pf_I2L _) <|
  mF (pf_CV _ _ mc_X6_put fc_X6_put _) <|
  mF (pf_RV) <|
  mF0
theorem fc_X1_drawLimb : pC C_X1_drawLimb := pRun mt_X1_drawLimb ft_X1_drawLimb 3
theorem ft_X1_drawString : ∀ q ∈ tb_X1_drawString, pF q.2 :=
  mF (pf_LA _ _) <|
  mF (pf_GR _ _ _) <|
  mF (pf_LI _ _) <|
  mF (pf_IA _) <|
  mF (pf_SI _ _) <|
  mF (pf_LA _ _) <|
  mF (pf_GR _ _ _) <|
  mF (pf_LI _ _) <|
  mF (pf_IA _) <|
  mF (pf_SI _ _) <|
  mF (pf_LA _ _) <|
  mF (pf_GR _ _ _) <|
  mF (pf_LI _ _) <|
  mF (pf_IA _) <|
  mF (pf_SI _ _) <|
  mF (pf_LA _ _) <|
  mF (pf_LA _ _) <|
  mF (pf_GR _ _ _) <|
  mF (pf_LI _ _) <|
  mF (pf_IA _) <|
  mF (pf_I2L _) <|
  mF (pf_LA _ _) <|
  mF (pf_GR _ _ _) <|
  mF (pf_LI _ _) <|
  mF (pf_IA _) <|
  mF (pf_I2L _) <|
  mF (pf_LA _ _) <|
  mF (pf_LI _ _) <|
  mF (pf_LI _ _) <|
  mF (pf_CV _ _ mc_X1_spotX fc_X1_spotX _) <|
  mF (pf_I2L _) <|
  mF (pf_LA _ _) <|
  mF (pf_LI _ _) <|
  mF (pf_LI _ _) <|
  mF (pf_CV _ _ mc_X1_spotY fc_X1_spotY _) <|
  mF (pf_I2L _) <|
  mF (pf_CV _ _ mc_X6_put fc_X6_put _) <|
  mF (pf_RV) <|
  mF0
theorem fc_X1_drawString : pC C_X1_drawString := pRun mt_X1_drawString ft_X1_drawString 7
theorem ft_X2_add : ∀ q ∈ tb_X2_add, pF q.2 :=
  mF (pf_LA _ _) <|
  mF (pf_GR _ _ _) <|
  mF (pf_LA _ _) <|
  mF (pf_GI _ _ _) <|
  mF (pf_LI _ _) <|
  mF (pf_IS _) <|
  mF (pf_LA _ _) <|
  mF (pf_GR _ _ _) <|
  mF (pf_LA _ _) <|
  mF (pf_GI _ _ _) <|
  mF (pf_LI _ _) <|
  mF (pf_IS _) <|
  mF (pf_LA _ _) <|
  mF (pf_GR _ _ _) <|
  mF (pf_LA _ _) <|
  mF (pf_GI _ _ _) <|
  mF (pf_LI _ _) <|
  mF (pf_IS _) <|
  mF (pf_LA _ _) <|
  mF (pf_Dup _) <|
  mF (pf_GI _ _ _) <|
  mF (pf_PI _ _) <|
  mF (pf_B _ _) <|
  mF (pf_WI _ _ _) <|
  mF (pf_LA _ _) <|
  mF (pf_GI _ _ _) <|
  mF (pf_RI) <|
  mF0
theorem fc_X2_add : pC C_X2_add := pRun mt_X2_add ft_X2_add 4
theorem ft_X2_keepPose : ∀ q ∈ tb_X2_keepPose, pF q.2 :=
  mF (pf_PI _ _) <|
  mF (pf_SI _ _) <|
  mF (pf_LI _ _) <|
  mF (pf_PI _ _) <|
  mF (pf_Ic _ _ _) <|
  mF (pf_LA _ _) <|
  mF (pf_GR _ _ _) <|
  mF (pf_PI _ _) <|
  mF (pf_LI _ _) <|
  mF (pf_B _ _) <|
  mF (pf_LI _ _) <|
  mF (pf_B _ _) <|
  mF (pf_LI _ _) <|
  mF (pf_LA _ _) <|
  mF (pf_GI _ _ _) <|
  mF (pf_Ic _ _ _) <|
  mF (pf_LA _ _) <|
  mF (pf_GR _ _ _) <|
  mF (pf_LI _ _) <|
  mF (pf_IA _) <|
  mF (pf_Go _) <|
  mF (pf_PI _ _) <|
  mF (pf_IS _) <|
  mF (pf_Inc _ _ _) <|
  mF (pf_Go _) <|
  mF (pf_RV) <|
  mF0
theorem fc_X2_keepPose : pC C_X2_keepPose := pRun mt_X2_keepPose ft_X2_keepPose 4
theorem ft_X2_bendOf : ∀ q ∈ tb_X2_bendOf, pF q.2 :=
  mF (pf_LA _ _) <|
  mF (pf_GR _ _ _) <|
  mF (pf_PI _ _) <|
  mF (pf_LI _ _) <|
  mF (pf_B _ _) <|
  mF (pf_LI _ _) <|
  mF (pf_B _ _) <|
  mF (pf_IA _) <|
  mF (pf_RI) <|
  mF0
theorem fc_X2_bendOf : pC C_X2_bendOf := pRun mt_X2_bendOf ft_X2_bendOf 3
theorem ft_X2_comesRound : ∀ q ∈ tb_X2_comesRound, pF q.2 :=
  mF (pf_LA _ _) <|
  mF (pf_GI _ _ _) <|
  mF (pf_PI _ _) <|
  mF (pf_B _ _) <|
  mF (pf_SI _ _) <|
  mF (pf_PI _ _) <|
  mF (pf_SI _ _) <|
  mF (pf_LI _ _) <|
  mF (pf_LI _ _) <|
  mF (pf_Ic _ _ _) <|
  mF (pf_LA _ _) <|
  mF (pf_PI _ _) <|
  mF (pf_LI _ _) <|
  mF (pf_CV _ _ mc_X2_bendOf fc_X2_bendOf _) <|
  mF (pf_LA _ _) <|
  mF (pf_LI _ _) <|
  mF (pf_LI _ _) <|
  mF (pf_CV _ _ mc_X2_bendOf fc_X2_bendOf _) <|
  mF (pf_Ic _ _ _) <|
  mF (pf_PI _ _) <|
  mF (pf_RZ) <|
  mF (pf_Inc _ _ _) <|
  mF (pf_Go _) <|
  mF (pf_LA _ _) <|
  mF (pf_GR _ _ _) <|
  mF (pf_PI _ _) <|
  mF (pf_IA _) <|
  mF (pf_LA _ _) <|
  mF (pf_GR _ _ _) <|
  mF (pf_LI _ _) <|
  mF (pf_IA _) <|
  mF (pf_Ic _ _ _) <|
  mF (pf_PI _ _) <|
  mF (pf_Go _) <|
  mF (pf_PI _ _) <|
  mF (pf_RZ) <|
  mF0
theorem fc_X2_comesRound : pC C_X2_comesRound := pRun mt_X2_comesRound ft_X2_comesRound 4
theorem ft_X2_become : ∀ q ∈ tb_X2_become, pF q.2 :=
  mF (pf_LA _ _) <|
  mF (pf_GR _ _ _) <|
  mF (pf_LA _ _) <|
  mF (pf_GR _ _ _) <|
  mF (pf_CS _ mc_X10_copyRow fc_X10_copyRow _) <|
  mF (pf_LA _ _) <|
  mF (pf_GR _ _ _) <|
  mF (pf_LA _ _) <|
  mF (pf_GR _ _ _) <|
  mF (pf_CS _ mc_X10_copyRow fc_X10_copyRow _) <|
  mF (pf_LA _ _) <|
  mF (pf_GR _ _ _) <|
  mF (pf_LA _ _) <|
  mF (pf_GR _ _ _) <|
  mF (pf_CS _ mc_X10_copyRow fc_X10_copyRow _) <|
  mF (pf_LA _ _) <|
  mF (pf_GR _ _ _) <|
  mF (pf_LA _ _) <|
  mF (pf_GR _ _ _) <|
  mF (pf_CS _ mc_X10_copyRow fc_X10_copyRow _) <|
  mF (pf_LA _ _) <|
  mF (pf_LA _ _) <|
  mF (pf_GI _ _ _) <|
  mF (pf_WI _ _ _) <|
  mF (pf_LA _ _) <|
  mF (pf_LA _ _) <|
  mF (pf_GI _ _ _) <|
  mF (pf_WI _ _ _) <|
  mF (pf_RV) <|
  mF0
theorem fc_X2_become : pC C_X2_become := pRun mt_X2_become ft_X2_become 2
theorem ft_X2_turnOver : ∀ q ∈ tb_X2_turnOver, pF q.2 :=
  mF (pf_LA _ _) <|
  mF (pf_GR _ _ _) <|
  mF (pf_LA _ _) <|
  mF (pf_GI _ _ _) <|
  mF (pf_CS _ mc_X10_turnSigns fc_X10_turnSigns _) <|
  mF (pf_LA _ _) <|
  mF (pf_GR _ _ _) <|
  mF (pf_LA _ _) <|
  mF (pf_GI _ _ _) <|
  mF (pf_CS _ mc_X10_turnSigns fc_X10_turnSigns _) <|
  mF (pf_LA _ _) <|
  mF (pf_GR _ _ _) <|
  mF (pf_PI _ _) <|
  mF (pf_LA _ _) <|
  mF (pf_GI _ _ _) <|
  mF (pf_B _ _) <|
  mF (pf_CS _ mc_X10_turnSigns fc_X10_turnSigns _) <|
  mF (pf_RV) <|
  mF0
theorem fc_X2_turnOver : pC C_X2_turnOver := pRun mt_X2_turnOver ft_X2_turnOver 1
theorem ft_X5_become : ∀ q ∈ tb_X5_become, pF q.2 :=
  mF (pf_LA _ _) <|
  mF (pf_GR _ _ _) <|
  mF (pf_LA _ _) <|
  mF (pf_GR _ _ _) <|
  mF (pf_CS _ mc_X10_copyRow fc_X10_copyRow _) <|
  mF (pf_LA _ _) <|
  mF (pf_GR _ _ _) <|
  mF (pf_LA _ _) <|
  mF (pf_GR _ _ _) <|
  mF (pf_CS _ mc_X10_copyRow fc_X10_copyRow _) <|
  mF (pf_LA _ _) <|
  mF (pf_GR _ _ _) <|
  mF (pf_LA _ _) <|
  mF (pf_GR _ _ _) <|
  mF (pf_CS _ mc_X10_copyRow fc_X10_copyRow _) <|
  mF (pf_LA _ _) <|
  mF (pf_GR _ _ _) <|
  mF (pf_LA _ _) <|
  mF (pf_GR _ _ _) <|
  mF (pf_CS _ mc_X10_copyRow fc_X10_copyRow _) <|
  mF (pf_LA _ _) <|
  mF (pf_LA _ _) <|
  mF (pf_GI _ _ _) <|
  mF (pf_WI _ _ _) <|
  mF (pf_LA _ _) <|
  mF (pf_LA _ _) <|
  mF (pf_GI _ _ _) <|
  mF (pf_WI _ _ _) <|
  mF (pf_LA _ _) <|
  mF (pf_LA _ _) <|
  mF (pf_GI _ _ _) <|
  mF (pf_WI _ _ _) <|
  mF (pf_RV) <|
  mF0
theorem fc_X5_become : pC C_X5_become := pRun mt_X5_become ft_X5_become 2
theorem ft_X9_become : ∀ q ∈ tb_X9_become, pF q.2 :=
  mF (pf_LA _ _) <|
  mF (pf_GR _ _ _) <|
  mF (pf_LA _ _) <|
  mF (pf_GR _ _ _) <|
  mF (pf_CS _ mc_X10_copyRow fc_X10_copyRow _) <|
  mF (pf_LA _ _) <|
  mF (pf_GR _ _ _) <|
  mF (pf_LA _ _) <|
  mF (pf_GR _ _ _) <|
  mF (pf_CS _ mc_X10_copyRow fc_X10_copyRow _) <|
  mF (pf_LA _ _) <|
  mF (pf_LA _ _) <|
  mF (pf_GI _ _ _) <|
  mF (pf_WI _ _ _) <|
  mF (pf_RV) <|
  mF0
theorem fc_X9_become : pC C_X9_become := pRun mt_X9_become ft_X9_become 2
theorem ft_X4_become : ∀ q ∈ tb_X4_become, pF q.2 :=
  mF (pf_LA _ _) <|
  mF (pf_GR _ _ _) <|
  mF (pf_LA _ _) <|
  mF (pf_GR _ _ _) <|
  mF (pf_CS _ mc_X10_copyRow fc_X10_copyRow _) <|
  mF (pf_LA _ _) <|
  mF (pf_GR _ _ _) <|
  mF (pf_LA _ _) <|
  mF (pf_GR _ _ _) <|
  mF (pf_CS _ mc_X10_copyRow fc_X10_copyRow _) <|
  mF (pf_LA _ _) <|
  mF (pf_GR _ _ _) <|
  mF (pf_LA _ _) <|
  mF (pf_GR _ _ _) <|
  mF (pf_CS _ mc_X10_copyRow fc_X10_copyRow _) <|
  mF (pf_LA _ _) <|
  mF (pf_GR _ _ _) <|
  mF (pf_LA _ _) <|
  mF (pf_GR _ _ _) <|
  mF (pf_CS _ mc_X10_copyRow fc_X10_copyRow _) <|
  mF (pf_LA _ _) <|
  mF (pf_GR _ _ _) <|
  mF (pf_LA _ _) <|
  mF (pf_GR _ _ _) <|
  mF (pf_CS _ mc_X10_copyRow fc_X10_copyRow _) <|
  mF (pf_LA _ _) <|
  mF (pf_GR _ _ _) <|
  mF (pf_LA _ _) <|
  mF (pf_GR _ _ _) <|
  mF (pf_CS _ mc_X10_copyRow fc_X10_copyRow _) <|
  mF (pf_LA _ _) <|
  mF (pf_LA _ _) <|
  mF (pf_GI _ _ _) <|
  mF (pf_WI _ _ _) <|
  mF (pf_RV) <|
  mF0
theorem fc_X4_become : pC C_X4_become := pRun mt_X4_become ft_X4_become 2
theorem ft_X7_become : ∀ q ∈ tb_X7_become, pF q.2 :=
  mF (pf_LA _ _) <|
  mF (pf_GR _ _ _) <|
  mF (pf_LA _ _) <|
  mF (pf_GR _ _ _) <|
  mF (pf_CV _ _ mc_X5_become fc_X5_become _) <|
  mF (pf_LA _ _) <|
  mF (pf_GR _ _ _) <|
  mF (pf_LA _ _) <|
  mF (pf_GR _ _ _) <|
  mF (pf_CV _ _ mc_X9_become fc_X9_become _) <|
  mF (pf_LA _ _) <|
  mF (pf_GR _ _ _) <|
  mF (pf_LA _ _) <|
  mF (pf_GR _ _ _) <|
  mF (pf_CV _ _ mc_X0_become fc_X0_become _) <|
  mF (pf_LA _ _) <|
  mF (pf_GR _ _ _) <|
  mF (pf_LA _ _) <|
  mF (pf_GR _ _ _) <|
  mF (pf_CV _ _ mc_X4_become fc_X4_become _) <|
  mF (pf_LA _ _) <|
  mF (pf_GR _ _ _) <|
  mF (pf_LA _ _) <|
  mF (pf_GR _ _ _) <|
  mF (pf_CV _ _ mc_X2_become fc_X2_become _) <|
  mF (pf_LA _ _) <|
  mF (pf_LA _ _) <|
  mF (pf_GI _ _ _) <|
  mF (pf_WI _ _ _) <|
  mF (pf_RV) <|
  mF0
theorem fc_X7_become : pC C_X7_become := pRun mt_X7_become ft_X7_become 2
theorem ft_X3_keep : ∀ q ∈ tb_X3_keep, pF q.2 :=
  mF (pf_LA _ _) <|
  mF (pf_GR _ _ _) <|
  mF (pf_LA _ _) <|
  mF (pf_GI _ _ _) <|
  mF (pf_AA _) <|
  mF (pf_LA _ _) <|
  mF (pf_CV _ _ mc_X7_become fc_X7_become _) <|
  mF (pf_LA _ _) <|
  mF (pf_GR _ _ _) <|
  mF (pf_LA _ _) <|
  mF (pf_GI _ _ _) <|
  mF (pf_AA _) <|
  mF (pf_LA _ _) <|
  mF (pf_CV _ _ mc_X7_become fc_X7_become _) <|
  mF (pf_LA _ _) <|
  mF (pf_LA _ _) <|
  mF (pf_GI _ _ _) <|
  mF (pf_PI _ _) <|
  mF (pf_B _ _) <|
  mF (pf_PI _ _) <|
  mF (pf_D _ _) <|
  mF (pf_WI _ _ _) <|
  mF (pf_LA _ _) <|
  mF (pf_LA _ _) <|
  mF (pf_GI _ _ _) <|
  mF (pf_PI _ _) <|
  mF (pf_B _ _) <|
  mF (pf_PI _ _) <|
  mF (pf_M2 _ _) <|
  mF (pf_WI _ _ _) <|
  mF (pf_RV) <|
  mF0
theorem fc_X3_keep : pC C_X3_keep := pRun mt_X3_keep ft_X3_keep 3
theorem ft_X3_takeBack : ∀ q ∈ tb_X3_takeBack, pF q.2 :=
  mF (pf_LA _ _) <|
  mF (pf_LA _ _) <|
  mF (pf_GI _ _ _) <|
  mF (pf_PI _ _) <|
  mF (pf_B _ _) <|
  mF (pf_PI _ _) <|
  mF (pf_B _ _) <|
  mF (pf_PI _ _) <|
  mF (pf_D _ _) <|
  mF (pf_WI _ _ _) <|
  mF (pf_LA _ _) <|
  mF (pf_LA _ _) <|
  mF (pf_GR _ _ _) <|
  mF (pf_LA _ _) <|
  mF (pf_GI _ _ _) <|
  mF (pf_AA _) <|
  mF (pf_CV _ _ mc_X7_become fc_X7_become _) <|
  mF (pf_LA _ _) <|
  mF (pf_LA _ _) <|
  mF (pf_GR _ _ _) <|
  mF (pf_LA _ _) <|
  mF (pf_GI _ _ _) <|
  mF (pf_AA _) <|
  mF (pf_CV _ _ mc_X7_become fc_X7_become _) <|
  mF (pf_LA _ _) <|
  mF (pf_Dup _) <|
  mF (pf_GI _ _ _) <|
  mF (pf_PI _ _) <|
  mF (pf_B _ _) <|
  mF (pf_WI _ _ _) <|
  mF (pf_RV) <|
  mF0
theorem fc_X3_takeBack : pC C_X3_takeBack := pRun mt_X3_takeBack ft_X3_takeBack 3
theorem ft_X4_has : ∀ q ∈ tb_X4_has, pF q.2 :=
  mF (pf_LI _ _) <|
  mF (pf_If _ _ _) <|
  mF (pf_LI _ _) <|
  mF (pf_LA _ _) <|
  mF (pf_GI _ _ _) <|
  mF (pf_Ic _ _ _) <|
  mF (pf_PI _ _) <|
  mF (pf_Go _) <|
  mF (pf_PI _ _) <|
  mF (pf_RZ) <|
  mF0
theorem fc_X4_has : pC C_X4_has := pRun mt_X4_has ft_X4_has 2
theorem ft_X4_add : ∀ q ∈ tb_X4_add, pF q.2 :=
  mF (pf_LA _ _) <|
  mF (pf_GI _ _ _) <|
  mF (pf_SI _ _) <|
  mF (pf_LA _ _) <|
  mF (pf_GR _ _ _) <|
  mF (pf_LI _ _) <|
  mF (pf_LI _ _) <|
  mF (pf_IS _) <|
  mF (pf_LA _ _) <|
  mF (pf_GR _ _ _) <|
  mF (pf_LI _ _) <|
  mF (pf_LI _ _) <|
  mF (pf_IS _) <|
  mF (pf_LA _ _) <|
  mF (pf_GR _ _ _) <|
  mF (pf_LI _ _) <|
  mF (pf_LI _ _) <|
  mF (pf_IS _) <|
  mF (pf_LA _ _) <|
  mF (pf_GR _ _ _) <|
  mF (pf_LI _ _) <|
  mF (pf_LI _ _) <|
  mF (pf_IS _) <|
  mF (pf_LA _ _) <|
  mF (pf_GR _ _ _) <|
  mF (pf_LI _ _) <|
  mF (pf_LI _ _) <|
  mF (pf_IS _) <|
  mF (pf_LA _ _) <|
  mF (pf_GR _ _ _) <|
  mF (pf_LI _ _) <|
  mF (pf_PI _ _) <|
  mF (pf_IS _) <|
  mF (pf_LA _ _) <|
  mF (pf_Dup _) <|
  mF (pf_GI _ _ _) <|
  mF (pf_PI _ _) <|
  mF (pf_B _ _) <|
  mF (pf_WI _ _ _) <|
  mF (pf_LI _ _) <|
  mF (pf_RI) <|
  mF0
theorem fc_X4_add : pC C_X4_add := pRun mt_X4_add ft_X4_add 7
theorem ft_X4_closeGap : ∀ q ∈ tb_X4_closeGap, pF q.2 :=
  mF (pf_LI _ _) <|
  mF (pf_SI _ _) <|
  mF (pf_LI _ _) <|
  mF (pf_PI _ _) <|
  mF (pf_B _ _) <|
  mF (pf_LA _ _) <|
  mF (pf_GI _ _ _) <|
  mF (pf_Ic _ _ _) <|
  mF (pf_LA _ _) <|
  mF (pf_LI _ _) <|
  mF (pf_LA _ _) <|
  mF (pf_LI _ _) <|
  mF (pf_PI _ _) <|
  mF (pf_B _ _) <|
  mF (pf_IA _) <|
  mF (pf_IS _) <|
  mF (pf_Inc _ _ _) <|
  mF (pf_Go _) <|
  mF (pf_RV) <|
  mF0
theorem fc_X4_closeGap : pC C_X4_closeGap := pRun mt_X4_closeGap ft_X4_closeGap 4
theorem ft_X4_remove : ∀ q ∈ tb_X4_remove, pF q.2 :=
  mF (pf_LA _ _) <|
  mF (pf_LA _ _) <|
  mF (pf_GR _ _ _) <|
  mF (pf_LI _ _) <|
  mF (pf_CV _ _ mc_X4_closeGap fc_X4_closeGap _) <|
  mF (pf_LA _ _) <|
  mF (pf_LA _ _) <|
  mF (pf_GR _ _ _) <|
  mF (pf_LI _ _) <|
  mF (pf_CV _ _ mc_X4_closeGap fc_X4_closeGap _) <|
  mF (pf_LA _ _) <|
  mF (pf_LA _ _) <|
  mF (pf_GR _ _ _) <|
  mF (pf_LI _ _) <|
  mF (pf_CV _ _ mc_X4_closeGap fc_X4_closeGap _) <|
  mF (pf_LA _ _) <|
  mF (pf_LA _ _) <|
  mF (pf_GR _ _ _) <|
  mF (pf_LI _ _) <|
  mF (pf_CV _ _ mc_X4_closeGap fc_X4_closeGap _) <|
  mF (pf_LA _ _) <|
  mF (pf_LA _ _) <|
  mF (pf_GR _ _ _) <|
  mF (pf_LI _ _) <|
  mF (pf_CV _ _ mc_X4_closeGap fc_X4_closeGap _) <|
  mF (pf_LA _ _) <|
  mF (pf_LA _ _) <|
  mF (pf_GR _ _ _) <|
  mF (pf_LI _ _) <|
  mF (pf_CV _ _ mc_X4_closeGap fc_X4_closeGap _) <|
  mF (pf_LA _ _) <|
  mF (pf_Dup _) <|
  mF (pf_GI _ _ _) <|
  mF (pf_PI _ _) <|
  mF (pf_B _ _) <|
  mF (pf_WI _ _ _) <|
  mF (pf_RV) <|
  mF0
theorem fc_X4_remove : pC C_X4_remove := pRun mt_X4_remove ft_X4_remove 2
theorem ft_X4_removeAllOn : ∀ q ∈ tb_X4_removeAllOn, pF q.2 :=
  mF (pf_LA _ _) <|
  mF (pf_GI _ _ _) <|
  mF (pf_PI _ _) <|
  mF (pf_B _ _) <|
  mF (pf_SI _ _) <|
  mF (pf_LI _ _) <|
  mF (pf_If _ _ _) <|
  mF (pf_LA _ _) <|
  mF (pf_GR _ _ _) <|
  mF (pf_LI _ _) <|
  mF (pf_IA _) <|
  mF (pf_LI _ _) <|
  mF (pf_Ic _ _ _) <|
  mF (pf_LA _ _) <|
  mF (pf_LI _ _) <|
  mF (pf_CV _ _ mc_X4_remove fc_X4_remove _) <|
  mF (pf_Inc _ _ _) <|
  mF (pf_Go _) <|
  mF (pf_RV) <|
  mF0
theorem fc_X4_removeAllOn : pC C_X4_removeAllOn := pRun mt_X4_removeAllOn ft_X4_removeAllOn 3
theorem ft_X4_isTaut : ∀ q ∈ tb_X4_isTaut, pF q.2 :=
  mF (pf_LA _ _) <|
  mF (pf_GR _ _ _) <|
  mF (pf_LI _ _) <|
  mF (pf_IA _) <|
  mF (pf_PI _ _) <|
  mF (pf_Ic _ _ _) <|
  mF (pf_LL _ _) <|
  mF (pf_LA _ _) <|
  mF (pf_LI _ _) <|
  mF (pf_CV _ _ mc_X4_free fc_X4_free _) <|
  mF (pf_PI _ _) <|
  mF (pf_B _ _) <|
  mF (pf_I2L _) <|
  mF (pf_Cmp _) <|
  mF (pf_If _ _ _) <|
  mF (pf_PI _ _) <|
  mF (pf_Go _) <|
  mF (pf_PI _ _) <|
  mF (pf_RZ) <|
  mF0
theorem fc_X4_isTaut : pC C_X4_isTaut := pRun mt_X4_isTaut ft_X4_isTaut 4
theorem ft_X5_has : ∀ q ∈ tb_X5_has, pF q.2 :=
  mF (pf_LI _ _) <|
  mF (pf_If _ _ _) <|
  mF (pf_LI _ _) <|
  mF (pf_LA _ _) <|
  mF (pf_GI _ _ _) <|
  mF (pf_Ic _ _ _) <|
  mF (pf_PI _ _) <|
  mF (pf_Go _) <|
  mF (pf_PI _ _) <|
  mF (pf_RZ) <|
  mF0
theorem fc_X5_has : pC C_X5_has := pRun mt_X5_has ft_X5_has 2
theorem ft_X5_add : ∀ q ∈ tb_X5_add, pF q.2 :=
  mF (pf_LA _ _) <|
  mF (pf_GI _ _ _) <|
  mF (pf_SI _ _) <|
  mF (pf_LA _ _) <|
  mF (pf_GR _ _ _) <|
  mF (pf_LI _ _) <|
  mF (pf_LI _ _) <|
  mF (pf_IS _) <|
  mF (pf_LA _ _) <|
  mF (pf_GR _ _ _) <|
  mF (pf_LI _ _) <|
  mF (pf_LI _ _) <|
  mF (pf_IS _) <|
  mF (pf_LA _ _) <|
  mF (pf_GR _ _ _) <|
  mF (pf_LI _ _) <|
  mF (pf_LI _ _) <|
  mF (pf_IS _) <|
  mF (pf_LA _ _) <|
  mF (pf_GR _ _ _) <|
  mF (pf_LI _ _) <|
  mF (pf_PI _ _) <|
  mF (pf_IS _) <|
  mF (pf_LA _ _) <|
  mF (pf_Dup _) <|
  mF (pf_GI _ _ _) <|
  mF (pf_PI _ _) <|
  mF (pf_B _ _) <|
  mF (pf_WI _ _ _) <|
  mF (pf_LI _ _) <|
  mF (pf_RI) <|
  mF0
theorem fc_X5_add : pC C_X5_add := pRun mt_X5_add ft_X5_add 5
theorem ft_X5_removeLast : ∀ q ∈ tb_X5_removeLast, pF q.2 :=
  mF (pf_LA _ _) <|
  mF (pf_Dup _) <|
  mF (pf_GI _ _ _) <|
  mF (pf_PI _ _) <|
  mF (pf_B _ _) <|
  mF (pf_WI _ _ _) <|
  mF (pf_LA _ _) <|
  mF (pf_GR _ _ _) <|
  mF (pf_LA _ _) <|
  mF (pf_GI _ _ _) <|
  mF (pf_IA _) <|
  mF (pf_RI) <|
  mF0
theorem fc_X5_removeLast : pC C_X5_removeLast := pRun mt_X5_removeLast ft_X5_removeLast 1
theorem ft_X5_turnOver : ∀ q ∈ tb_X5_turnOver, pF q.2 :=
  mF (pf_LA _ _) <|
  mF (pf_LA _ _) <|
  mF (pf_GI _ _ _) <|
  mF (pf_U _ _) <|
  mF (pf_WI _ _ _) <|
  mF (pf_LA _ _) <|
  mF (pf_GR _ _ _) <|
  mF (pf_LA _ _) <|
  mF (pf_GI _ _ _) <|
  mF (pf_CS _ mc_X10_turnSigns fc_X10_turnSigns _) <|
  mF (pf_RV) <|
  mF0
theorem fc_X5_turnOver : pC C_X5_turnOver := pRun mt_X5_turnOver ft_X5_turnOver 1
theorem ft_J13_signum_95d88 : ∀ q ∈ tb_J13_signum_95d88, pF q.2 :=
  mF (pf_LL _ _) <|
  mF (pf_PI _ _) <|
  mF (pf_Sh _ _) <|
  mF (pf_LL _ _) <|
  mF (pf_UL _ _) <|
  mF (pf_PI _ _) <|
  mF (pf_Sh _ _) <|
  mF (pf_BL _ _) <|
  mF (pf_L2I _) <|
  mF (pf_RI) <|
  mF0
theorem fc_J13_signum_95d88 : pC C_J13_signum_95d88 := pRun mt_J13_signum_95d88 ft_J13_signum_95d88 2
theorem ft_X6_sideOf : ∀ q ∈ tb_X6_sideOf, pF q.2 :=
  mF (pf_LA _ _) <|
  mF (pf_GL _ _ _) <|
  mF (pf_LA _ _) <|
  mF (pf_GL _ _ _) <|
  mF (pf_BL _ _) <|
  mF (pf_LL _ _) <|
  mF (pf_LA _ _) <|
  mF (pf_GL _ _ _) <|
  mF (pf_BL _ _) <|
  mF (pf_BL _ _) <|
  mF (pf_LA _ _) <|
  mF (pf_GL _ _ _) <|
  mF (pf_LA _ _) <|
  mF (pf_GL _ _ _) <|
  mF (pf_BL _ _) <|
  mF (pf_LL _ _) <|
  mF (pf_LA _ _) <|
  mF (pf_GL _ _ _) <|
  mF (pf_BL _ _) <|
  mF (pf_BL _ _) <|
  mF (pf_BL _ _) <|
  mF (pf_CS _ mc_J13_signum_95d88 fc_J13_signum_95d88 _) <|
  mF (pf_RI) <|
  mF0
theorem fc_X6_sideOf : pC C_X6_sideOf := pRun mt_X6_sideOf ft_X6_sideOf 5
theorem ft_X6_sidesOf : ∀ q ∈ tb_X6_sidesOf, pF q.2 :=
  mF (pf_LA _ _) <|
  mF (pf_LA _ _) <|
  mF (pf_GL _ _ _) <|
  mF (pf_LA _ _) <|
  mF (pf_GL _ _ _) <|
  mF (pf_CV _ _ mc_X6_sideOf fc_X6_sideOf _) <|
  mF (pf_LA _ _) <|
  mF (pf_LA _ _) <|
  mF (pf_GL _ _ _) <|
  mF (pf_LA _ _) <|
  mF (pf_GL _ _ _) <|
  mF (pf_CV _ _ mc_X6_sideOf fc_X6_sideOf _) <|
  mF (pf_B _ _) <|
  mF (pf_RI) <|
  mF0
theorem fc_X6_sidesOf : pC C_X6_sidesOf := pRun mt_X6_sidesOf ft_X6_sidesOf 2
theorem ft_X6_goesThrough : ∀ q ∈ tb_X6_goesThrough, pF q.2 :=
  mF (pf_LA _ _) <|
  mF (pf_LA _ _) <|
  mF (pf_CV _ _ mc_X6_sidesOf fc_X6_sidesOf _) <|
  mF (pf_If _ _ _) <|
  mF (pf_LA _ _) <|
  mF (pf_LA _ _) <|
  mF (pf_CV _ _ mc_X6_sidesOf fc_X6_sidesOf _) <|
  mF (pf_If _ _ _) <|
  mF (pf_PI _ _) <|
  mF (pf_Go _) <|
  mF (pf_PI _ _) <|
  mF (pf_RZ) <|
  mF0
theorem fc_X6_goesThrough : pC C_X6_goesThrough := pRun mt_X6_goesThrough ft_X6_goesThrough 2
theorem ft_X6_spreadsMeet : ∀ q ∈ tb_X6_spreadsMeet, pF q.2 :=
  mF (pf_LL _ _) <|
  mF (pf_LL _ _) <|
  mF (pf_M2L _ _) <|
  mF (pf_LL _ _) <|
  mF (pf_LL _ _) <|
  mF (pf_M2L _ _) <|
  mF (pf_Cmp _) <|
  mF (pf_If _ _ _) <|
  mF (pf_LL _ _) <|
  mF (pf_LL _ _) <|
  mF (pf_M2L _ _) <|
  mF (pf_LL _ _) <|
  mF (pf_LL _ _) <|
  mF (pf_M2L _ _) <|
  mF (pf_Cmp _) <|
  mF (pf_If _ _ _) <|
  mF (pf_PI _ _) <|
  mF (pf_Go _) <|
  mF (pf_PI _ _) <|
  mF (pf_RZ) <|
  mF0
theorem fc_X6_spreadsMeet : pC C_X6_spreadsMeet := pRun mt_X6_spreadsMeet ft_X6_spreadsMeet 8
theorem ft_X6_touches : ∀ q ∈ tb_X6_touches, pF q.2 :=
  mF (pf_LA _ _) <|
  mF (pf_GL _ _ _) <|
  mF (pf_LA _ _) <|
  mF (pf_GL _ _ _) <|
  mF (pf_LA _ _) <|
  mF (pf_GL _ _ _) <|
  mF (pf_LA _ _) <|
  mF (pf_GL _ _ _) <|
  mF (pf_CS _ mc_X6_spreadsMeet fc_X6_spreadsMeet _) <|
  mF (pf_If _ _ _) <|
  mF (pf_LA _ _) <|
  mF (pf_GL _ _ _) <|
  mF (pf_LA _ _) <|
  mF (pf_GL _ _ _) <|
  mF (pf_LA _ _) <|
  mF (pf_GL _ _ _) <|
  mF (pf_LA _ _) <|
  mF (pf_GL _ _ _) <|
  mF (pf_CS _ mc_X6_spreadsMeet fc_X6_spreadsMeet _) <|
  mF (pf_If _ _ _) <|
  mF (pf_LA _ _) <|
  mF (pf_LA _ _) <|
  mF (pf_CV _ _ mc_X6_sidesOf fc_X6_sidesOf _) <|
  mF (pf_If _ _ _) <|
  mF (pf_LA _ _) <|
  mF (pf_LA _ _) <|
  mF (pf_CV _ _ mc_X6_sidesOf fc_X6_sidesOf _) <|
  mF (pf_If _ _ _) <|
  mF (pf_PI _ _) <|
  mF (pf_Go _) <|
  mF (pf_PI _ _) <|
  mF (pf_RZ) <|
  mF0
theorem fc_X6_touches : pC C_X6_touches := pRun mt_X6_touches ft_X6_touches 2
theorem ft_X10_isAmong : ∀ q ∈ tb_X10_isAmong, pF q.2 :=
  mF (pf_PI _ _) <|
  mF (pf_SI _ _) <|
  mF (pf_LI _ _) <|
  mF (pf_LI _ _) <|
  mF (pf_Ic _ _ _) <|
  mF (pf_LI _ _) <|
  mF (pf_LA _ _) <|
  mF (pf_Len _) <|
  mF (pf_Ic _ _ _) <|
  mF (pf_LA _ _) <|
  mF (pf_LI _ _) <|
  mF (pf_IA _) <|
  mF (pf_LI _ _) <|
  mF (pf_Ic _ _ _) <|
  mF (pf_PI _ _) <|
  mF (pf_RZ) <|
  mF (pf_Inc _ _ _) <|
  mF (pf_Go _) <|
  mF (pf_PI _ _) <|
  mF (pf_RZ) <|
  mF0
theorem fc_X10_isAmong : pC C_X10_isAmong := pRun mt_X10_isAmong ft_X10_isAmong 4
theorem ft_X7_hasMirrorImage : ∀ q ∈ tb_X7_hasMirrorImage, pF q.2 :=
  mF (pf_LA _ _) <|
  mF (pf_GR _ _ _) <|
  mF (pf_GI _ _ _) <|
  mF (pf_PI _ _) <|
  mF (pf_Ic _ _ _) <|
  mF (pf_PI _ _) <|
  mF (pf_LA _ _) <|
  mF (pf_GR _ _ _) <|
  mF (pf_GR _ _ _) <|
  mF (pf_LA _ _) <|
  mF (pf_GR _ _ _) <|
  mF (pf_GI _ _ _) <|
  mF (pf_CS _ mc_X10_isAmong fc_X10_isAmong _) <|
  mF (pf_If _ _ _) <|
  mF (pf_PI _ _) <|
  mF (pf_LA _ _) <|
  mF (pf_GR _ _ _) <|
  mF (pf_GR _ _ _) <|
  mF (pf_LA _ _) <|
  mF (pf_GR _ _ _) <|
  mF (pf_GI _ _ _) <|
  mF (pf_CS _ mc_X10_isAmong fc_X10_isAmong _) <|
  mF (pf_If _ _ _) <|
  mF (pf_PI _ _) <|
  mF (pf_LA _ _) <|
  mF (pf_GR _ _ _) <|
  mF (pf_GR _ _ _) <|
  mF (pf_LA _ _) <|
  mF (pf_GR _ _ _) <|
  mF (pf_GI _ _ _) <|
  mF (pf_CS _ mc_X10_isAmong fc_X10_isAmong _) <|
  mF (pf_If _ _ _) <|
  mF (pf_PI _ _) <|
  mF (pf_LA _ _) <|
  mF (pf_GR _ _ _) <|
  mF (pf_GR _ _ _) <|
  mF (pf_PI _ _) <|
  mF (pf_LA _ _) <|
  mF (pf_GR _ _ _) <|
  mF (pf_GI _ _ _) <|
  mF (pf_B _ _) <|
  mF (pf_CS _ mc_X10_isAmong fc_X10_isAmong _) <|
  mF (pf_If _ _ _) <|
  mF (pf_PI _ _) <|
  mF (pf_Go _) <|
  mF (pf_PI _ _) <|
  mF (pf_RZ) <|
  mF0
theorem fc_X7_hasMirrorImage : pC C_X7_hasMirrorImage := pRun mt_X7_hasMirrorImage ft_X7_hasMirrorImage 1
theorem ft_X9_turnOver : ∀ q ∈ tb_X9_turnOver, pF q.2 :=
  mF (pf_PI _ _) <|
  mF (pf_SI _ _) <|
  mF (pf_LI _ _) <|
  mF (pf_LA _ _) <|
  mF (pf_GI _ _ _) <|
  mF (pf_Ic _ _ _) <|
  mF (pf_LA _ _) <|
  mF (pf_GR _ _ _) <|
  mF (pf_LI _ _) <|
  mF (pf_IA _) <|
  mF (pf_SI _ _) <|
  mF (pf_LA _ _) <|
  mF (pf_GR _ _ _) <|
  mF (pf_LI _ _) <|
  mF (pf_LA _ _) <|
  mF (pf_GR _ _ _) <|
  mF (pf_LI _ _) <|
  mF (pf_IA _) <|
  mF (pf_U _ _) <|
  mF (pf_IS _) <|
  mF (pf_LA _ _) <|
  mF (pf_GR _ _ _) <|
  mF (pf_LI _ _) <|
  mF (pf_LI _ _) <|
  mF (pf_U _ _) <|
  mF (pf_IS _) <|
  mF (pf_Inc _ _ _) <|
  mF (pf_Go _) <|
  mF (pf_RV) <|
  mF0
theorem fc_X9_turnOver : pC C_X9_turnOver := pRun mt_X9_turnOver ft_X9_turnOver 3
theorem ft_X7_turnOver : ∀ q ∈ tb_X7_turnOver, pF q.2 :=
  mF (pf_LA _ _) <|
  mF (pf_GR _ _ _) <|
  mF (pf_CV _ _ mc_X5_turnOver fc_X5_turnOver _) <|
  mF (pf_LA _ _) <|
  mF (pf_GR _ _ _) <|
  mF (pf_CV _ _ mc_X9_turnOver fc_X9_turnOver _) <|
  mF (pf_LA _ _) <|
  mF (pf_GR _ _ _) <|
  mF (pf_CV _ _ mc_X0_turnOver fc_X0_turnOver _) <|
  mF (pf_LA _ _) <|
  mF (pf_GR _ _ _) <|
  mF (pf_CV _ _ mc_X2_turnOver fc_X2_turnOver _) <|
  mF (pf_LA _ _) <|
  mF (pf_PI _ _) <|
  mF (pf_LA _ _) <|
  mF (pf_GI _ _ _) <|
  mF (pf_B _ _) <|
  mF (pf_WI _ _ _) <|
  mF (pf_RV) <|
  mF0
theorem fc_X7_turnOver : pC C_X7_turnOver := pRun mt_X7_turnOver ft_X7_turnOver 1
theorem ft_X9_has : ∀ q ∈ tb_X9_has, pF q.2 :=
  mF (pf_LI _ _) <|
  mF (pf_If _ _ _) <|
  mF (pf_LI _ _) <|
  mF (pf_LA _ _) <|
  mF (pf_GI _ _ _) <|
  mF (pf_Ic _ _ _) <|
  mF (pf_PI _ _) <|
  mF (pf_Go _) <|
  mF (pf_PI _ _) <|
  mF (pf_RZ) <|
  mF0
theorem fc_X9_has : pC C_X9_has := pRun mt_X9_has ft_X9_has 2
theorem ft_X9_leastOf : ∀ q ∈ tb_X9_leastOf, pF q.2 :=
  mF (pf_LA _ _) <|
  mF (pf_LI _ _) <|
  mF (pf_CV _ _ mc_X9_has fc_X9_has _) <|
  mF (pf_If _ _ _) <|
  mF (pf_LA _ _) <|
  mF (pf_GR _ _ _) <|
  mF (pf_LI _ _) <|
  mF (pf_IA _) <|
  mF (pf_Go _) <|
  mF (pf_PI _ _) <|
  mF (pf_RI) <|
  mF0
theorem fc_X9_leastOf : pC C_X9_leastOf := pRun mt_X9_leastOf ft_X9_leastOf 2
theorem ft_X9_greatestOf : ∀ q ∈ tb_X9_greatestOf, pF q.2 :=
  mF (pf_LA _ _) <|
  mF (pf_LI _ _) <|
  mF (pf_CV _ _ mc_X9_has fc_X9_has _) <|
  mF (pf_If _ _ _) <|
  mF (pf_LA _ _) <|
  mF (pf_GR _ _ _) <|
  mF (pf_LI _ _) <|
  mF (pf_IA _) <|
  mF (pf_Go _) <|
  mF (pf_PI _ _) <|
  mF (pf_RI) <|
  mF0
theorem fc_X9_greatestOf : pC C_X9_greatestOf := pRun mt_X9_greatestOf ft_X9_greatestOf 2
theorem ft_X9_allow : ∀ q ∈ tb_X9_allow, pF q.2 :=
  mF (pf_LI _ _) <|
  mF (pf_LA _ _) <|
  mF (pf_LI _ _) <|
  mF (pf_CV _ _ mc_X9_leastOf fc_X9_leastOf _) <|
  mF (pf_Ic _ _ _) <|
  mF (pf_LI _ _) <|
  mF (pf_LA _ _) <|
  mF (pf_LI _ _) <|
  mF (pf_CV _ _ mc_X9_greatestOf fc_X9_greatestOf _) <|
  mF (pf_Ic _ _ _) <|
  mF (pf_PI _ _) <|
  mF (pf_Go _) <|
  mF (pf_PI _ _) <|
  mF (pf_RZ) <|
  mF0
theorem fc_X9_allow : pC C_X9_allow := pRun mt_X9_allow ft_X9_allow 3
theorem ft_X8_tryOne : ∀ q ∈ tb_X8_tryOne, pF q.2 :=
  mF (pf_LA _ _) <|
  mF (pf_GR _ _ _) <|
  mF (pf_GR _ _ _) <|
  mF (pf_SA _ _) <|
  mF (pf_LA _ _) <|
  mF (pf_GR _ _ _) <|
  mF (pf_LI _ _) <|
  mF (pf_LA _ _) <|
  mF (pf_LI _ _) <|
  mF (pf_IA _) <|
  mF (pf_LI _ _) <|
  mF (pf_B _ _) <|
  mF (pf_CV _ _ mc_X9_allow fc_X9_allow _) <|
  mF (pf_If _ _ _) <|
  mF (pf_PI _ _) <|
  mF (pf_RZ) <|
  mF (pf_LA _ _) <|
  mF (pf_LI _ _) <|
  mF (pf_Dup2 _) <|
  mF (pf_IA _) <|
  mF (pf_LI _ _) <|
  mF (pf_B _ _) <|
  mF (pf_IS _) <|
  mF (pf_LA _ _) <|
  mF (pf_GR _ _ _) <|
  mF (pf_LA _ _) <|
  mF (pf_CV _ _ mc_X1_isBetter fc_X1_isBetter _) <|
  mF (pf_If _ _ _) <|
  mF (pf_PI _ _) <|
  mF (pf_RZ) <|
  mF (pf_LA _ _) <|
  mF (pf_LI _ _) <|
  mF (pf_Dup2 _) <|
  mF (pf_IA _) <|
  mF (pf_LI _ _) <|
  mF (pf_B _ _) <|
  mF (pf_IS _) <|
  mF (pf_PI _ _) <|
  mF (pf_RZ) <|
  mF0
theorem fc_X8_tryOne : pC C_X8_tryOne := pRun mt_X8_tryOne ft_X8_tryOne 5
theorem ft_X8_tryTwo : ∀ q ∈ tb_X8_tryTwo, pF q.2 :=
  mF (pf_LA _ _) <|
  mF (pf_GR _ _ _) <|
  mF (pf_GR _ _ _) <|
  mF (pf_SA _ _) <|
  mF (pf_LA _ _) <|
  mF (pf_GR _ _ _) <|
  mF (pf_LI _ _) <|
  mF (pf_LA _ _) <|
  mF (pf_LI _ _) <|
  mF (pf_IA _) <|
  mF (pf_LI _ _) <|
  mF (pf_B _ _) <|
  mF (pf_CV _ _ mc_X9_allow fc_X9_allow _) <|
  mF (pf_If _ _ _) <|
  mF (pf_LA _ _) <|
  mF (pf_GR _ _ _) <|
  mF (pf_LI _ _) <|
  mF (pf_LA _ _) <|
  mF (pf_LI _ _) <|
  mF (pf_IA _) <|
  mF (pf_LI _ _) <|
  mF (pf_B _ _) <|
  mF (pf_CV _ _ mc_X9_allow fc_X9_allow _) <|
  mF (pf_If _ _ _) <|
  mF (pf_PI _ _) <|
  mF (pf_RZ) <|
  mF (pf_LA _ _) <|
  mF (pf_LI _ _) <|
  mF (pf_Dup2 _) <|
  mF (pf_IA _) <|
  mF (pf_LI _ _) <|
  mF (pf_B _ _) <|
  mF (pf_IS _) <|
  mF (pf_LA _ _) <|
  mF (pf_LI _ _) <|
  mF (pf_Dup2 _) <|
  mF (pf_IA _) <|
  mF (pf_LI _ _) <|
  mF (pf_B _ _) <|
  mF (pf_IS _) <|
  mF (pf_LA _ _) <|
  mF (pf_GR _ _ _) <|
  mF (pf_LA _ _) <|
  mF (pf_CV _ _ mc_X1_isBetter fc_X1_isBetter _) <|
  mF (pf_If _ _ _) <|
  mF (pf_PI _ _) <|
  mF (pf_RZ) <|
  mF (pf_LA _ _) <|
  mF (pf_LI _ _) <|
  mF (pf_Dup2 _) <|
  mF (pf_IA _) <|
  mF (pf_LI _ _) <|
  mF (pf_B _ _) <|
  mF (pf_IS _) <|
  mF (pf_LA _ _) <|
  mF (pf_LI _ _) <|
  mF (pf_Dup2 _) <|
  mF (pf_IA _) <|
  mF (pf_LI _ _) <|
  mF (pf_B _ _) <|
  mF (pf_IS _) <|
  mF (pf_PI _ _) <|
  mF (pf_RZ) <|
  mF0
theorem fc_X8_tryTwo : pC C_X8_tryTwo := pRun mt_X8_tryTwo ft_X8_tryTwo 7
theorem ft_X8_stepBetter_c0 : ∀ q ∈ tb_X8_stepBetter_c0, pF q.2 :=
  mF (pf_LA _ _) <|
  mF (pf_GI _ _ _) <|
  mF (pf_If _ _ _) <|
  mF (pf_PI _ _) <|
  mF (pf_Go _) <|
  mF (pf_PI _ _) <|
  mF (pf_SI _ _) <|
  mF (pf_LA _ _) <|
  mF (pf_GR _ _ _) <|
  mF (pf_GI _ _ _) <|
  mF (pf_SI _ _) <|
  mF (pf_PI _ _) <|
  mF (pf_SI _ _) <|
  mF (pf_LI _ _) <|
  mF (pf_LI _ _) <|
  mF (pf_Ic _ _ _) <|
  mF (pf_LA _ _) <|
  mF (pf_LA _ _) <|
  mF (pf_LI _ _) <|
  mF (pf_LI _ _) <|
  mF (pf_CV _ _ mc_X8_tryOne fc_X8_tryOne _) <|
  mF (pf_If _ _ _) <|
  mF (pf_LA _ _) <|
  mF (pf_LA _ _) <|
  mF (pf_LI _ _) <|
  mF (pf_LI _ _) <|
  mF (pf_U _ _) <|
  mF (pf_CV _ _ mc_X8_tryOne fc_X8_tryOne _) <|
  mF (pf_If _ _ _) <|
  mF (pf_PI _ _) <|
  mF (pf_RZ) <|
  mF (pf_Inc _ _ _) <|
  mF (pf_Go _) <|
  mF (pf_PI _ _) <|
  mF (pf_SI _ _) <|
  mF (pf_LI _ _) <|
  mF (pf_LI _ _) <|
  mF (pf_Ic _ _ _) <|
  mF (pf_LI _ _) <|
  mF (pf_PI _ _) <|
  mF (pf_B _ _) <|
  mF (pf_SI _ _) <|
  mF (pf_LI _ _) <|
  mF (pf_LI _ _) <|
  mF (pf_Ic _ _ _) <|
  mF (pf_LA _ _) <|
  mF (pf_LA _ _) <|
  mF (pf_LI _ _) <|
  mF (pf_LI _ _) <|
  mF (pf_LI _ _) <|
  mF (pf_LI _ _) <|
  mF (pf_CV _ _ mc_X8_tryTwo fc_X8_tryTwo _) <|
  mF (pf_If _ _ _) <|
  mF (pf_LA _ _) <|
  mF (pf_LA _ _) <|
  mF (pf_LI _ _) <|
  mF (pf_LI _ _) <|
  mF (pf_LI _ _) <|
  mF (pf_LI _ _) <|
  mF (pf_U _ _) <|
  mF (pf_CV _ _ mc_X8_tryTwo fc_X8_tryTwo _) <|
  mF (pf_If _ _ _) <|
  mF (pf_LA _ _) <|
  mF (pf_LA _ _) <|
  mF (pf_LI _ _) <|
  mF (pf_LI _ _) <|
  mF (pf_U _ _) <|
  mF (pf_LI _ _) <|
  mF (pf_LI _ _) <|
  mF (pf_CV _ _ mc_X8_tryTwo fc_X8_tryTwo _) <|
  mF0
theorem ft_X8_stepBetter_c1 : ∀ q ∈ tb_X8_stepBetter_c1, pF q.2 :=
  mF (pf_If _ _ _) <|
  mF (pf_LA _ _) <|
  mF (pf_LA _ _) <|
  mF (pf_LI _ _) <|
  mF (pf_LI _ _) <|
  mF (pf_U _ _) <|
  mF (pf_LI _ _) <|
  mF (pf_LI _ _) <|
  mF (pf_U _ _) <|
  mF (pf_CV _ _ mc_X8_tryTwo fc_X8_tryTwo _) <|
  mF (pf_If _ _ _) <|
  mF (pf_PI _ _) <|
  mF (pf_RZ) <|
  mF (pf_Inc _ _ _) <|
  mF (pf_Go _) <|
  mF (pf_Inc _ _ _) <|
  mF (pf_Go _) <|
  mF (pf_PI _ _) <|
  mF (pf_RZ) <|
  mF0
theorem ft_X8_stepBetter : ∀ q ∈ tb_X8_stepBetter, pF q.2 := mFA ft_X8_stepBetter_c0 ft_X8_stepBetter_c1
theorem fc_X8_stepBetter : pC C_X8_stepBetter := pRun mt_X8_stepBetter ft_X8_stepBetter 6
theorem ft_X8_settle : ∀ q ∈ tb_X8_settle, pF q.2 :=
  mF (pf_LA _ _) <|
  mF (pf_GR _ _ _) <|
  mF (pf_LA _ _) <|
  mF (pf_GR _ _ _) <|
  mF (pf_CV _ _ mc_X1_begin fc_X1_begin _) <|
  mF (pf_LA _ _) <|
  mF (pf_GR _ _ _) <|
  mF (pf_LA _ _) <|
  mF (pf_CV _ _ mc_X1_isBetter fc_X1_isBetter _) <|
  mF (pf_Pop _) <|
  mF (pf_PI _ _) <|
  mF (pf_SI _ _) <|
  mF (pf_LI _ _) <|
  mF (pf_LI _ _) <|
  mF (pf_Ic _ _ _) <|
  mF (pf_LA _ _) <|
  mF (pf_LA _ _) <|
  mF (pf_CV _ _ mc_X8_stepBetter fc_X8_stepBetter _) <|
  mF (pf_If _ _ _) <|
  mF (pf_Inc _ _ _) <|
  mF (pf_Go _) <|
  mF (pf_LI _ _) <|
  mF (pf_RI) <|
  mF0
theorem fc_X8_settle : pC C_X8_settle := pRun mt_X8_settle ft_X8_settle 4
theorem ft_X8_findLowest_c0 : ∀ q ∈ tb_X8_findLowest_c0, pF q.2 :=
  mF (pf_LA _ _) <|
  mF (pf_GR _ _ _) <|
  mF (pf_GR _ _ _) <|
  mF (pf_SA _ _) <|
  mF (pf_LA _ _) <|
  mF (pf_LA _ _) <|
  mF (pf_CS _ mc_X10_copyRow fc_X10_copyRow _) <|
  mF (pf_LA _ _) <|
  mF (pf_GR _ _ _) <|
  mF (pf_LA _ _) <|
  mF (pf_GR _ _ _) <|
  mF (pf_CV _ _ mc_X1_begin fc_X1_begin _) <|
  mF (pf_LA _ _) <|
  mF (pf_GR _ _ _) <|
  mF (pf_GI _ _ _) <|
  mF (pf_PI _ _) <|
  mF (pf_Ic _ _ _) <|
  mF (pf_PI _ _) <|
  mF (pf_Go _) <|
  mF (pf_PI _ _) <|
  mF (pf_SI _ _) <|
  mF (pf_LI _ _) <|
  mF (pf_If _ _ _) <|
  mF (pf_LA _ _) <|
  mF (pf_GR _ _ _) <|
  mF (pf_PI _ _) <|
  mF (pf_CV _ _ mc_X9_leastOf fc_X9_leastOf _) <|
  mF (pf_Go _) <|
  mF (pf_PI _ _) <|
  mF (pf_SI _ _) <|
  mF (pf_LI _ _) <|
  mF (pf_If _ _ _) <|
  mF (pf_LA _ _) <|
  mF (pf_GR _ _ _) <|
  mF (pf_PI _ _) <|
  mF (pf_CV _ _ mc_X9_greatestOf fc_X9_greatestOf _) <|
  mF (pf_Go _) <|
  mF (pf_PI _ _) <|
  mF (pf_SI _ _) <|
  mF (pf_LA _ _) <|
  mF (pf_GR _ _ _) <|
  mF (pf_PI _ _) <|
  mF (pf_CV _ _ mc_X9_leastOf fc_X9_leastOf _) <|
  mF (pf_SI _ _) <|
  mF (pf_LI _ _) <|
  mF (pf_LA _ _) <|
  mF (pf_GR _ _ _) <|
  mF (pf_PI _ _) <|
  mF (pf_CV _ _ mc_X9_greatestOf fc_X9_greatestOf _) <|
  mF (pf_Ic _ _ _) <|
  mF (pf_LA _ _) <|
  mF (pf_PI _ _) <|
  mF (pf_LI _ _) <|
  mF (pf_IS _) <|
  mF (pf_LI _ _) <|
  mF (pf_SI _ _) <|
  mF (pf_LI _ _) <|
  mF (pf_LI _ _) <|
  mF (pf_Ic _ _ _) <|
  mF (pf_LA _ _) <|
  mF (pf_PI _ _) <|
  mF (pf_LI _ _) <|
  mF (pf_IS _) <|
  mF (pf_LA _ _) <|
  mF (pf_GR _ _ _) <|
  mF (pf_LA _ _) <|
  mF (pf_CV _ _ mc_X1_isBetter fc_X1_isBetter _) <|
  mF (pf_If _ _ _) <|
  mF (pf_LA _ _) <|
  mF (pf_LA _ _) <|
  mF0
theorem ft_X8_findLowest_c1 : ∀ q ∈ tb_X8_findLowest_c1, pF q.2 :=
  mF (pf_CS _ mc_X10_copyRow fc_X10_copyRow _) <|
  mF (pf_Inc _ _ _) <|
  mF (pf_Go _) <|
  mF (pf_Inc _ _ _) <|
  mF (pf_Go _) <|
  mF (pf_RV) <|
  mF0
theorem ft_X8_findLowest : ∀ q ∈ tb_X8_findLowest, pF q.2 := mFA ft_X8_findLowest_c0 ft_X8_findLowest_c1
theorem fc_X8_findLowest : pC C_X8_findLowest := pRun mt_X8_findLowest ft_X8_findLowest 9
theorem ft_X9_begin : ∀ q ∈ tb_X9_begin, pF q.2 :=
  mF (pf_PI _ _) <|
  mF (pf_SI _ _) <|
  mF (pf_LI _ _) <|
  mF (pf_PI _ _) <|
  mF (pf_Ic _ _ _) <|
  mF (pf_LA _ _) <|
  mF (pf_GR _ _ _) <|
  mF (pf_LI _ _) <|
  mF (pf_PI _ _) <|
  mF (pf_IS _) <|
  mF (pf_LA _ _) <|
  mF (pf_GR _ _ _) <|
  mF (pf_LI _ _) <|
  mF (pf_PI _ _) <|
  mF (pf_IS _) <|
  mF (pf_Inc _ _ _) <|
  mF (pf_Go _) <|
  mF (pf_LA _ _) <|
  mF (pf_LI _ _) <|
  mF (pf_WI _ _ _) <|
  mF (pf_RV) <|
  mF0
theorem fc_X9_begin : pC C_X9_begin := pRun mt_X9_begin ft_X9_begin 3
theorem ft_X10_puppetOf : ∀ q ∈ tb_X10_puppetOf, pF q.2 :=
  mF (pf_LI _ _) <|
  mF (pf_If _ _ _) <|
  mF (pf_LA _ _) <|
  mF (pf_GR _ _ _) <|
  mF (pf_RR) <|
  mF (pf_LI _ _) <|
  mF (pf_PI _ _) <|
  mF (pf_Ic _ _ _) <|
  mF (pf_LA _ _) <|
  mF (pf_GR _ _ _) <|
  mF (pf_Go _) <|
  mF (pf_PN _) <|
  mF (pf_RR) <|
  mF0
theorem fc_X10_puppetOf : pC C_X10_puppetOf := pRun mt_X10_puppetOf ft_X10_puppetOf 2
theorem ft_X10_isWithin : ∀ q ∈ tb_X10_isWithin, pF q.2 :=
  mF (pf_LI _ _) <|
  mF (pf_LI _ _) <|
  mF (pf_Ic _ _ _) <|
  mF (pf_LI _ _) <|
  mF (pf_LI _ _) <|
  mF (pf_Ic _ _ _) <|
  mF (pf_PI _ _) <|
  mF (pf_Go _) <|
  mF (pf_PI _ _) <|
  mF (pf_RZ) <|
  mF0
theorem fc_X10_isWithin : pC C_X10_isWithin := pRun mt_X10_isWithin ft_X10_isWithin 3
theorem ft_X10_limb : ∀ q ∈ tb_X10_limb, pF q.2 :=
  mF (pf_LA _ _) <|
  mF (pf_LI _ _) <|
  mF (pf_CV _ _ mc_X10_puppetOf fc_X10_puppetOf _) <|
  mF (pf_SA _ _) <|
  mF (pf_LA _ _) <|
  mF (pf_Nu _ _) <|
  mF (pf_LI _ _) <|
  mF (pf_PI _ _) <|
  mF (pf_Ic _ _ _) <|
  mF (pf_LI _ _) <|
  mF (pf_LA _ _) <|
  mF (pf_GR _ _ _) <|
  mF (pf_GI _ _ _) <|
  mF (pf_Ic _ _ _) <|
  mF (pf_LI _ _) <|
  mF (pf_PI _ _) <|
  mF (pf_PI _ _) <|
  mF (pf_CS _ mc_X10_isWithin fc_X10_isWithin _) <|
  mF (pf_If _ _ _) <|
  mF (pf_LI _ _) <|
  mF (pf_PI _ _) <|
  mF (pf_PI _ _) <|
  mF (pf_CS _ mc_X10_isWithin fc_X10_isWithin _) <|
  mF (pf_If _ _ _) <|
  mF (pf_PL _ _) <|
  mF (pf_RL) <|
  mF (pf_LA _ _) <|
  mF (pf_GR _ _ _) <|
  mF (pf_LA _ _) <|
  mF (pf_GR _ _ _) <|
  mF (pf_GI _ _ _) <|
  mF (pf_PI _ _) <|
  mF (pf_CV _ _ mc_X9_allow fc_X9_allow _) <|
  mF (pf_If _ _ _) <|
  mF (pf_PL _ _) <|
  mF (pf_RL) <|
  mF (pf_LA _ _) <|
  mF (pf_GR _ _ _) <|
  mF (pf_GI _ _ _) <|
  mF (pf_PI _ _) <|
  mF (pf_Ic _ _ _) <|
  mF (pf_PL _ _) <|
  mF (pf_RL) <|
  mF (pf_LA _ _) <|
  mF (pf_GR _ _ _) <|
  mF (pf_LA _ _) <|
  mF (pf_GR _ _ _) <|
  mF (pf_LA _ _) <|
  mF (pf_GR _ _ _) <|
  mF (pf_CV _ _ mc_X3_keep fc_X3_keep _) <|
  mF (pf_LA _ _) <|
  mF (pf_GR _ _ _) <|
  mF (pf_PI _ _) <|
  mF (pf_WI _ _ _) <|
  mF (pf_LA _ _) <|
  mF (pf_GR _ _ _) <|
  mF (pf_LI _ _) <|
  mF (pf_LI _ _) <|
  mF (pf_LI _ _) <|
  mF (pf_CV _ _ mc_X5_add fc_X5_add _) <|
  mF (pf_I2L _) <|
  mF (pf_RL) <|
  mF0
theorem fc_X10_limb : pC C_X10_limb := pRun mt_X10_limb ft_X10_limb 6
theorem ft_X10_lose : ∀ q ∈ tb_X10_lose, pF q.2 :=
  mF (pf_LA _ _) <|
  mF (pf_LI _ _) <|
  mF (pf_CV _ _ mc_X10_puppetOf fc_X10_puppetOf _) <|
  mF (pf_SA _ _) <|
  mF (pf_LA _ _) <|
  mF (pf_Nn _ _) <|
  mF (pf_PL _ _) <|
  mF (pf_RL) <|
  mF (pf_LA _ _) <|
  mF (pf_GR _ _ _) <|
  mF (pf_GI _ _ _) <|
  mF (pf_If _ _ _) <|
  mF (pf_PL _ _) <|
  mF (pf_RL) <|
  mF (pf_LA _ _) <|
  mF (pf_GR _ _ _) <|
  mF (pf_LA _ _) <|
  mF (pf_GR _ _ _) <|
  mF (pf_LA _ _) <|
  mF (pf_GR _ _ _) <|
  mF (pf_CV _ _ mc_X3_keep fc_X3_keep _) <|
  mF (pf_LA _ _) <|
  mF (pf_GR _ _ _) <|
  mF (pf_PI _ _) <|
  mF (pf_WI _ _ _) <|
  mF (pf_LA _ _) <|
  mF (pf_GR _ _ _) <|
  mF (pf_LA _ _) <|
  mF (pf_GR _ _ _) <|
  mF (pf_GI _ _ _) <|
  mF (pf_PI _ _) <|
  mF (pf_B _ _) <|
  mF (pf_CV _ _ mc_X4_removeAllOn fc_X4_removeAllOn _) <|
  mF (pf_LA _ _) <|
  mF (pf_GR _ _ _) <|
  mF (pf_CV _ _ mc_X5_removeLast fc_X5_removeLast _) <|
  mF (pf_I2L _) <|
  mF (pf_RL) <|
  mF0
theorem fc_X10_lose : pC C_X10_lose := pRun mt_X10_lose ft_X10_lose 3
theorem ft_X10_isPlace : ∀ q ∈ tb_X10_isPlace, pF q.2 :=
  mF (pf_LI _ _) <|
  mF (pf_PI _ _) <|
  mF (pf_PI _ _) <|
  mF (pf_CS _ mc_X10_isWithin fc_X10_isWithin _) <|
  mF (pf_If _ _ _) <|
  mF (pf_LI _ _) <|
  mF (pf_PI _ _) <|
  mF (pf_PI _ _) <|
  mF (pf_CS _ mc_X10_isWithin fc_X10_isWithin _) <|
  mF (pf_If _ _ _) <|
  mF (pf_PI _ _) <|
  mF (pf_Go _) <|
  mF (pf_PI _ _) <|
  mF (pf_RZ) <|
  mF0
theorem fc_X10_isPlace : pC C_X10_isPlace := pRun mt_X10_isPlace ft_X10_isPlace 2
theorem ft_X10_pin : ∀ q ∈ tb_X10_pin, pF q.2 :=
  mF (pf_LA _ _) <|
  mF (pf_LI _ _) <|
  mF (pf_CV _ _ mc_X10_puppetOf fc_X10_puppetOf _) <|
  mF (pf_SA _ _) <|
  mF (pf_LA _ _) <|
  mF (pf_Nu _ _) <|
  mF (pf_LI _ _) <|
  mF (pf_LI _ _) <|
  mF (pf_CS _ mc_X10_isPlace fc_X10_isPlace _) <|
  mF (pf_If _ _ _) <|
  mF (pf_PL _ _) <|
  mF (pf_RL) <|
  mF (pf_LA _ _) <|
  mF (pf_GR _ _ _) <|
  mF (pf_LA _ _) <|
  mF (pf_GR _ _ _) <|
  mF (pf_LA _ _) <|
  mF (pf_GR _ _ _) <|
  mF (pf_CV _ _ mc_X3_keep fc_X3_keep _) <|
  mF (pf_LA _ _) <|
  mF (pf_GR _ _ _) <|
  mF (pf_LI _ _) <|
  mF (pf_WI _ _ _) <|
  mF (pf_LA _ _) <|
  mF (pf_GR _ _ _) <|
  mF (pf_LI _ _) <|
  mF (pf_WI _ _ _) <|
  mF (pf_PL _ _) <|
  mF (pf_RL) <|
  mF0
theorem fc_X10_pin : pC C_X10_pin := pRun mt_X10_pin ft_X10_pin 5
theorem ft_X10_spans : ∀ q ∈ tb_X10_spans, pF q.2 :=
  mF (pf_LA _ _) <|
  mF (pf_LI _ _) <|
  mF (pf_CV _ _ mc_X10_puppetOf fc_X10_puppetOf _) <|
  mF (pf_SA _ _) <|
  mF (pf_LA _ _) <|
  mF (pf_Nu _ _) <|
  mF (pf_LI _ _) <|
  mF (pf_PI _ _) <|
  mF (pf_PI _ _) <|
  mF (pf_CS _ mc_X10_isWithin fc_X10_isWithin _) <|
  mF (pf_If _ _ _) <|
  mF (pf_PL _ _) <|
  mF (pf_RL) <|
  mF (pf_LA _ _) <|
  mF (pf_GR _ _ _) <|
  mF (pf_LA _ _) <|
  mF (pf_GR _ _ _) <|
  mF (pf_LA _ _) <|
  mF (pf_GR _ _ _) <|
  mF (pf_CV _ _ mc_X3_keep fc_X3_keep _) <|
  mF (pf_LA _ _) <|
  mF (pf_GR _ _ _) <|
  mF (pf_LI _ _) <|
  mF (pf_CV _ _ mc_X9_begin fc_X9_begin _) <|
  mF (pf_LI _ _) <|
  mF (pf_I2L _) <|
  mF (pf_RL) <|
  mF0
theorem fc_X10_spans : pC C_X10_spans := pRun mt_X10_spans ft_X10_spans 4
theorem ft_X10_isStep : ∀ q ∈ tb_X10_isStep, pF q.2 :=
  mF (pf_LI _ _) <|
  mF (pf_PI _ _) <|
  mF (pf_PI _ _) <|
  mF (pf_CS _ mc_X10_isWithin fc_X10_isWithin _) <|
  mF (pf_RZ) <|
  mF0
theorem fc_X10_isStep : pC C_X10_isStep := pRun mt_X10_isStep ft_X10_isStep 1
theorem ft_X10_span : ∀ q ∈ tb_X10_span, pF q.2 :=
  mF (pf_LA _ _) <|
  mF (pf_LI _ _) <|
  mF (pf_CV _ _ mc_X10_puppetOf fc_X10_puppetOf _) <|
  mF (pf_SA _ _) <|
  mF (pf_LA _ _) <|
  mF (pf_Nu _ _) <|
  mF (pf_LI _ _) <|
  mF (pf_CS _ mc_X10_isStep fc_X10_isStep _) <|
  mF (pf_If _ _ _) <|
  mF (pf_LI _ _) <|
  mF (pf_CS _ mc_X10_isStep fc_X10_isStep _) <|
  mF (pf_If _ _ _) <|
  mF (pf_LI _ _) <|
  mF (pf_LI _ _) <|
  mF (pf_Ic _ _ _) <|
  mF (pf_PL _ _) <|
  mF (pf_RL) <|
  mF (pf_LA _ _) <|
  mF (pf_GR _ _ _) <|
  mF (pf_GI _ _ _) <|
  mF (pf_PI _ _) <|
  mF (pf_Ic _ _ _) <|
  mF (pf_PL _ _) <|
  mF (pf_RL) <|
  mF (pf_LA _ _) <|
  mF (pf_GR _ _ _) <|
  mF (pf_LI _ _) <|
  mF (pf_CV _ _ mc_X9_has fc_X9_has _) <|
  mF (pf_If _ _ _) <|
  mF (pf_PL _ _) <|
  mF (pf_RL) <|
  mF (pf_LA _ _) <|
  mF (pf_GR _ _ _) <|
  mF (pf_LI _ _) <|
  mF (pf_CV _ _ mc_X5_has fc_X5_has _) <|
  mF (pf_If _ _ _) <|
  mF (pf_LA _ _) <|
  mF (pf_GR _ _ _) <|
  mF (pf_GR _ _ _) <|
  mF (pf_LI _ _) <|
  mF (pf_IA _) <|
  mF (pf_LI _ _) <|
  mF (pf_LI _ _) <|
  mF (pf_CS _ mc_X10_isWithin fc_X10_isWithin _) <|
  mF (pf_If _ _ _) <|
  mF (pf_PL _ _) <|
  mF (pf_RL) <|
  mF (pf_LA _ _) <|
  mF (pf_GR _ _ _) <|
  mF (pf_LA _ _) <|
  mF (pf_GR _ _ _) <|
  mF (pf_LA _ _) <|
  mF (pf_GR _ _ _) <|
  mF (pf_CV _ _ mc_X3_keep fc_X3_keep _) <|
  mF (pf_LA _ _) <|
  mF (pf_GR _ _ _) <|
  mF (pf_GR _ _ _) <|
  mF (pf_LI _ _) <|
  mF (pf_LI _ _) <|
  mF (pf_IS _) <|
  mF (pf_LA _ _) <|
  mF (pf_GR _ _ _) <|
  mF (pf_GR _ _ _) <|
  mF (pf_LI _ _) <|
  mF (pf_LI _ _) <|
  mF (pf_IS _) <|
  mF (pf_PL _ _) <|
  mF (pf_RL) <|
  mF0
theorem fc_X10_span : pC C_X10_span := pRun mt_X10_span ft_X10_span 6
theorem ft_X10_cross : ∀ q ∈ tb_X10_cross, pF q.2 :=
  mF (pf_LA _ _) <|
  mF (pf_LI _ _) <|
  mF (pf_CV _ _ mc_X10_puppetOf fc_X10_puppetOf _) <|
  mF (pf_SA _ _) <|
  mF (pf_LA _ _) <|
  mF (pf_Nu _ _) <|
  mF (pf_LI _ _) <|
  mF (pf_LI _ _) <|
  mF (pf_CS _ mc_X10_isPlace fc_X10_isPlace _) <|
  mF (pf_If _ _ _) <|
  mF (pf_LI _ _) <|
  mF (pf_CS _ mc_X10_isStep fc_X10_isStep _) <|
  mF (pf_If _ _ _) <|
  mF (pf_PL _ _) <|
  mF (pf_RL) <|
  mF (pf_LA _ _) <|
  mF (pf_GR _ _ _) <|
  mF (pf_LA _ _) <|
  mF (pf_GR _ _ _) <|
  mF (pf_LA _ _) <|
  mF (pf_GR _ _ _) <|
  mF (pf_CV _ _ mc_X3_keep fc_X3_keep _) <|
  mF (pf_LA _ _) <|
  mF (pf_GR _ _ _) <|
  mF (pf_LI _ _) <|
  mF (pf_LI _ _) <|
  mF (pf_LI _ _) <|
  mF (pf_CV _ _ mc_X0_put fc_X0_put _) <|
  mF (pf_PL _ _) <|
  mF (pf_RL) <|
  mF0
theorem fc_X10_cross : pC C_X10_cross := pRun mt_X10_cross ft_X10_cross 6
theorem ft_X10_isBar : ∀ q ∈ tb_X10_isBar, pF q.2 :=
  mF (pf_LI _ _) <|
  mF (pf_PI _ _) <|
  mF (pf_PI _ _) <|
  mF (pf_CS _ mc_X10_isWithin fc_X10_isWithin _) <|
  mF (pf_RZ) <|
  mF0
theorem fc_X10_isBar : pC C_X10_isBar := pRun mt_X10_isBar ft_X10_isBar 1
theorem ft_X10_bar : ∀ q ∈ tb_X10_bar, pF q.2 :=
  mF (pf_LA _ _) <|
  mF (pf_LI _ _) <|
  mF (pf_CV _ _ mc_X10_puppetOf fc_X10_puppetOf _) <|
  mF (pf_SA _ _) <|
  mF (pf_LA _ _) <|
  mF (pf_Nu _ _) <|
  mF (pf_LI _ _) <|
  mF (pf_CS _ mc_X10_isBar fc_X10_isBar _) <|
  mF (pf_If _ _ _) <|
  mF (pf_LI _ _) <|
  mF (pf_PI _ _) <|
  mF (pf_PI _ _) <|
  mF (pf_CS _ mc_X10_isWithin fc_X10_isWithin _) <|
  mF (pf_If _ _ _) <|
  mF (pf_LI _ _) <|
  mF (pf_PI _ _) <|
  mF (pf_PI _ _) <|
  mF (pf_CS _ mc_X10_isWithin fc_X10_isWithin _) <|
  mF (pf_If _ _ _) <|
  mF (pf_PL _ _) <|
  mF (pf_RL) <|
  mF (pf_LA _ _) <|
  mF (pf_GR _ _ _) <|
  mF (pf_LA _ _) <|
  mF (pf_GR _ _ _) <|
  mF (pf_LA _ _) <|
  mF (pf_GR _ _ _) <|
  mF (pf_CV _ _ mc_X3_keep fc_X3_keep _) <|
  mF (pf_LA _ _) <|
  mF (pf_GR _ _ _) <|
  mF (pf_GR _ _ _) <|
  mF (pf_LI _ _) <|
  mF (pf_LI _ _) <|
  mF (pf_IS _) <|
  mF (pf_LA _ _) <|
  mF (pf_GR _ _ _) <|
  mF (pf_GR _ _ _) <|
  mF (pf_LI _ _) <|
  mF (pf_LI _ _) <|
  mF (pf_IS _) <|
  mF (pf_PL _ _) <|
  mF (pf_RL) <|
  mF0
theorem fc_X10_bar : pC C_X10_bar := pRun mt_X10_bar ft_X10_bar 6
theorem ft_X10_bend : ∀ q ∈ tb_X10_bend, pF q.2 :=
  mF (pf_LA _ _) <|
  mF (pf_LI _ _) <|
  mF (pf_CV _ _ mc_X10_puppetOf fc_X10_puppetOf _) <|
  mF (pf_SA _ _) <|
  mF (pf_LA _ _) <|
  mF (pf_Nu _ _) <|
  mF (pf_LA _ _) <|
  mF (pf_GR _ _ _) <|
  mF (pf_LI _ _) <|
  mF (pf_CV _ _ mc_X5_has fc_X5_has _) <|
  mF (pf_If _ _ _) <|
  mF (pf_PL _ _) <|
  mF (pf_RL) <|
  mF (pf_LA _ _) <|
  mF (pf_GR _ _ _) <|
  mF (pf_LI _ _) <|
  mF (pf_LI _ _) <|
  mF (pf_CV _ _ mc_X9_allow fc_X9_allow _) <|
  mF (pf_If _ _ _) <|
  mF (pf_PL _ _) <|
  mF (pf_RL) <|
  mF (pf_LA _ _) <|
  mF (pf_GR _ _ _) <|
  mF (pf_LA _ _) <|
  mF (pf_GR _ _ _) <|
  mF (pf_LA _ _) <|
  mF (pf_GR _ _ _) <|
  mF (pf_CV _ _ mc_X3_keep fc_X3_keep _) <|
  mF (pf_LA _ _) <|
  mF (pf_GR _ _ _) <|
  mF (pf_GR _ _ _) <|
  mF (pf_LI _ _) <|
  mF (pf_IA _) <|
  mF (pf_SI _ _) <|
  mF (pf_LA _ _) <|
  mF (pf_GR _ _ _) <|
  mF (pf_GR _ _ _) <|
  mF (pf_LI _ _) <|
  mF (pf_LI _ _) <|
  mF (pf_IS _) <|
  mF (pf_LI _ _) <|
  mF (pf_I2L _) <|
  mF (pf_RL) <|
  mF0
theorem fc_X10_bend : pC C_X10_bend := pRun mt_X10_bend ft_X10_bend 6
theorem ft_X10_hand : ∀ q ∈ tb_X10_hand, pF q.2 :=
  mF (pf_LA _ _) <|
  mF (pf_LI _ _) <|
  mF (pf_CV _ _ mc_X10_puppetOf fc_X10_puppetOf _) <|
  mF (pf_SA _ _) <|
  mF (pf_LA _ _) <|
  mF (pf_Nu _ _) <|
  mF (pf_LI _ _) <|
  mF (pf_PI _ _) <|
  mF (pf_PI _ _) <|
  mF (pf_CS _ mc_X10_isWithin fc_X10_isWithin _) <|
  mF (pf_If _ _ _) <|
  mF (pf_PL _ _) <|
  mF (pf_RL) <|
  mF (pf_LA _ _) <|
  mF (pf_GR _ _ _) <|
  mF (pf_LA _ _) <|
  mF (pf_GR _ _ _) <|
  mF (pf_LA _ _) <|
  mF (pf_GR _ _ _) <|
  mF (pf_CV _ _ mc_X3_keep fc_X3_keep _) <|
  mF (pf_LA _ _) <|
  mF (pf_GI _ _ _) <|
  mF (pf_SI _ _) <|
  mF (pf_LA _ _) <|
  mF (pf_LI _ _) <|
  mF (pf_WI _ _ _) <|
  mF (pf_LI _ _) <|
  mF (pf_I2L _) <|
  mF (pf_RL) <|
  mF0
theorem fc_X10_hand : pC C_X10_hand := pRun mt_X10_hand ft_X10_hand 5
theorem ft_X10_about_c0 : ∀ q ∈ tb_X10_about_c0, pF q.2 :=
  mF (pf_LA _ _) <|
  mF (pf_LI _ _) <|
  mF (pf_CV _ _ mc_X10_puppetOf fc_X10_puppetOf _) <|
  mF (pf_SA _ _) <|
  mF (pf_LA _ _) <|
  mF (pf_Nn _ _) <|
  mF (pf_PL _ _) <|
  mF (pf_RL) <|
  mF (pf_LI _ _) <|
  mF (pf_Ts _ _) <|
  mF (pf_LA _ _) <|
  mF (pf_GR _ _ _) <|
  mF (pf_GI _ _ _) <|
  mF (pf_I2L _) <|
  mF (pf_RL) <|
  mF (pf_LA _ _) <|
  mF (pf_GR _ _ _) <|
  mF (pf_GI _ _ _) <|
  mF (pf_I2L _) <|
  mF (pf_RL) <|
  mF (pf_LA _ _) <|
  mF (pf_GR _ _ _) <|
  mF (pf_GI _ _ _) <|
  mF (pf_I2L _) <|
  mF (pf_RL) <|
  mF (pf_LA _ _) <|
  mF (pf_GR _ _ _) <|
  mF (pf_GI _ _ _) <|
  mF (pf_I2L _) <|
  mF (pf_RL) <|
  mF (pf_LA _ _) <|
  mF (pf_GR _ _ _) <|
  mF (pf_GI _ _ _) <|
  mF (pf_I2L _) <|
  mF (pf_RL) <|
  mF (pf_LA _ _) <|
  mF (pf_GI _ _ _) <|
  mF (pf_I2L _) <|
  mF (pf_RL) <|
  mF (pf_LA _ _) <|
  mF (pf_GR _ _ _) <|
  mF (pf_GI _ _ _) <|
  mF (pf_I2L _) <|
  mF (pf_RL) <|
  mF (pf_LA _ _) <|
  mF (pf_GR _ _ _) <|
  mF (pf_GI _ _ _) <|
  mF (pf_I2L _) <|
  mF (pf_RL) <|
  mF (pf_LA _ _) <|
  mF (pf_GR _ _ _) <|
  mF (pf_GI _ _ _) <|
  mF (pf_PI _ _) <|
  mF (pf_Ic _ _ _) <|
  mF (pf_PL _ _) <|
  mF (pf_Go _) <|
  mF (pf_LA _ _) <|
  mF (pf_GR _ _ _) <|
  mF (pf_GI _ _ _) <|
  mF (pf_I2L _) <|
  mF (pf_RL) <|
  mF (pf_LA _ _) <|
  mF (pf_GR _ _ _) <|
  mF (pf_GI _ _ _) <|
  mF (pf_I2L _) <|
  mF (pf_RL) <|
  mF (pf_LA _ _) <|
  mF (pf_GR _ _ _) <|
  mF (pf_GI _ _ _) <|
  mF (pf_I2L _) <|
  mF0
theorem ft_X10_about_c1 : ∀ q ∈ tb_X10_about_c1, pF q.2 :=
  mF (pf_RL) <|
  mF (pf_PL _ _) <|
  mF (pf_RL) <|
  mF0
theorem ft_X10_about : ∀ q ∈ tb_X10_about, pF q.2 := mFA ft_X10_about_c0 ft_X10_about_c1
theorem fc_X10_about : pC C_X10_about := pRun mt_X10_about ft_X10_about 4
theorem ft_X10_told : ∀ q ∈ tb_X10_told, pF q.2 :=
  mF (pf_LA _ _) <|
  mF (pf_LI _ _) <|
  mF (pf_CV _ _ mc_X10_puppetOf fc_X10_puppetOf _) <|
  mF (pf_SA _ _) <|
  mF (pf_LA _ _) <|
  mF (pf_Nu _ _) <|
  mF (pf_LA _ _) <|
  mF (pf_GR _ _ _) <|
  mF (pf_LI _ _) <|
  mF (pf_CV _ _ mc_X5_has fc_X5_has _) <|
  mF (pf_If _ _ _) <|
  mF (pf_PL _ _) <|
  mF (pf_RL) <|
  mF (pf_LI _ _) <|
  mF (pf_Ts _ _) <|
  mF (pf_LA _ _) <|
  mF (pf_GR _ _ _) <|
  mF (pf_GR _ _ _) <|
  mF (pf_LI _ _) <|
  mF (pf_IA _) <|
  mF (pf_I2L _) <|
  mF (pf_RL) <|
  mF (pf_LA _ _) <|
  mF (pf_GR _ _ _) <|
  mF (pf_GR _ _ _) <|
  mF (pf_LI _ _) <|
  mF (pf_IA _) <|
  mF (pf_I2L _) <|
  mF (pf_RL) <|
  mF (pf_LA _ _) <|
  mF (pf_GR _ _ _) <|
  mF (pf_GR _ _ _) <|
  mF (pf_LI _ _) <|
  mF (pf_IA _) <|
  mF (pf_I2L _) <|
  mF (pf_RL) <|
  mF (pf_LA _ _) <|
  mF (pf_GR _ _ _) <|
  mF (pf_GR _ _ _) <|
  mF (pf_LI _ _) <|
  mF (pf_IA _) <|
  mF (pf_I2L _) <|
  mF (pf_RL) <|
  mF (pf_LA _ _) <|
  mF (pf_GR _ _ _) <|
  mF (pf_LA _ _) <|
  mF (pf_GR _ _ _) <|
  mF (pf_CV _ _ mc_X1_layLimbs fc_X1_layLimbs _) <|
  mF (pf_LA _ _) <|
  mF (pf_GR _ _ _) <|
  mF (pf_GR _ _ _) <|
  mF (pf_LI _ _) <|
  mF (pf_IA _) <|
  mF (pf_I2L _) <|
  mF (pf_RL) <|
  mF (pf_LA _ _) <|
  mF (pf_GR _ _ _) <|
  mF (pf_LI _ _) <|
  mF (pf_CV _ _ mc_X9_leastOf fc_X9_leastOf _) <|
  mF (pf_I2L _) <|
  mF (pf_RL) <|
  mF (pf_LA _ _) <|
  mF (pf_GR _ _ _) <|
  mF (pf_LI _ _) <|
  mF (pf_CV _ _ mc_X9_greatestOf fc_X9_greatestOf _) <|
  mF (pf_I2L _) <|
  mF (pf_RL) <|
  mF (pf_PL _ _) <|
  mF (pf_RL) <|
  mF0
theorem fc_X10_told : pC C_X10_told := pRun mt_X10_told ft_X10_told 5
theorem ft_X10_at : ∀ q ∈ tb_X10_at, pF q.2 :=
  mF (pf_LA _ _) <|
  mF (pf_LI _ _) <|
  mF (pf_CV _ _ mc_X10_puppetOf fc_X10_puppetOf _) <|
  mF (pf_SA _ _) <|
  mF (pf_LA _ _) <|
  mF (pf_Nu _ _) <|
  mF (pf_LA _ _) <|
  mF (pf_GR _ _ _) <|
  mF (pf_LI _ _) <|
  mF (pf_CV _ _ mc_X5_has fc_X5_has _) <|
  mF (pf_If _ _ _) <|
  mF (pf_LI _ _) <|
  mF (pf_PI _ _) <|
  mF (pf_LA _ _) <|
  mF (pf_GR _ _ _) <|
  mF (pf_GR _ _ _) <|
  mF (pf_LI _ _) <|
  mF (pf_IA _) <|
  mF (pf_CS _ mc_X10_isWithin fc_X10_isWithin _) <|
  mF (pf_If _ _ _) <|
  mF (pf_LI _ _) <|
  mF (pf_PI _ _) <|
  mF (pf_PI _ _) <|
  mF (pf_CS _ mc_X10_isWithin fc_X10_isWithin _) <|
  mF (pf_If _ _ _) <|
  mF (pf_PL _ _) <|
  mF (pf_RL) <|
  mF (pf_LA _ _) <|
  mF (pf_GR _ _ _) <|
  mF (pf_LA _ _) <|
  mF (pf_GR _ _ _) <|
  mF (pf_CV _ _ mc_X1_layLimbs fc_X1_layLimbs _) <|
  mF (pf_LI _ _) <|
  mF (pf_If _ _ _) <|
  mF (pf_LA _ _) <|
  mF (pf_GR _ _ _) <|
  mF (pf_LI _ _) <|
  mF (pf_LI _ _) <|
  mF (pf_CV _ _ mc_X1_spotX fc_X1_spotX _) <|
  mF (pf_I2L _) <|
  mF (pf_Go _) <|
  mF (pf_LA _ _) <|
  mF (pf_GR _ _ _) <|
  mF (pf_LI _ _) <|
  mF (pf_LI _ _) <|
  mF (pf_CV _ _ mc_X1_spotY fc_X1_spotY _) <|
  mF (pf_I2L _) <|
  mF (pf_RL) <|
  mF0
theorem fc_X10_at : pC C_X10_at := pRun mt_X10_at ft_X10_at 6
theorem ft_X10_barAt : ∀ q ∈ tb_X10_barAt, pF q.2 :=
  mF (pf_LA _ _) <|
  mF (pf_LI _ _) <|
  mF (pf_CV _ _ mc_X10_puppetOf fc_X10_puppetOf _) <|
  mF (pf_SA _ _) <|
  mF (pf_LA _ _) <|
  mF (pf_Nu _ _) <|
  mF (pf_LI _ _) <|
  mF (pf_CS _ mc_X10_isBar fc_X10_isBar _) <|
  mF (pf_If _ _ _) <|
  mF (pf_LI _ _) <|
  mF (pf_PI _ _) <|
  mF (pf_PI _ _) <|
  mF (pf_CS _ mc_X10_isWithin fc_X10_isWithin _) <|
  mF (pf_If _ _ _) <|
  mF (pf_PL _ _) <|
  mF (pf_RL) <|
  mF (pf_LA _ _) <|
  mF (pf_GR _ _ _) <|
  mF (pf_LA _ _) <|
  mF (pf_GR _ _ _) <|
  mF (pf_CV _ _ mc_X1_layBars fc_X1_layBars _) <|
  mF (pf_LI _ _) <|
  mF (pf_If _ _ _) <|
  mF (pf_LA _ _) <|
  mF (pf_GR _ _ _) <|
  mF (pf_GR _ _ _) <|
  mF (pf_LI _ _) <|
  mF (pf_IA _) <|
  mF (pf_I2L _) <|
  mF (pf_Go _) <|
  mF (pf_LA _ _) <|
  mF (pf_GR _ _ _) <|
  mF (pf_GR _ _ _) <|
  mF (pf_LI _ _) <|
  mF (pf_IA _) <|
  mF (pf_I2L _) <|
  mF (pf_RL) <|
  mF0
theorem fc_X10_barAt : pC C_X10_barAt := pRun mt_X10_barAt ft_X10_barAt 5
theorem ft_X10_isKind : ∀ q ∈ tb_X10_isKind, pF q.2 :=
  mF (pf_LI _ _) <|
  mF (pf_PI _ _) <|
  mF (pf_PI _ _) <|
  mF (pf_CS _ mc_X10_isWithin fc_X10_isWithin _) <|
  mF (pf_RZ) <|
  mF0
theorem fc_X10_isKind : pC C_X10_isKind := pRun mt_X10_isKind ft_X10_isKind 1
theorem ft_X10_hold : ∀ q ∈ tb_X10_hold, pF q.2 :=
  mF (pf_LA _ _) <|
  mF (pf_LI _ _) <|
  mF (pf_CV _ _ mc_X10_puppetOf fc_X10_puppetOf _) <|
  mF (pf_SA _ _) <|
  mF (pf_LI _ _) <|
  mF (pf_PI _ _) <|
  mF (pf_D _ _) <|
  mF (pf_SI _ _) <|
  mF (pf_LI _ _) <|
  mF (pf_PI _ _) <|
  mF (pf_D _ _) <|
  mF (pf_SI _ _) <|
  mF (pf_LA _ _) <|
  mF (pf_Nu _ _) <|
  mF (pf_LI _ _) <|
  mF (pf_If _ _ _) <|
  mF (pf_LI _ _) <|
  mF (pf_CS _ mc_X10_isKind fc_X10_isKind _) <|
  mF (pf_If _ _ _) <|
  mF (pf_LI _ _) <|
  mF (pf_CS _ mc_X10_isBar fc_X10_isBar _) <|
  mF (pf_If _ _ _) <|
  mF (pf_LA _ _) <|
  mF (pf_GR _ _ _) <|
  mF (pf_LI _ _) <|
  mF (pf_CV _ _ mc_X5_has fc_X5_has _) <|
  mF (pf_If _ _ _) <|
  mF (pf_LI _ _) <|
  mF (pf_PI _ _) <|
  mF (pf_LA _ _) <|
  mF (pf_GR _ _ _) <|
  mF (pf_GR _ _ _) <|
  mF (pf_LI _ _) <|
  mF (pf_IA _) <|
  mF (pf_CS _ mc_X10_isWithin fc_X10_isWithin _) <|
  mF (pf_If _ _ _) <|
  mF (pf_LI _ _) <|
  mF (pf_PI _ _) <|
  mF (pf_PI _ _) <|
  mF (pf_CS _ mc_X10_isWithin fc_X10_isWithin _) <|
  mF (pf_If _ _ _) <|
  mF (pf_PL _ _) <|
  mF (pf_RL) <|
  mF (pf_LA _ _) <|
  mF (pf_GR _ _ _) <|
  mF (pf_GI _ _ _) <|
  mF (pf_PI _ _) <|
  mF (pf_Ic _ _ _) <|
  mF (pf_PL _ _) <|
  mF (pf_RL) <|
  mF (pf_LA _ _) <|
  mF (pf_GR _ _ _) <|
  mF (pf_LA _ _) <|
  mF (pf_GR _ _ _) <|
  mF (pf_LA _ _) <|
  mF (pf_GR _ _ _) <|
  mF (pf_CV _ _ mc_X3_keep fc_X3_keep _) <|
  mF (pf_LA _ _) <|
  mF (pf_GR _ _ _) <|
  mF (pf_LI _ _) <|
  mF (pf_LI _ _) <|
  mF (pf_LI _ _) <|
  mF (pf_LI _ _) <|
  mF (pf_LI _ _) <|
  mF (pf_CV _ _ mc_X4_add fc_X4_add _) <|
  mF (pf_I2L _) <|
  mF (pf_RL) <|
  mF0
theorem fc_X10_hold : pC C_X10_hold := pRun mt_X10_hold ft_X10_hold 9
theorem ft_X10_drop : ∀ q ∈ tb_X10_drop, pF q.2 :=
  mF (pf_LA _ _) <|
  mF (pf_LI _ _) <|
  mF (pf_CV _ _ mc_X10_puppetOf fc_X10_puppetOf _) <|
  mF (pf_SA _ _) <|
  mF (pf_LA _ _) <|
  mF (pf_Nu _ _) <|
  mF (pf_LA _ _) <|
  mF (pf_GR _ _ _) <|
  mF (pf_LI _ _) <|
  mF (pf_CV _ _ mc_X4_has fc_X4_has _) <|
  mF (pf_If _ _ _) <|
  mF (pf_PL _ _) <|
  mF (pf_RL) <|
  mF (pf_LA _ _) <|
  mF (pf_GR _ _ _) <|
  mF (pf_LA _ _) <|
  mF (pf_GR _ _ _) <|
  mF (pf_LA _ _) <|
  mF (pf_GR _ _ _) <|
  mF (pf_CV _ _ mc_X3_keep fc_X3_keep _) <|
  mF (pf_LA _ _) <|
  mF (pf_GR _ _ _) <|
  mF (pf_GR _ _ _) <|
  mF (pf_LI _ _) <|
  mF (pf_IA _) <|
  mF (pf_SI _ _) <|
  mF (pf_LA _ _) <|
  mF (pf_GR _ _ _) <|
  mF (pf_LI _ _) <|
  mF (pf_CV _ _ mc_X4_remove fc_X4_remove _) <|
  mF (pf_LI _ _) <|
  mF (pf_I2L _) <|
  mF (pf_RL) <|
  mF0
theorem fc_X10_drop : pC C_X10_drop := pRun mt_X10_drop ft_X10_drop 5
theorem ft_X10_pluck : ∀ q ∈ tb_X10_pluck, pF q.2 :=
  mF (pf_LA _ _) <|
  mF (pf_LI _ _) <|
  mF (pf_CV _ _ mc_X10_puppetOf fc_X10_puppetOf _) <|
  mF (pf_SA _ _) <|
  mF (pf_LA _ _) <|
  mF (pf_Nu _ _) <|
  mF (pf_LA _ _) <|
  mF (pf_GR _ _ _) <|
  mF (pf_LI _ _) <|
  mF (pf_CV _ _ mc_X4_has fc_X4_has _) <|
  mF (pf_If _ _ _) <|
  mF (pf_PL _ _) <|
  mF (pf_RL) <|
  mF (pf_LA _ _) <|
  mF (pf_GR _ _ _) <|
  mF (pf_GR _ _ _) <|
  mF (pf_LI _ _) <|
  mF (pf_IA _) <|
  mF (pf_PI _ _) <|
  mF (pf_Ic _ _ _) <|
  mF (pf_PL _ _) <|
  mF (pf_RL) <|
  mF (pf_LI _ _) <|
  mF (pf_PI _ _) <|
  mF (pf_LA _ _) <|
  mF (pf_GR _ _ _) <|
  mF (pf_GR _ _ _) <|
  mF (pf_LI _ _) <|
  mF (pf_IA _) <|
  mF (pf_CS _ mc_X10_isWithin fc_X10_isWithin _) <|
  mF (pf_If _ _ _) <|
  mF (pf_PL _ _) <|
  mF (pf_RL) <|
  mF (pf_LA _ _) <|
  mF (pf_GR _ _ _) <|
  mF (pf_LA _ _) <|
  mF (pf_GR _ _ _) <|
  mF (pf_LA _ _) <|
  mF (pf_GR _ _ _) <|
  mF (pf_CV _ _ mc_X3_keep fc_X3_keep _) <|
  mF (pf_LA _ _) <|
  mF (pf_GR _ _ _) <|
  mF (pf_GR _ _ _) <|
  mF (pf_LI _ _) <|
  mF (pf_IA _) <|
  mF (pf_SI _ _) <|
  mF (pf_LA _ _) <|
  mF (pf_GR _ _ _) <|
  mF (pf_GR _ _ _) <|
  mF (pf_LI _ _) <|
  mF (pf_LI _ _) <|
  mF (pf_IS _) <|
  mF (pf_LI _ _) <|
  mF (pf_I2L _) <|
  mF (pf_RL) <|
  mF0
theorem fc_X10_pluck : pC C_X10_pluck := pRun mt_X10_pluck ft_X10_pluck 6
theorem ft_X10_holds_c0 : ∀ q ∈ tb_X10_holds_c0, pF q.2 :=
  mF (pf_LA _ _) <|
  mF (pf_LI _ _) <|
  mF (pf_CV _ _ mc_X10_puppetOf fc_X10_puppetOf _) <|
  mF (pf_SA _ _) <|
  mF (pf_LA _ _) <|
  mF (pf_Nu _ _) <|
  mF (pf_LA _ _) <|
  mF (pf_GR _ _ _) <|
  mF (pf_LI _ _) <|
  mF (pf_CV _ _ mc_X4_has fc_X4_has _) <|
  mF (pf_If _ _ _) <|
  mF (pf_PL _ _) <|
  mF (pf_RL) <|
  mF (pf_LA _ _) <|
  mF (pf_GR _ _ _) <|
  mF (pf_LA _ _) <|
  mF (pf_CV _ _ mc_X1_lay fc_X1_lay _) <|
  mF (pf_LA _ _) <|
  mF (pf_GR _ _ _) <|
  mF (pf_LA _ _) <|
  mF (pf_GR _ _ _) <|
  mF (pf_LI _ _) <|
  mF (pf_CV _ _ mc_X1_far fc_X1_far _) <|
  mF (pf_SL _ _) <|
  mF (pf_LI _ _) <|
  mF (pf_Ts _ _) <|
  mF (pf_LA _ _) <|
  mF (pf_GR _ _ _) <|
  mF (pf_GR _ _ _) <|
  mF (pf_LI _ _) <|
  mF (pf_IA _) <|
  mF (pf_I2L _) <|
  mF (pf_RL) <|
  mF (pf_LA _ _) <|
  mF (pf_GR _ _ _) <|
  mF (pf_GR _ _ _) <|
  mF (pf_LI _ _) <|
  mF (pf_IA _) <|
  mF (pf_I2L _) <|
  mF (pf_RL) <|
  mF (pf_LA _ _) <|
  mF (pf_GR _ _ _) <|
  mF (pf_GR _ _ _) <|
  mF (pf_LI _ _) <|
  mF (pf_IA _) <|
  mF (pf_I2L _) <|
  mF (pf_RL) <|
  mF (pf_LA _ _) <|
  mF (pf_GR _ _ _) <|
  mF (pf_GR _ _ _) <|
  mF (pf_LI _ _) <|
  mF (pf_IA _) <|
  mF (pf_I2L _) <|
  mF (pf_RL) <|
  mF (pf_LA _ _) <|
  mF (pf_GR _ _ _) <|
  mF (pf_GR _ _ _) <|
  mF (pf_LI _ _) <|
  mF (pf_IA _) <|
  mF (pf_I2L _) <|
  mF (pf_RL) <|
  mF (pf_LA _ _) <|
  mF (pf_GR _ _ _) <|
  mF (pf_GR _ _ _) <|
  mF (pf_LI _ _) <|
  mF (pf_IA _) <|
  mF (pf_I2L _) <|
  mF (pf_RL) <|
  mF (pf_LL _ _) <|
  mF (pf_RL) <|
  mF0
theorem ft_X10_holds_c1 : ∀ q ∈ tb_X10_holds_c1, pF q.2 :=
  mF (pf_LA _ _) <|
  mF (pf_GR _ _ _) <|
  mF (pf_LA _ _) <|
  mF (pf_GR _ _ _) <|
  mF (pf_LI _ _) <|
  mF (pf_LL _ _) <|
  mF (pf_CV _ _ mc_X1_tooLong fc_X1_tooLong _) <|
  mF (pf_RL) <|
  mF (pf_LA _ _) <|
  mF (pf_GR _ _ _) <|
  mF (pf_LI _ _) <|
  mF (pf_LL _ _) <|
  mF (pf_CV _ _ mc_X4_isTaut fc_X4_isTaut _) <|
  mF (pf_If _ _ _) <|
  mF (pf_PL _ _) <|
  mF (pf_Go _) <|
  mF (pf_PL _ _) <|
  mF (pf_RL) <|
  mF (pf_PL _ _) <|
  mF (pf_RL) <|
  mF0
theorem ft_X10_holds : ∀ q ∈ tb_X10_holds, pF q.2 := mFA ft_X10_holds_c0 ft_X10_holds_c1
theorem fc_X10_holds : pC C_X10_holds := pRun mt_X10_holds ft_X10_holds 7
theorem ft_X10_isOf : ∀ q ∈ tb_X10_isOf, pF q.2 :=
  mF (pf_LA _ _) <|
  mF (pf_LI _ _) <|
  mF (pf_CV _ _ mc_X10_puppetOf fc_X10_puppetOf _) <|
  mF (pf_SA _ _) <|
  mF (pf_LA _ _) <|
  mF (pf_Nu _ _) <|
  mF (pf_LA _ _) <|
  mF (pf_GR _ _ _) <|
  mF (pf_LI _ _) <|
  mF (pf_CV _ _ mc_X4_has fc_X4_has _) <|
  mF (pf_If _ _ _) <|
  mF (pf_LI _ _) <|
  mF (pf_CS _ mc_X10_isKind fc_X10_isKind _) <|
  mF (pf_If _ _ _) <|
  mF (pf_PL _ _) <|
  mF (pf_RL) <|
  mF (pf_LA _ _) <|
  mF (pf_GR _ _ _) <|
  mF (pf_GR _ _ _) <|
  mF (pf_LI _ _) <|
  mF (pf_IA _) <|
  mF (pf_SI _ _) <|
  mF (pf_LI _ _) <|
  mF (pf_If _ _ _) <|
  mF (pf_LI _ _) <|
  mF (pf_PI _ _) <|
  mF (pf_Ic _ _ _) <|
  mF (pf_PI _ _) <|
  mF (pf_Go _) <|
  mF (pf_PI _ _) <|
  mF (pf_SI _ _) <|
  mF (pf_LI _ _) <|
  mF (pf_LI _ _) <|
  mF (pf_Ic _ _ _) <|
  mF (pf_LI _ _) <|
  mF (pf_If _ _ _) <|
  mF (pf_PL _ _) <|
  mF (pf_Go _) <|
  mF (pf_PL _ _) <|
  mF (pf_RL) <|
  mF0
theorem fc_X10_isOf : pC C_X10_isOf := pRun mt_X10_isOf ft_X10_isOf 7
theorem ft_X10_excessOf : ∀ q ∈ tb_X10_excessOf, pF q.2 :=
  mF (pf_PL _ _) <|
  mF (pf_SL _ _) <|
  mF (pf_PI _ _) <|
  mF (pf_SI _ _) <|
  mF (pf_LI _ _) <|
  mF (pf_LA _ _) <|
  mF (pf_GI _ _ _) <|
  mF (pf_Ic _ _ _) <|
  mF (pf_LL _ _) <|
  mF (pf_LA _ _) <|
  mF (pf_GR _ _ _) <|
  mF (pf_LA _ _) <|
  mF (pf_LI _ _) <|
  mF (pf_LA _ _) <|
  mF (pf_GR _ _ _) <|
  mF (pf_LA _ _) <|
  mF (pf_LI _ _) <|
  mF (pf_CV _ _ mc_X1_far fc_X1_far _) <|
  mF (pf_CV _ _ mc_X1_tooLong fc_X1_tooLong _) <|
  mF (pf_BL _ _) <|
  mF (pf_SL _ _) <|
  mF (pf_Inc _ _ _) <|
  mF (pf_Go _) <|
  mF (pf_LL _ _) <|
  mF (pf_RL) <|
  mF0
theorem fc_X10_excessOf : pC C_X10_excessOf := pRun mt_X10_excessOf ft_X10_excessOf 5
theorem ft_X10_countTooLong : ∀ q ∈ tb_X10_countTooLong, pF q.2 :=
  mF (pf_PI _ _) <|
  mF (pf_SI _ _) <|
  mF (pf_PI _ _) <|
  mF (pf_SI _ _) <|
  mF (pf_LI _ _) <|
  mF (pf_LA _ _) <|
  mF (pf_GI _ _ _) <|
  mF (pf_Ic _ _ _) <|
  mF (pf_LA _ _) <|
  mF (pf_GR _ _ _) <|
  mF (pf_LA _ _) <|
  mF (pf_LI _ _) <|
  mF (pf_LA _ _) <|
  mF (pf_GR _ _ _) <|
  mF (pf_LA _ _) <|
  mF (pf_LI _ _) <|
  mF (pf_CV _ _ mc_X1_far fc_X1_far _) <|
  mF (pf_CV _ _ mc_X1_tooLong fc_X1_tooLong _) <|
  mF (pf_PL _ _) <|
  mF (pf_Cmp _) <|
  mF (pf_If _ _ _) <|
  mF (pf_Inc _ _ _) <|
  mF (pf_Inc _ _ _) <|
  mF (pf_Go _) <|
  mF (pf_LI _ _) <|
  mF (pf_RI) <|
  mF0
theorem fc_X10_countTooLong : pC C_X10_countTooLong := pRun mt_X10_countTooLong ft_X10_countTooLong 4
theorem ft_X10_countTaut : ∀ q ∈ tb_X10_countTaut, pF q.2 :=
  mF (pf_PI _ _) <|
  mF (pf_SI _ _) <|
  mF (pf_PI _ _) <|
  mF (pf_SI _ _) <|
  mF (pf_LI _ _) <|
  mF (pf_LA _ _) <|
  mF (pf_GI _ _ _) <|
  mF (pf_Ic _ _ _) <|
  mF (pf_LA _ _) <|
  mF (pf_LI _ _) <|
  mF (pf_LA _ _) <|
  mF (pf_GR _ _ _) <|
  mF (pf_LA _ _) <|
  mF (pf_LI _ _) <|
  mF (pf_CV _ _ mc_X1_far fc_X1_far _) <|
  mF (pf_CV _ _ mc_X4_isTaut fc_X4_isTaut _) <|
  mF (pf_If _ _ _) <|
  mF (pf_Inc _ _ _) <|
  mF (pf_Inc _ _ _) <|
  mF (pf_Go _) <|
  mF (pf_LI _ _) <|
  mF (pf_RI) <|
  mF0
theorem fc_X10_countTaut : pC C_X10_countTaut := pRun mt_X10_countTaut ft_X10_countTaut 4
theorem ft_X10_lies : ∀ q ∈ tb_X10_lies, pF q.2 :=
  mF (pf_LA _ _) <|
  mF (pf_LI _ _) <|
  mF (pf_CV _ _ mc_X10_puppetOf fc_X10_puppetOf _) <|
  mF (pf_SA _ _) <|
  mF (pf_LA _ _) <|
  mF (pf_Nn _ _) <|
  mF (pf_PL _ _) <|
  mF (pf_RL) <|
  mF (pf_LA _ _) <|
  mF (pf_GR _ _ _) <|
  mF (pf_LA _ _) <|
  mF (pf_CV _ _ mc_X1_lay fc_X1_lay _) <|
  mF (pf_LI _ _) <|
  mF (pf_Ts _ _) <|
  mF (pf_LA _ _) <|
  mF (pf_LA _ _) <|
  mF (pf_GR _ _ _) <|
  mF (pf_CV _ _ mc_X10_excessOf fc_X10_excessOf _) <|
  mF (pf_RL) <|
  mF (pf_LA _ _) <|
  mF (pf_GR _ _ _) <|
  mF (pf_LA _ _) <|
  mF (pf_GR _ _ _) <|
  mF (pf_CV _ _ mc_X1_depthOf fc_X1_depthOf _) <|
  mF (pf_RL) <|
  mF (pf_LA _ _) <|
  mF (pf_LA _ _) <|
  mF (pf_GR _ _ _) <|
  mF (pf_CV _ _ mc_X10_countTooLong fc_X10_countTooLong _) <|
  mF (pf_I2L _) <|
  mF (pf_RL) <|
  mF (pf_LA _ _) <|
  mF (pf_LA _ _) <|
  mF (pf_GR _ _ _) <|
  mF (pf_CV _ _ mc_X10_countTaut fc_X10_countTaut _) <|
  mF (pf_I2L _) <|
  mF (pf_RL) <|
  mF (pf_PL _ _) <|
  mF (pf_RL) <|
  mF0
theorem fc_X10_lies : pC C_X10_lies := pRun mt_X10_lies ft_X10_lies 4
theorem ft_X10_why : ∀ q ∈ tb_X10_why, pF q.2 :=
  mF (pf_LA _ _) <|
  mF (pf_LI _ _) <|
  mF (pf_CV _ _ mc_X10_puppetOf fc_X10_puppetOf _) <|
  mF (pf_SA _ _) <|
  mF (pf_LA _ _) <|
  mF (pf_Nn _ _) <|
  mF (pf_PL _ _) <|
  mF (pf_RL) <|
  mF (pf_LA _ _) <|
  mF (pf_GR _ _ _) <|
  mF (pf_LA _ _) <|
  mF (pf_CV _ _ mc_X1_lay fc_X1_lay _) <|
  mF (pf_PL _ _) <|
  mF (pf_SL _ _) <|
  mF (pf_PL _ _) <|
  mF (pf_SL _ _) <|
  mF (pf_PI _ _) <|
  mF (pf_SI _ _) <|
  mF (pf_LI _ _) <|
  mF (pf_LA _ _) <|
  mF (pf_GR _ _ _) <|
  mF (pf_GI _ _ _) <|
  mF (pf_Ic _ _ _) <|
  mF (pf_LA _ _) <|
  mF (pf_GR _ _ _) <|
  mF (pf_LA _ _) <|
  mF (pf_GR _ _ _) <|
  mF (pf_LI _ _) <|
  mF (pf_LA _ _) <|
  mF (pf_GR _ _ _) <|
  mF (pf_LA _ _) <|
  mF (pf_GR _ _ _) <|
  mF (pf_LI _ _) <|
  mF (pf_CV _ _ mc_X1_far fc_X1_far _) <|
  mF (pf_CV _ _ mc_X1_tooLong fc_X1_tooLong _) <|
  mF (pf_SL _ _) <|
  mF (pf_LL _ _) <|
  mF (pf_LL _ _) <|
  mF (pf_Cmp _) <|
  mF (pf_If _ _ _) <|
  mF (pf_LL _ _) <|
  mF (pf_SL _ _) <|
  mF (pf_LI _ _) <|
  mF (pf_I2L _) <|
  mF (pf_SL _ _) <|
  mF (pf_Inc _ _ _) <|
  mF (pf_Go _) <|
  mF (pf_LL _ _) <|
  mF (pf_RL) <|
  mF0
theorem fc_X10_why : pC C_X10_why := pRun mt_X10_why ft_X10_why 10
theorem ft_X10_rest : ∀ q ∈ tb_X10_rest, pF q.2 :=
  mF (pf_LA _ _) <|
  mF (pf_LI _ _) <|
  mF (pf_CV _ _ mc_X10_puppetOf fc_X10_puppetOf _) <|
  mF (pf_SA _ _) <|
  mF (pf_LA _ _) <|
  mF (pf_Nu _ _) <|
  mF (pf_LI _ _) <|
  mF (pf_PI _ _) <|
  mF (pf_PI _ _) <|
  mF (pf_CS _ mc_X10_isWithin fc_X10_isWithin _) <|
  mF (pf_If _ _ _) <|
  mF (pf_PL _ _) <|
  mF (pf_RL) <|
  mF (pf_LA _ _) <|
  mF (pf_GR _ _ _) <|
  mF (pf_LA _ _) <|
  mF (pf_GR _ _ _) <|
  mF (pf_LA _ _) <|
  mF (pf_GR _ _ _) <|
  mF (pf_CV _ _ mc_X3_keep fc_X3_keep _) <|
  mF (pf_LA _ _) <|
  mF (pf_GR _ _ _) <|
  mF (pf_LA _ _) <|
  mF (pf_LI _ _) <|
  mF (pf_CV _ _ mc_X8_settle fc_X8_settle _) <|
  mF (pf_SI _ _) <|
  mF (pf_LA _ _) <|
  mF (pf_Dup _) <|
  mF (pf_GL _ _ _) <|
  mF (pf_LI _ _) <|
  mF (pf_I2L _) <|
  mF (pf_BL _ _) <|
  mF (pf_WL _ _ _) <|
  mF (pf_LI _ _) <|
  mF (pf_I2L _) <|
  mF (pf_RL) <|
  mF0
theorem fc_X10_rest : pC C_X10_rest := pRun mt_X10_rest ft_X10_rest 5
theorem ft_X10_isStill : ∀ q ∈ tb_X10_isStill, pF q.2 :=
  mF (pf_LA _ _) <|
  mF (pf_LI _ _) <|
  mF (pf_CV _ _ mc_X10_puppetOf fc_X10_puppetOf _) <|
  mF (pf_SA _ _) <|
  mF (pf_LA _ _) <|
  mF (pf_Nn _ _) <|
  mF (pf_PL _ _) <|
  mF (pf_RL) <|
  mF (pf_LA _ _) <|
  mF (pf_GR _ _ _) <|
  mF (pf_GR _ _ _) <|
  mF (pf_LA _ _) <|
  mF (pf_GR _ _ _) <|
  mF (pf_CS _ mc_X10_copyRow fc_X10_copyRow _) <|
  mF (pf_LA _ _) <|
  mF (pf_GR _ _ _) <|
  mF (pf_LA _ _) <|
  mF (pf_PI _ _) <|
  mF (pf_CV _ _ mc_X8_settle fc_X8_settle _) <|
  mF (pf_SI _ _) <|
  mF (pf_LA _ _) <|
  mF (pf_GR _ _ _) <|
  mF (pf_LA _ _) <|
  mF (pf_GR _ _ _) <|
  mF (pf_GR _ _ _) <|
  mF (pf_CS _ mc_X10_copyRow fc_X10_copyRow _) <|
  mF (pf_LI _ _) <|
  mF (pf_If _ _ _) <|
  mF (pf_PL _ _) <|
  mF (pf_Go _) <|
  mF (pf_PL _ _) <|
  mF (pf_RL) <|
  mF0
theorem fc_X10_isStill : pC C_X10_isStill := pRun mt_X10_isStill ft_X10_isStill 4
theorem ft_X10_lowest : ∀ q ∈ tb_X10_lowest, pF q.2 :=
  mF (pf_LA _ _) <|
  mF (pf_LI _ _) <|
  mF (pf_CV _ _ mc_X10_puppetOf fc_X10_puppetOf _) <|
  mF (pf_SA _ _) <|
  mF (pf_LA _ _) <|
  mF (pf_Nn _ _) <|
  mF (pf_PL _ _) <|
  mF (pf_RL) <|
  mF (pf_LA _ _) <|
  mF (pf_GR _ _ _) <|
  mF (pf_GI _ _ _) <|
  mF (pf_PI _ _) <|
  mF (pf_PI _ _) <|
  mF (pf_CS _ mc_X10_isWithin fc_X10_isWithin _) <|
  mF (pf_If _ _ _) <|
  mF (pf_PL _ _) <|
  mF (pf_RL) <|
  mF (pf_LA _ _) <|
  mF (pf_GR _ _ _) <|
  mF (pf_LA _ _) <|
  mF (pf_GR _ _ _) <|
  mF (pf_LA _ _) <|
  mF (pf_GR _ _ _) <|
  mF (pf_CV _ _ mc_X3_keep fc_X3_keep _) <|
  mF (pf_LA _ _) <|
  mF (pf_GR _ _ _) <|
  mF (pf_GR _ _ _) <|
  mF (pf_LA _ _) <|
  mF (pf_GR _ _ _) <|
  mF (pf_CS _ mc_X10_copyRow fc_X10_copyRow _) <|
  mF (pf_LA _ _) <|
  mF (pf_GR _ _ _) <|
  mF (pf_LA _ _) <|
  mF (pf_LA _ _) <|
  mF (pf_GR _ _ _) <|
  mF (pf_CV _ _ mc_X8_findLowest fc_X8_findLowest _) <|
  mF (pf_LA _ _) <|
  mF (pf_GR _ _ _) <|
  mF (pf_LA _ _) <|
  mF (pf_GR _ _ _) <|
  mF (pf_GR _ _ _) <|
  mF (pf_CS _ mc_X10_copyRow fc_X10_copyRow _) <|
  mF (pf_PI _ _) <|
  mF (pf_SI _ _) <|
  mF (pf_PI _ _) <|
  mF (pf_SI _ _) <|
  mF (pf_LI _ _) <|
  mF (pf_LA _ _) <|
  mF (pf_GR _ _ _) <|
  mF (pf_GI _ _ _) <|
  mF (pf_Ic _ _ _) <|
  mF (pf_LA _ _) <|
  mF (pf_GR _ _ _) <|
  mF (pf_LI _ _) <|
  mF (pf_IA _) <|
  mF (pf_LA _ _) <|
  mF (pf_GR _ _ _) <|
  mF (pf_LI _ _) <|
  mF (pf_IA _) <|
  mF (pf_Ic _ _ _) <|
  mF (pf_Inc _ _ _) <|
  mF (pf_Inc _ _ _) <|
  mF (pf_Go _) <|
  mF (pf_LI _ _) <|
  mF (pf_I2L _) <|
  mF (pf_RL) <|
  mF0
theorem fc_X10_lowest : pC C_X10_lowest := pRun mt_X10_lowest ft_X10_lowest 5
theorem ft_X10_tick : ∀ q ∈ tb_X10_tick, pF q.2 :=
  mF (pf_LA _ _) <|
  mF (pf_LI _ _) <|
  mF (pf_CV _ _ mc_X10_puppetOf fc_X10_puppetOf _) <|
  mF (pf_SA _ _) <|
  mF (pf_LA _ _) <|
  mF (pf_Nu _ _) <|
  mF (pf_LI _ _) <|
  mF (pf_LI _ _) <|
  mF (pf_CS _ mc_X10_isPlace fc_X10_isPlace _) <|
  mF (pf_If _ _ _) <|
  mF (pf_LI _ _) <|
  mF (pf_CS _ mc_X10_isStep fc_X10_isStep _) <|
  mF (pf_If _ _ _) <|
  mF (pf_PL _ _) <|
  mF (pf_RL) <|
  mF (pf_LA _ _) <|
  mF (pf_GR _ _ _) <|
  mF (pf_GI _ _ _) <|
  mF (pf_PI _ _) <|
  mF (pf_Ic _ _ _) <|
  mF (pf_PL _ _) <|
  mF (pf_RL) <|
  mF (pf_LA _ _) <|
  mF (pf_GR _ _ _) <|
  mF (pf_PI _ _) <|
  mF (pf_WI _ _ _) <|
  mF (pf_LA _ _) <|
  mF (pf_GR _ _ _) <|
  mF (pf_LI _ _) <|
  mF (pf_LI _ _) <|
  mF (pf_LI _ _) <|
  mF (pf_CV _ _ mc_X2_add fc_X2_add _) <|
  mF (pf_I2L _) <|
  mF (pf_RL) <|
  mF0
theorem fc_X10_tick : pC C_X10_tick := pRun mt_X10_tick ft_X10_tick 6
theorem ft_X10_calm : ∀ q ∈ tb_X10_calm, pF q.2 :=
  mF (pf_LA _ _) <|
  mF (pf_LI _ _) <|
  mF (pf_CV _ _ mc_X10_puppetOf fc_X10_puppetOf _) <|
  mF (pf_SA _ _) <|
  mF (pf_LA _ _) <|
  mF (pf_Nn _ _) <|
  mF (pf_PL _ _) <|
  mF (pf_RL) <|
  mF (pf_LA _ _) <|
  mF (pf_GR _ _ _) <|
  mF (pf_GI _ _ _) <|
  mF (pf_SI _ _) <|
  mF (pf_LA _ _) <|
  mF (pf_GR _ _ _) <|
  mF (pf_PI _ _) <|
  mF (pf_WI _ _ _) <|
  mF (pf_LA _ _) <|
  mF (pf_GR _ _ _) <|
  mF (pf_PI _ _) <|
  mF (pf_WI _ _ _) <|
  mF (pf_LI _ _) <|
  mF (pf_I2L _) <|
  mF (pf_RL) <|
  mF0
theorem fc_X10_calm : pC C_X10_calm := pRun mt_X10_calm ft_X10_calm 4
theorem ft_X10_play_c0 : ∀ q ∈ tb_X10_play_c0, pF q.2 :=
  mF (pf_LA _ _) <|
  mF (pf_LI _ _) <|
  mF (pf_CV _ _ mc_X10_puppetOf fc_X10_puppetOf _) <|
  mF (pf_SA _ _) <|
  mF (pf_LA _ _) <|
  mF (pf_Nu _ _) <|
  mF (pf_LI _ _) <|
  mF (pf_PI _ _) <|
  mF (pf_PI _ _) <|
  mF (pf_CS _ mc_X10_isWithin fc_X10_isWithin _) <|
  mF (pf_If _ _ _) <|
  mF (pf_PL _ _) <|
  mF (pf_RL) <|
  mF (pf_LA _ _) <|
  mF (pf_GR _ _ _) <|
  mF (pf_GI _ _ _) <|
  mF (pf_If _ _ _) <|
  mF (pf_LA _ _) <|
  mF (pf_GR _ _ _) <|
  mF (pf_GI _ _ _) <|
  mF (pf_If _ _ _) <|
  mF (pf_PL _ _) <|
  mF (pf_RL) <|
  mF (pf_LA _ _) <|
  mF (pf_GR _ _ _) <|
  mF (pf_LA _ _) <|
  mF (pf_GR _ _ _) <|
  mF (pf_LA _ _) <|
  mF (pf_GR _ _ _) <|
  mF (pf_CV _ _ mc_X3_keep fc_X3_keep _) <|
  mF (pf_PL _ _) <|
  mF (pf_SL _ _) <|
  mF (pf_PI _ _) <|
  mF (pf_SI _ _) <|
  mF (pf_LI _ _) <|
  mF (pf_LA _ _) <|
  mF (pf_GR _ _ _) <|
  mF (pf_GI _ _ _) <|
  mF (pf_Ic _ _ _) <|
  mF (pf_LA _ _) <|
  mF (pf_GR _ _ _) <|
  mF (pf_LA _ _) <|
  mF (pf_GR _ _ _) <|
  mF (pf_GR _ _ _) <|
  mF (pf_LI _ _) <|
  mF (pf_IA _) <|
  mF (pf_LA _ _) <|
  mF (pf_GR _ _ _) <|
  mF (pf_GR _ _ _) <|
  mF (pf_LI _ _) <|
  mF (pf_IA _) <|
  mF (pf_LA _ _) <|
  mF (pf_GR _ _ _) <|
  mF (pf_GR _ _ _) <|
  mF (pf_LI _ _) <|
  mF (pf_IA _) <|
  mF (pf_CV _ _ mc_X0_put fc_X0_put _) <|
  mF (pf_LL _ _) <|
  mF (pf_LA _ _) <|
  mF (pf_GR _ _ _) <|
  mF (pf_LA _ _) <|
  mF (pf_LI _ _) <|
  mF (pf_CV _ _ mc_X8_settle fc_X8_settle _) <|
  mF (pf_I2L _) <|
  mF (pf_BL _ _) <|
  mF (pf_SL _ _) <|
  mF (pf_LA _ _) <|
  mF (pf_GR _ _ _) <|
  mF (pf_LI _ _) <|
  mF (pf_LA _ _) <|
  mF0
theorem ft_X10_play_c1 : ∀ q ∈ tb_X10_play_c1, pF q.2 :=
  mF (pf_GR _ _ _) <|
  mF (pf_CV _ _ mc_X2_keepPose fc_X2_keepPose _) <|
  mF (pf_Inc _ _ _) <|
  mF (pf_Go _) <|
  mF (pf_LA _ _) <|
  mF (pf_GR _ _ _) <|
  mF (pf_LA _ _) <|
  mF (pf_GR _ _ _) <|
  mF (pf_GI _ _ _) <|
  mF (pf_WI _ _ _) <|
  mF (pf_LL _ _) <|
  mF (pf_RL) <|
  mF0
theorem ft_X10_play : ∀ q ∈ tb_X10_play, pF q.2 := mFA ft_X10_play_c0 ft_X10_play_c1
theorem fc_X10_play : pC C_X10_play := pRun mt_X10_play ft_X10_play 7
theorem ft_X10_pose : ∀ q ∈ tb_X10_pose, pF q.2 :=
  mF (pf_LA _ _) <|
  mF (pf_LI _ _) <|
  mF (pf_CV _ _ mc_X10_puppetOf fc_X10_puppetOf _) <|
  mF (pf_SA _ _) <|
  mF (pf_LA _ _) <|
  mF (pf_Nu _ _) <|
  mF (pf_LA _ _) <|
  mF (pf_GR _ _ _) <|
  mF (pf_LI _ _) <|
  mF (pf_CV _ _ mc_X5_has fc_X5_has _) <|
  mF (pf_If _ _ _) <|
  mF (pf_PL _ _) <|
  mF (pf_RL) <|
  mF (pf_LI _ _) <|
  mF (pf_If _ _ _) <|
  mF (pf_LI _ _) <|
  mF (pf_LA _ _) <|
  mF (pf_GR _ _ _) <|
  mF (pf_GI _ _ _) <|
  mF (pf_Ic _ _ _) <|
  mF (pf_PL _ _) <|
  mF (pf_RL) <|
  mF (pf_LA _ _) <|
  mF (pf_GR _ _ _) <|
  mF (pf_LI _ _) <|
  mF (pf_LI _ _) <|
  mF (pf_CV _ _ mc_X2_bendOf fc_X2_bendOf _) <|
  mF (pf_I2L _) <|
  mF (pf_RL) <|
  mF0
theorem fc_X10_pose : pC C_X10_pose := pRun mt_X10_pose ft_X10_pose 5
theorem ft_X10_round : ∀ q ∈ tb_X10_round, pF q.2 :=
  mF (pf_LA _ _) <|
  mF (pf_LI _ _) <|
  mF (pf_CV _ _ mc_X10_puppetOf fc_X10_puppetOf _) <|
  mF (pf_SA _ _) <|
  mF (pf_LA _ _) <|
  mF (pf_Nn _ _) <|
  mF (pf_PL _ _) <|
  mF (pf_RL) <|
  mF (pf_LA _ _) <|
  mF (pf_GR _ _ _) <|
  mF (pf_GI _ _ _) <|
  mF (pf_If _ _ _) <|
  mF (pf_PL _ _) <|
  mF (pf_RL) <|
  mF (pf_LA _ _) <|
  mF (pf_GR _ _ _) <|
  mF (pf_LA _ _) <|
  mF (pf_GR _ _ _) <|
  mF (pf_GI _ _ _) <|
  mF (pf_CV _ _ mc_X2_comesRound fc_X2_comesRound _) <|
  mF (pf_If _ _ _) <|
  mF (pf_PL _ _) <|
  mF (pf_Go _) <|
  mF (pf_PL _ _) <|
  mF (pf_RL) <|
  mF0
theorem fc_X10_round : pC C_X10_round := pRun mt_X10_round ft_X10_round 3
theorem ft_X10_reach_c0 : ∀ q ∈ tb_X10_reach_c0, pF q.2 :=
  mF (pf_LA _ _) <|
  mF (pf_LI _ _) <|
  mF (pf_CV _ _ mc_X10_puppetOf fc_X10_puppetOf _) <|
  mF (pf_SA _ _) <|
  mF (pf_LA _ _) <|
  mF (pf_Nu _ _) <|
  mF (pf_LA _ _) <|
  mF (pf_GR _ _ _) <|
  mF (pf_LI _ _) <|
  mF (pf_CV _ _ mc_X5_has fc_X5_has _) <|
  mF (pf_If _ _ _) <|
  mF (pf_LI _ _) <|
  mF (pf_LI _ _) <|
  mF (pf_CS _ mc_X10_isPlace fc_X10_isPlace _) <|
  mF (pf_If _ _ _) <|
  mF (pf_PL _ _) <|
  mF (pf_RL) <|
  mF (pf_LA _ _) <|
  mF (pf_GR _ _ _) <|
  mF (pf_LA _ _) <|
  mF (pf_GR _ _ _) <|
  mF (pf_LA _ _) <|
  mF (pf_GR _ _ _) <|
  mF (pf_CV _ _ mc_X3_keep fc_X3_keep _) <|
  mF (pf_LA _ _) <|
  mF (pf_GR _ _ _) <|
  mF (pf_GR _ _ _) <|
  mF (pf_LA _ _) <|
  mF (pf_GR _ _ _) <|
  mF (pf_CS _ mc_X10_copyRow fc_X10_copyRow _) <|
  mF (pf_PI _ _) <|
  mF (pf_LA _ _) <|
  mF (pf_GR _ _ _) <|
  mF (pf_GI _ _ _) <|
  mF (pf_PI _ _) <|
  mF (pf_B _ _) <|
  mF (pf_M2 _ _) <|
  mF (pf_SI _ _) <|
  mF (pf_PI _ _) <|
  mF (pf_LA _ _) <|
  mF (pf_GR _ _ _) <|
  mF (pf_GI _ _ _) <|
  mF (pf_PI _ _) <|
  mF (pf_B _ _) <|
  mF (pf_M2 _ _) <|
  mF (pf_SI _ _) <|
  mF (pf_LI _ _) <|
  mF (pf_SI _ _) <|
  mF (pf_PL _ _) <|
  mF (pf_SL _ _) <|
  mF (pf_LI _ _) <|
  mF (pf_SI _ _) <|
  mF (pf_LI _ _) <|
  mF (pf_LI _ _) <|
  mF (pf_Ic _ _ _) <|
  mF (pf_LA _ _) <|
  mF (pf_GR _ _ _) <|
  mF (pf_LA _ _) <|
  mF (pf_GR _ _ _) <|
  mF (pf_GR _ _ _) <|
  mF (pf_CS _ mc_X10_copyRow fc_X10_copyRow _) <|
  mF (pf_LA _ _) <|
  mF (pf_GR _ _ _) <|
  mF (pf_LI _ _) <|
  mF (pf_WI _ _ _) <|
  mF (pf_LA _ _) <|
  mF (pf_GR _ _ _) <|
  mF (pf_LA _ _) <|
  mF (pf_PI _ _) <|
  mF (pf_CV _ _ mc_X8_settle fc_X8_settle _) <|
  mF0
theorem ft_X10_reach_c1 : ∀ q ∈ tb_X10_reach_c1, pF q.2 :=
  mF (pf_Pop _) <|
  mF (pf_LA _ _) <|
  mF (pf_GR _ _ _) <|
  mF (pf_LA _ _) <|
  mF (pf_GR _ _ _) <|
  mF (pf_CV _ _ mc_X1_layLimbs fc_X1_layLimbs _) <|
  mF (pf_LA _ _) <|
  mF (pf_GR _ _ _) <|
  mF (pf_GR _ _ _) <|
  mF (pf_LI _ _) <|
  mF (pf_IA _) <|
  mF (pf_PI _ _) <|
  mF (pf_LI _ _) <|
  mF (pf_B _ _) <|
  mF (pf_B _ _) <|
  mF (pf_I2L _) <|
  mF (pf_LA _ _) <|
  mF (pf_GR _ _ _) <|
  mF (pf_GR _ _ _) <|
  mF (pf_LI _ _) <|
  mF (pf_IA _) <|
  mF (pf_PI _ _) <|
  mF (pf_LI _ _) <|
  mF (pf_B _ _) <|
  mF (pf_B _ _) <|
  mF (pf_I2L _) <|
  mF (pf_CS _ mc_X10_squareOf fc_X10_squareOf _) <|
  mF (pf_SL _ _) <|
  mF (pf_LL _ _) <|
  mF (pf_LL _ _) <|
  mF (pf_Cmp _) <|
  mF (pf_If _ _ _) <|
  mF (pf_LL _ _) <|
  mF (pf_SL _ _) <|
  mF (pf_LI _ _) <|
  mF (pf_SI _ _) <|
  mF (pf_LA _ _) <|
  mF (pf_GR _ _ _) <|
  mF (pf_GR _ _ _) <|
  mF (pf_LA _ _) <|
  mF (pf_GR _ _ _) <|
  mF (pf_CS _ mc_X10_copyRow fc_X10_copyRow _) <|
  mF (pf_Inc _ _ _) <|
  mF (pf_Go _) <|
  mF (pf_LA _ _) <|
  mF (pf_GR _ _ _) <|
  mF (pf_LI _ _) <|
  mF (pf_WI _ _ _) <|
  mF (pf_LA _ _) <|
  mF (pf_GR _ _ _) <|
  mF (pf_LA _ _) <|
  mF (pf_GR _ _ _) <|
  mF (pf_GR _ _ _) <|
  mF (pf_CS _ mc_X10_copyRow fc_X10_copyRow _) <|
  mF (pf_LL _ _) <|
  mF (pf_RL) <|
  mF0
theorem ft_X10_reach : ∀ q ∈ tb_X10_reach, pF q.2 := mFA ft_X10_reach_c0 ft_X10_reach_c1
theorem fc_X10_reach : pC C_X10_reach := pRun mt_X10_reach ft_X10_reach 14
theorem ft_X10_areTangled : ∀ q ∈ tb_X10_areTangled, pF q.2 :=
  mF (pf_LA _ _) <|
  mF (pf_GR _ _ _) <|
  mF (pf_LI _ _) <|
  mF (pf_IA _) <|
  mF (pf_PI _ _) <|
  mF (pf_Ic _ _ _) <|
  mF (pf_LA _ _) <|
  mF (pf_GR _ _ _) <|
  mF (pf_LI _ _) <|
  mF (pf_IA _) <|
  mF (pf_PI _ _) <|
  mF (pf_Ic _ _ _) <|
  mF (pf_PI _ _) <|
  mF (pf_RZ) <|
  mF (pf_LA _ _) <|
  mF (pf_GR _ _ _) <|
  mF (pf_LA _ _) <|
  mF (pf_LI _ _) <|
  mF (pf_LA _ _) <|
  mF (pf_GR _ _ _) <|
  mF (pf_CV _ _ mc_X1_drawString fc_X1_drawString _) <|
  mF (pf_LA _ _) <|
  mF (pf_GR _ _ _) <|
  mF (pf_LA _ _) <|
  mF (pf_LI _ _) <|
  mF (pf_LA _ _) <|
  mF (pf_GR _ _ _) <|
  mF (pf_CV _ _ mc_X1_drawString fc_X1_drawString _) <|
  mF (pf_LA _ _) <|
  mF (pf_GR _ _ _) <|
  mF (pf_LA _ _) <|
  mF (pf_GR _ _ _) <|
  mF (pf_CV _ _ mc_X6_goesThrough fc_X6_goesThrough _) <|
  mF (pf_RZ) <|
  mF0
theorem fc_X10_areTangled : pC C_X10_areTangled := pRun mt_X10_areTangled ft_X10_areTangled 4
theorem ft_X10_tangle : ∀ q ∈ tb_X10_tangle, pF q.2 :=
  mF (pf_LA _ _) <|
  mF (pf_LI _ _) <|
  mF (pf_CV _ _ mc_X10_puppetOf fc_X10_puppetOf _) <|
  mF (pf_SA _ _) <|
  mF (pf_LA _ _) <|
  mF (pf_Nn _ _) <|
  mF (pf_PL _ _) <|
  mF (pf_RL) <|
  mF (pf_LA _ _) <|
  mF (pf_GR _ _ _) <|
  mF (pf_LA _ _) <|
  mF (pf_CV _ _ mc_X1_lay fc_X1_lay _) <|
  mF (pf_PI _ _) <|
  mF (pf_SI _ _) <|
  mF (pf_LI _ _) <|
  mF (pf_LA _ _) <|
  mF (pf_GR _ _ _) <|
  mF (pf_GI _ _ _) <|
  mF (pf_Ic _ _ _) <|
  mF (pf_LI _ _) <|
  mF (pf_PI _ _) <|
  mF (pf_B _ _) <|
  mF (pf_SI _ _) <|
  mF (pf_LI _ _) <|
  mF (pf_LA _ _) <|
  mF (pf_GR _ _ _) <|
  mF (pf_GI _ _ _) <|
  mF (pf_Ic _ _ _) <|
  mF (pf_LA _ _) <|
  mF (pf_LA _ _) <|
  mF (pf_GR _ _ _) <|
  mF (pf_LI _ _) <|
  mF (pf_LI _ _) <|
  mF (pf_CV _ _ mc_X10_areTangled fc_X10_areTangled _) <|
  mF (pf_If _ _ _) <|
  mF (pf_PI _ _) <|
  mF (pf_LI _ _) <|
  mF (pf_B _ _) <|
  mF (pf_LI _ _) <|
  mF (pf_B _ _) <|
  mF (pf_I2L _) <|
  mF (pf_RL) <|
  mF (pf_Inc _ _ _) <|
  mF (pf_Go _) <|
  mF (pf_Inc _ _ _) <|
  mF (pf_Go _) <|
  mF (pf_PL _ _) <|
  mF (pf_RL) <|
  mF0
theorem fc_X10_tangle : pC C_X10_tangle := pRun mt_X10_tangle ft_X10_tangle 5
theorem ft_X10_meet : ∀ q ∈ tb_X10_meet, pF q.2 :=
  mF (pf_LA _ _) <|
  mF (pf_GR _ _ _) <|
  mF (pf_LA _ _) <|
  mF (pf_GR _ _ _) <|
  mF (pf_GR _ _ _) <|
  mF (pf_CV _ _ mc_X1_layLimbs fc_X1_layLimbs _) <|
  mF (pf_LA _ _) <|
  mF (pf_GR _ _ _) <|
  mF (pf_LA _ _) <|
  mF (pf_GR _ _ _) <|
  mF (pf_GR _ _ _) <|
  mF (pf_CV _ _ mc_X1_layLimbs fc_X1_layLimbs _) <|
  mF (pf_PI _ _) <|
  mF (pf_SI _ _) <|
  mF (pf_LI _ _) <|
  mF (pf_LA _ _) <|
  mF (pf_GR _ _ _) <|
  mF (pf_GR _ _ _) <|
  mF (pf_GI _ _ _) <|
  mF (pf_Ic _ _ _) <|
  mF (pf_LA _ _) <|
  mF (pf_GR _ _ _) <|
  mF (pf_LI _ _) <|
  mF (pf_LA _ _) <|
  mF (pf_GR _ _ _) <|
  mF (pf_CV _ _ mc_X1_drawLimb fc_X1_drawLimb _) <|
  mF (pf_PI _ _) <|
  mF (pf_SI _ _) <|
  mF (pf_LI _ _) <|
  mF (pf_LA _ _) <|
  mF (pf_GR _ _ _) <|
  mF (pf_GR _ _ _) <|
  mF (pf_GI _ _ _) <|
  mF (pf_Ic _ _ _) <|
  mF (pf_LA _ _) <|
  mF (pf_GR _ _ _) <|
  mF (pf_LI _ _) <|
  mF (pf_LA _ _) <|
  mF (pf_GR _ _ _) <|
  mF (pf_CV _ _ mc_X1_drawLimb fc_X1_drawLimb _) <|
  mF (pf_LA _ _) <|
  mF (pf_GR _ _ _) <|
  mF (pf_LA _ _) <|
  mF (pf_GR _ _ _) <|
  mF (pf_CV _ _ mc_X6_touches fc_X6_touches _) <|
  mF (pf_If _ _ _) <|
  mF (pf_PI _ _) <|
  mF (pf_LI _ _) <|
  mF (pf_B _ _) <|
  mF (pf_LI _ _) <|
  mF (pf_B _ _) <|
  mF (pf_I2L _) <|
  mF (pf_RL) <|
  mF (pf_Inc _ _ _) <|
  mF (pf_Go _) <|
  mF (pf_Inc _ _ _) <|
  mF (pf_Go _) <|
  mF (pf_PL _ _) <|
  mF (pf_RL) <|
  mF0
theorem fc_X10_meet : pC C_X10_meet := pRun mt_X10_meet ft_X10_meet 3
theorem ft_X10_mirror : ∀ q ∈ tb_X10_mirror, pF q.2 :=
  mF (pf_LA _ _) <|
  mF (pf_LI _ _) <|
  mF (pf_CV _ _ mc_X10_puppetOf fc_X10_puppetOf _) <|
  mF (pf_SA _ _) <|
  mF (pf_LA _ _) <|
  mF (pf_Nn _ _) <|
  mF (pf_PL _ _) <|
  mF (pf_RL) <|
  mF (pf_LA _ _) <|
  mF (pf_CV _ _ mc_X7_hasMirrorImage fc_X7_hasMirrorImage _) <|
  mF (pf_If _ _ _) <|
  mF (pf_PL _ _) <|
  mF (pf_RL) <|
  mF (pf_LA _ _) <|
  mF (pf_GR _ _ _) <|
  mF (pf_LA _ _) <|
  mF (pf_GR _ _ _) <|
  mF (pf_LA _ _) <|
  mF (pf_GR _ _ _) <|
  mF (pf_CV _ _ mc_X3_keep fc_X3_keep _) <|
  mF (pf_LA _ _) <|
  mF (pf_CV _ _ mc_X7_turnOver fc_X7_turnOver _) <|
  mF (pf_PL _ _) <|
  mF (pf_RL) <|
  mF0
theorem fc_X10_mirror : pC C_X10_mirror := pRun mt_X10_mirror ft_X10_mirror 3
theorem ft_X10_undo : ∀ q ∈ tb_X10_undo, pF q.2 :=
  mF (pf_LA _ _) <|
  mF (pf_GR _ _ _) <|
  mF (pf_GI _ _ _) <|
  mF (pf_If _ _ _) <|
  mF (pf_PL _ _) <|
  mF (pf_RL) <|
  mF (pf_LA _ _) <|
  mF (pf_GR _ _ _) <|
  mF (pf_LA _ _) <|
  mF (pf_GR _ _ _) <|
  mF (pf_LA _ _) <|
  mF (pf_GR _ _ _) <|
  mF (pf_CV _ _ mc_X3_takeBack fc_X3_takeBack _) <|
  mF (pf_LA _ _) <|
  mF (pf_GR _ _ _) <|
  mF (pf_GI _ _ _) <|
  mF (pf_I2L _) <|
  mF (pf_RL) <|
  mF0
theorem fc_X10_undo : pC C_X10_undo := pRun mt_X10_undo ft_X10_undo 1
theorem ft_X10_count : ∀ q ∈ tb_X10_count, pF q.2 :=
  mF (pf_LI _ _) <|
  mF (pf_Ts _ _) <|
  mF (pf_LA _ _) <|
  mF (pf_GR _ _ _) <|
  mF (pf_GR _ _ _) <|
  mF (pf_GI _ _ _) <|
  mF (pf_LA _ _) <|
  mF (pf_GR _ _ _) <|
  mF (pf_GR _ _ _) <|
  mF (pf_GI _ _ _) <|
  mF (pf_B _ _) <|
  mF (pf_I2L _) <|
  mF (pf_RL) <|
  mF (pf_LA _ _) <|
  mF (pf_GR _ _ _) <|
  mF (pf_GR _ _ _) <|
  mF (pf_GI _ _ _) <|
  mF (pf_LA _ _) <|
  mF (pf_GR _ _ _) <|
  mF (pf_GR _ _ _) <|
  mF (pf_GI _ _ _) <|
  mF (pf_B _ _) <|
  mF (pf_I2L _) <|
  mF (pf_RL) <|
  mF (pf_LA _ _) <|
  mF (pf_GR _ _ _) <|
  mF (pf_GI _ _ _) <|
  mF (pf_I2L _) <|
  mF (pf_RL) <|
  mF (pf_LA _ _) <|
  mF (pf_GL _ _ _) <|
  mF (pf_RL) <|
  mF (pf_PL _ _) <|
  mF (pf_RL) <|
  mF0
theorem fc_X10_count : pC C_X10_count := pRun mt_X10_count ft_X10_count 2
