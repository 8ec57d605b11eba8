/-! ===== the class's history ===== -/
def hF (k : Nat) : Nat := 54 + 48 * k
def hS (k : Nat) : Nat := 78 + 48 * k
theorem lt5_cases {P : Nat → Prop} (h0 : P 0) (h1 : P 1) (h2 : P 2) (h3 : P 3) (h4 : P 4) {k : Nat} (hk : k < 5) : P k := by
  match k, hk with
  | 0, _ => exact h0
  | 1, _ => exact h1
  | 2, _ => exact h2
  | 3, _ => exact h3
  | 4, _ => exact h4
theorem sp_F {n k : Nat} (hk : k < 5) : sPup (tt n) (hF k) := lt5_cases (P := fun k => sPup (tt n) (hF k)) sp_54 sp_102 sp_150 sp_198 sp_246 hk
theorem sp_S {n k : Nat} (hk : k < 5) : sPup (tt n) (hS k) := lt5_cases (P := fun k => sPup (tt n) (hS k)) sp_78 sp_126 sp_174 sp_222 sp_270 hk
theorem rf_52 {n k : Nat} (hk : k < 5) : mRf (tt n) 52 k = some (hF k) := lt5_cases (P := fun k => mRf (tt n) 52 k = some (hF k)) rfl rfl rfl rfl rfl hk
theorem rf_53 {n k : Nat} (hk : k < 5) : mRf (tt n) 53 k = some (hS k) := lt5_cases (P := fun k => mRf (tt n) 53 k = some (hS k)) rfl rfl rfl rfl rfl hk
theorem in5 {k : Nat} (hk : k < 5) : vp_in (nI k) 5 := vp_in_nI hk (by decide)
theorem cl5 {k : Nat} (hk : k < 5) : (nI k).toNatClampNeg = k := nI_clamp (by omega)
theorem bcU_other {I : Nat → Nat → Int32} {a b x j : Nat} {P : Nat → Nat → Bool} (h : x < a ∨ a + 24 ≤ x) : bcU I a b P x j = I x j := by unfold bcU; rw [if_neg (by omega)]
/-- both puppets laid into place k -/
def hKeep (I : Nat → Nat → Int32) (k : Nat) : Nat → Nat → Int32 := bcU (bcU I (hF k) 3 pAll) (hS k) 27 pAll
theorem hKeep_other {I : Nat → Nat → Int32} {k x j : Nat} (h : x < hF k ∨ hF k + 48 ≤ x) : hKeep I k x j = I x j := by
  unfold hF at h
  unfold hKeep
  rw [bcU_other (by unfold hS; omega), bcU_other (by unfold hF; omega)]
theorem nxt5 {k : Nat} (hk : k < 5) : nI k + 1 - (nI k + 1) / 5 * 5 = nI ((k + 1) % 5) := lt5_cases (P := fun k => nI k + 1 - (nI k + 1) / 5 * 5 = nI ((k + 1) % 5)) (by decide) (by decide) (by decide) (by decide) (by decide) hk
theorem min5 {k : Nat} (hk : k ≤ 5) : (if (5 : Int32) < nI k + 1 then 5 else nI k + 1) = nI (min (k + 1) 5) := by
  rcases Nat.lt_or_ge k 5 with h | h
  · exact lt5_cases (P := fun k => (if (5 : Int32) < nI k + 1 then 5 else nI k + 1) = nI (min (k + 1) 5)) (by decide) (by decide) (by decide) (by decide) (by decide) h
  · have : k = 5 := by omega
    subst this; decide
theorem five_ne : ¬ (5 : Int32) = 0 := by decide
theorem k_keepC {Q : mQo} {n : Nat} {I : Nat → Nat → Int32} {L : Nat → Nat → Int64} {nx kp : Nat} (h1 : nx < 5) (h2 : kp ≤ 5) (e1 : I 51 2 = nI nx) (e2 : I 51 3 = nI kp) : C_X3_keep [.ref 51, .ref 3, .ref 27] (tt n, I, L) Q = Q none (tt n, mUI (mUI (hKeep I nx) 51 2 (nI ((nx + 1) % 5))) 51 3 (nI (min (kp + 1) 5)), L) := by
  have d1 : hF nx + 24 ≤ 3 ∨ 3 + 24 ≤ hF nx := by unfold hF; omega
  have d2 : hS nx + 24 ≤ 27 ∨ 27 + 24 ≤ hS nx := by unfold hS; omega
  have g1 : mTg (tt n) (hF nx) = 10 := (sp_F h1).2.1.1
  have g2 : mTg (tt n) (hS nx) = 10 := (sp_S h1).2.1.1
  have x1 : ∀ j, bcU I (hF nx) 3 pAll 51 j = I 51 j := fun j => bcU_other (by unfold hF; omega)
  have x2 : ∀ j, hKeep I nx 51 j = I 51 j := fun j => hKeep_other (by unfold hF; omega)
  have x3 : ∀ v, mUI (hKeep I nx) 51 2 v 51 3 = hKeep I nx 51 3 := fun v => by unfold mUI; rfl
  have hk : bcU (bcU I (hF nx) 3 pAll) (hS nx) 27 pAll = hKeep I nx := rfl
  simp only [c_X3_keep, e_X3_keep_0, e_X3_keep_0n, e_X3_keep_1, e_X3_keep_4, e_X3_keep_4n, e_X3_keep_5, e_X3_keep_8, e_X3_keep_9, e_X3_keep_9n, e_X3_keep_10, e_X3_keep_13, e_X3_keep_13n, e_X3_keep_14, e_X3_keep_17, e_X3_keep_17n, e_X3_keep_18, e_X3_keep_21, e_X3_keep_22, e_X3_keep_22n, e_X3_keep_23, e_X3_keep_26, e_X3_keep_26n, e_X3_keep_27, e_X3_keep_27n, e_X3_keep_28, e_X3_keep_31, e_X3_keep_32, e_X3_keep_33, e_X3_keep_34, e_X3_keep_35, e_X3_keep_38, e_X3_keep_38n, e_X3_keep_39, e_X3_keep_39n, e_X3_keep_40, e_X3_keep_43, e_X3_keep_44, e_X3_keep_45, e_X3_keep_46, e_X3_keep_49, e_X3_keep_52, mNl_i, mNl_r, mNl_n, mNl_l, mNl_0, mRV_s, mRV_n, tl_s, tl_n, cs_0, cs_i, cs_r, cs_n, cs_l, Nat.reduceAdd, Nat.reduceLeDiff, true_and, and_true, eq_self_iff_true, if_true, if_false, tt_z, tg_51, tg_52, tg_53, ln_52, ln_53, rf_51_0, rf_51_1, e1, in5 h1, cl5 h1, rf_52 h1, rf_53 h1, g1, g2, k_X7_become tt_z (sp_F h1) sp_3 d1, k_X7_become tt_z (sp_S h1) sp_27 d2, x1, hk, x2, x3, e2, five_ne, not_false_iff, nxt5 h1, min5 h2]
/-- the puppets of place k are back -/
def hBack (I : Nat → Nat → Int32) (k : Nat) : Nat → Nat → Int32 := bcU (bcU I 3 (hF k) pAll) 27 (hS k) pAll
theorem hBack_other {I : Nat → Nat → Int32} {k x j : Nat} (h : x < 3 ∨ 51 ≤ x) : hBack I k x j = I x j := by
  unfold hBack
  rw [bcU_other (by omega), bcU_other (by omega)]
theorem prv5 {k : Nat} (hk : k < 5) : nI k + 5 - 1 - (nI k + 5 - 1) / 5 * 5 = nI ((k + 4) % 5) := lt5_cases (P := fun k => nI k + 5 - 1 - (nI k + 5 - 1) / 5 * 5 = nI ((k + 4) % 5)) (by decide) (by decide) (by decide) (by decide) (by decide) hk
theorem k_backC {Q : mQo} {n : Nat} {I : Nat → Nat → Int32} {L : Nat → Nat → Int64} {nx : Nat} (h1 : nx < 5) (e1 : I 51 2 = nI nx) : C_X3_takeBack [.ref 51, .ref 3, .ref 27] (tt n, I, L) Q = Q none (tt n, mUI (hBack (mUI I 51 2 (nI ((nx + 4) % 5))) ((nx + 4) % 5)) 51 3 (I 51 3 - 1), L) := by
  have h2 : (nx + 4) % 5 < 5 := Nat.mod_lt _ (by decide)
  generalize hk : (nx + 4) % 5 = k at h2
  have d1 : 3 + 24 ≤ hF k ∨ hF k + 24 ≤ 3 := by unfold hF; omega
  have d2 : 27 + 24 ≤ hS k ∨ hS k + 24 ≤ 27 := by unfold hS; omega
  have y1 : ∀ v, mUI I 51 2 v 51 2 = v := fun v => by unfold mUI; rfl
  have y2 : ∀ v j, bcU (mUI I 51 2 v) 3 (hF k) pAll 51 j = mUI I 51 2 v 51 j := fun v j => bcU_other (by omega)
  have y3 : ∀ v j, hBack (mUI I 51 2 v) k 51 j = mUI I 51 2 v 51 j := fun v j => hBack_other (by omega)
  have y4 : ∀ v, mUI I 51 2 v 51 3 = I 51 3 := fun v => by unfold mUI; rfl
  have hb : ∀ v, bcU (bcU (mUI I 51 2 v) 3 (hF k) pAll) 27 (hS k) pAll = hBack (mUI I 51 2 v) k := fun v => rfl
  simp only [c_X3_takeBack, e_X3_takeBack_0, e_X3_takeBack_0n, e_X3_takeBack_1, e_X3_takeBack_1n, e_X3_takeBack_2, e_X3_takeBack_5, e_X3_takeBack_6, e_X3_takeBack_7, e_X3_takeBack_8, e_X3_takeBack_9, e_X3_takeBack_10, e_X3_takeBack_11, e_X3_takeBack_14, e_X3_takeBack_14n, e_X3_takeBack_15, e_X3_takeBack_15n, e_X3_takeBack_16, e_X3_takeBack_19, e_X3_takeBack_19n, e_X3_takeBack_20, e_X3_takeBack_23, e_X3_takeBack_24, e_X3_takeBack_27, e_X3_takeBack_27n, e_X3_takeBack_28, e_X3_takeBack_28n, e_X3_takeBack_29, e_X3_takeBack_32, e_X3_takeBack_32n, e_X3_takeBack_33, e_X3_takeBack_36, e_X3_takeBack_37, e_X3_takeBack_40, e_X3_takeBack_40n, e_X3_takeBack_41, e_X3_takeBack_41i, e_X3_takeBack_42, e_X3_takeBack_45, e_X3_takeBack_46, e_X3_takeBack_47, e_X3_takeBack_50, mNl_i, mNl_r, mNl_n, mNl_l, mNl_0, mRV_s, mRV_n, tl_s, tl_n, cs_0, cs_i, cs_r, cs_n, cs_l, Nat.reduceAdd, Nat.reduceLeDiff, true_and, and_true, eq_self_iff_true, if_true, if_false, tt_z, tg_3, tg_27, tg_51, tg_52, tg_53, ln_52, ln_53, rf_51_0, rf_51_1, e1, five_ne, not_false_iff, prv5 h1, hk, y1, y2, in5 h2, cl5 h2, rf_52 h2, rf_53 h2, k_X7_become tt_z sp_3 (sp_F h2) d1, k_X7_become tt_z sp_27 (sp_S h2) d2, hb, y3, y4]
