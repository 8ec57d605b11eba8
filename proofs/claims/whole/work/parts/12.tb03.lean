/-! PuppetStage.at(IIII)J: 48 instructions, depth 2, makes 0 cells of 0 slots -/
def tb_X10_at : mTb := [(0, aLA 0 1), (1, aLI 1 2), (2, aCV 10 1 C_X10_puppetOf 5), (5, aSA 5 7), (7, aLA 5 9), (9, aNu 52 12), (12, aLA 5 14), (14, aGR 7 0 17), (17, aLI 2 18), (18, aCV 5 1 C_X5_has 21), (21, aIf (fun x => x = 0) 52 24), (24, aLI 3 25), (25, aPI 0 26), (26, aLA 5 28), (28, aGR 7 0 31), (31, aGR 5 0 34), (34, aLI 2 35), (35, aIA 36), (36, aCS 3 C_X10_isWithin 39), (39, aIf (fun x => x = 0) 52 42), (42, aLI 4 44), (44, aPI 0 45), (45, aPI 1 46), (46, aCS 3 C_X10_isWithin 49), (49, aIf (fun x => x = 0) 52 56), (52, aPL (-9000000000000000001) 55), (55, aRL), (56, aLA 0 57), (57, aGR 10 3 60), (60, aLA 5 62), (62, aGR 7 0 65), (65, aCV 1 1 C_X1_layLimbs 68), (68, aLI 4 70), (70, aIf (fun x => x = 0) 73 86), (73, aLA 0 74), (74, aGR 10 3 77), (77, aLI 2 78), (78, aLI 3 79), (79, aCV 1 2 C_X1_spotX 82), (82, aI2L 83), (83, aGo 96), (86, aLA 0 87), (87, aGR 10 3 90), (90, aLI 2 91), (91, aLI 3 92), (92, aCV 1 2 C_X1_spotY 95), (95, aI2L 96), (96, aRL)]
theorem mt_X10_at : mMT tb_X10_at :=
  mF (mn_LA _ _) <|
  mF (mn_LI _ _) <|
  mF (mn_CV _ _ mc_X10_puppetOf _) <|
  mF (mn_SA _ _) <|
  mF (mn_LA _ _) <|
  mF (mn_Nu _ _) <|
  mF (mn_LA _ _) <|
  mF (mn_GR _ _ _) <|
  mF (mn_LI _ _) <|
  mF (mn_CV _ _ mc_X5_has _) <|
  mF (mn_If _ _ _) <|
  mF (mn_LI _ _) <|
  mF (mn_PI _ _) <|
  mF (mn_LA _ _) <|
  mF (mn_GR _ _ _) <|
  mF (mn_GR _ _ _) <|
  mF (mn_LI _ _) <|
  mF (mn_IA _) <|
  mF (mn_CS _ mc_X10_isWithin _) <|
  mF (mn_If _ _ _) <|
  mF (mn_LI _ _) <|
  mF (mn_PI _ _) <|
  mF (mn_PI _ _) <|
  mF (mn_CS _ mc_X10_isWithin _) <|
  mF (mn_If _ _ _) <|
  mF (mn_PL _ _) <|
  mF (mn_RL) <|
  mF (mn_LA _ _) <|
  mF (mn_GR _ _ _) <|
  mF (mn_LA _ _) <|
  mF (mn_GR _ _ _) <|
  mF (mn_CV _ _ mc_X1_layLimbs _) <|
  mF (mn_LI _ _) <|
  mF (mn_If _ _ _) <|
  mF (mn_LA _ _) <|
  mF (mn_GR _ _ _) <|
  mF (mn_LI _ _) <|
  mF (mn_LI _ _) <|
  mF (mn_CV _ _ mc_X1_spotX _) <|
  mF (mn_I2L _) <|
  mF (mn_Go _) <|
  mF (mn_LA _ _) <|
  mF (mn_GR _ _ _) <|
  mF (mn_LI _ _) <|
  mF (mn_LI _ _) <|
  mF (mn_CV _ _ mc_X1_spotY _) <|
  mF (mn_I2L _) <|
  mF (mn_RL) <|
  mF0
def C_X10_at : mCo := mRun tb_X10_at 6
theorem mc_X10_at : mMC C_X10_at := mRun_mn mt_X10_at 6
theorem yi_X10_at : mYin yX10_at cX10_at 6 (some .long) 4 := ⟨wd_49, wd_604, by decide +kernel, by decide⟩
set_option maxRecDepth 100000 in
set_option maxHeartbeats 4000000 in
theorem sd_X10_at (l : Launch) (B : mBs) (p : Program) (e : Env) (s : State) (m : MethodId) (args : Array Value) (below : List Frame) (meth : Method) (c : Code) (Q : mQo) (X : mCx l B RX10 cX10_at 6 p s m args c) (hr : meth.sig.returnType = (some .long)) (hk : meth.locks = false) (hn : meth.name = "at") : ∀ q ∈ tb_X10_at, mSnd l B 6 p e (mRm 2 0 0) s m args below meth c (MQ below (mPo B Q) args s 0 0 (mA B)) (fun r h' => (h'.1.2.1 ≤ 0 ∧ h'.1.2.2 ≤ 0) ∧ Q r h') q.2 q.1 :=
  mF (sn_aload_n (pc := 0) (j := 0) X (by decide +kernel) rfl) <|
  mF (sn_iload_n (pc := 1) (j := 1) X (by decide +kernel) rfl) <|
  mF (sn_callV (pc := 2) X mc_X10_puppetOf (me_X10_puppetOf l B) yi_X10_puppetOf wd_425 wd_427 wd_0 (T := TX10) (N := 11) rfl (by decide) (by decide +kernel)) <|
  mF (sn_astore (pc := 5) X (by decide +kernel) (by decide)) <|
  mF (sn_aload (pc := 7) X (by decide +kernel)) <|
  mF (sn_ifnull (pc := 9) (off := 43) X (by decide +kernel) (by decide)) <|
  mF (sn_aload (pc := 12) X (by decide +kernel)) <|
  mF (sn_getR (pc := 14) X fd_X10_68 (by decide +kernel)) <|
  mF (sn_iload_n (pc := 17) (j := 2) X (by decide +kernel) rfl) <|
  mF (sn_callV (pc := 18) X mc_X5_has (me_X5_has l B) yi_X5_has wd_546 wd_547 wd_548 (T := TX5) (N := 7) rfl (by decide) (by decide +kernel)) <|
  mF (sn_if_eq (pc := 21) (off := 31) X (by decide +kernel) (by decide)) <|
  mF (sn_iload_n (pc := 24) (j := 3) X (by decide +kernel) rfl) <|
  mF (sn_iconst (pc := 25) (n := 0) X (by decide +kernel) (by decide)) <|
  mF (sn_aload (pc := 26) X (by decide +kernel)) <|
  mF (sn_getR (pc := 28) X fd_X10_68 (by decide +kernel)) <|
  mF (sn_getR (pc := 31) X fd_X10_202 (by decide +kernel)) <|
  mF (sn_iload_n (pc := 34) (j := 2) X (by decide +kernel) rfl) <|
  mF (sn_iaload (pc := 35) X (by decide +kernel)) <|
  mF (sn_callS (pc := 36) X mc_X10_isWithin (me_X10_isWithin l B) yi_X10_isWithin wd_429 wd_430 (by decide) (by decide +kernel)) <|
  mF (sn_if_eq (pc := 39) (off := 13) X (by decide +kernel) (by decide)) <|
  mF (sn_iload (pc := 42) X (by decide +kernel)) <|
  mF (sn_iconst (pc := 44) (n := 0) X (by decide +kernel) (by decide)) <|
  mF (sn_iconst (pc := 45) (n := 1) X (by decide +kernel) (by decide)) <|
  mF (sn_callS (pc := 46) X mc_X10_isWithin (me_X10_isWithin l B) yi_X10_isWithin wd_429 wd_430 (by decide) (by decide +kernel)) <|
  mF (sn_if_ne (pc := 49) (off := 7) X (by decide +kernel) (by decide)) <|
  mF (sn_ldc2 (pc := 52) X (by decide +kernel) wd_432) <|
  mF (sn_lret (pc := 55) X hr hk (by decide +kernel)) <|
  mF (sn_aload_n (pc := 56) (j := 0) X (by decide +kernel) rfl) <|
  mF (sn_getR (pc := 57) X fd_X10_29 (by decide +kernel)) <|
  mF (sn_aload (pc := 60) X (by decide +kernel)) <|
  mF (sn_getR (pc := 62) X fd_X10_68 (by decide +kernel)) <|
  mF (sn_callV (pc := 65) X mc_X1_layLimbs (me_X1_layLimbs l B) yi_X1_layLimbs wd_579 wd_580 wd_581 (T := TX1) (N := 11) rfl (by decide) (by decide +kernel)) <|
  mF (sn_iload (pc := 68) X (by decide +kernel)) <|
  mF (sn_if_ne (pc := 70) (off := 16) X (by decide +kernel) (by decide)) <|
  mF (sn_aload_n (pc := 73) (j := 0) X (by decide +kernel) rfl) <|
  mF (sn_getR (pc := 74) X fd_X10_29 (by decide +kernel)) <|
  mF (sn_iload_n (pc := 77) (j := 2) X (by decide +kernel) rfl) <|
  mF (sn_iload_n (pc := 78) (j := 3) X (by decide +kernel) rfl) <|
  mF (sn_callV (pc := 79) X mc_X1_spotX (me_X1_spotX l B) yi_X1_spotX wd_605 wd_592 wd_593 (T := TX1) (N := 11) rfl (by decide) (by decide +kernel)) <|
  mF (sn_i2l (pc := 82) X (by decide +kernel)) <|
  mF (sn_goto (pc := 83) (off := 13) X (by decide +kernel) (by decide)) <|
  mF (sn_aload_n (pc := 86) (j := 0) X (by decide +kernel) rfl) <|
  mF (sn_getR (pc := 87) X fd_X10_29 (by decide +kernel)) <|
  mF (sn_iload_n (pc := 90) (j := 2) X (by decide +kernel) rfl) <|
  mF (sn_iload_n (pc := 91) (j := 3) X (by decide +kernel) rfl) <|
  mF (sn_callV (pc := 92) X mc_X1_spotY (me_X1_spotY l B) yi_X1_spotY wd_606 wd_596 wd_597 (T := TX1) (N := 11) rfl (by decide) (by decide +kernel)) <|
  mF (sn_i2l (pc := 95) X (by decide +kernel)) <|
  mF (sn_lret (pc := 96) X hr hk (by decide +kernel)) <|
  mF0
theorem me_X10_at (l : Launch) (B : mBs) : mMet l B yX10_at cX10_at 6 (some .long) 2 0 0 C_X10_at := mMet_of (own := RX10) (by decide) rfl (fun p e s m args below meth c Q X hr hk hn => sd_X10_at l B p e s m args below meth c Q X hr hk hn)
/-! PuppetStage.barAt(III)J: 37 instructions, depth 2, makes 0 cells of 0 slots -/
def tb_X10_barAt : mTb := [(0, aLA 0 1), (1, aLI 1 2), (2, aCV 10 1 C_X10_puppetOf 5), (5, aSA 4 7), (7, aLA 4 9), (9, aNu 28 12), (12, aLI 2 13), (13, aCS 1 C_X10_isBar 16), (16, aIf (fun x => x = 0) 28 19), (19, aLI 3 20), (20, aPI 0 21), (21, aPI 1 22), (22, aCS 3 C_X10_isWithin 25), (25, aIf (fun x => x = 0) 28 32), (28, aPL (-9000000000000000001) 31), (31, aRL), (32, aLA 0 33), (33, aGR 10 3 36), (36, aLA 4 38), (38, aGR 7 2 41), (41, aCV 1 1 C_X1_layBars 44), (44, aLI 3 45), (45, aIf (fun x => x = 0) 48 61), (48, aLA 0 49), (49, aGR 10 3 52), (52, aGR 1 7 55), (55, aLI 2 56), (56, aIA 57), (57, aI2L 58), (58, aGo 71), (61, aLA 0 62), (62, aGR 10 3 65), (65, aGR 1 8 68), (68, aLI 2 69), (69, aIA 70), (70, aI2L 71), (71, aRL)]
theorem mt_X10_barAt : mMT tb_X10_barAt :=
  mF (mn_LA _ _) <|
  mF (mn_LI _ _) <|
  mF (mn_CV _ _ mc_X10_puppetOf _) <|
  mF (mn_SA _ _) <|
  mF (mn_LA _ _) <|
  mF (mn_Nu _ _) <|
  mF (mn_LI _ _) <|
  mF (mn_CS _ mc_X10_isBar _) <|
  mF (mn_If _ _ _) <|
  mF (mn_LI _ _) <|
  mF (mn_PI _ _) <|
  mF (mn_PI _ _) <|
  mF (mn_CS _ mc_X10_isWithin _) <|
  mF (mn_If _ _ _) <|
  mF (mn_PL _ _) <|
  mF (mn_RL) <|
  mF (mn_LA _ _) <|
  mF (mn_GR _ _ _) <|
  mF (mn_LA _ _) <|
  mF (mn_GR _ _ _) <|
  mF (mn_CV _ _ mc_X1_layBars _) <|
  mF (mn_LI _ _) <|
  mF (mn_If _ _ _) <|
  mF (mn_LA _ _) <|
  mF (mn_GR _ _ _) <|
  mF (mn_GR _ _ _) <|
  mF (mn_LI _ _) <|
  mF (mn_IA _) <|
  mF (mn_I2L _) <|
  mF (mn_Go _) <|
  mF (mn_LA _ _) <|
  mF (mn_GR _ _ _) <|
  mF (mn_GR _ _ _) <|
  mF (mn_LI _ _) <|
  mF (mn_IA _) <|
  mF (mn_I2L _) <|
  mF (mn_RL) <|
  mF0
def C_X10_barAt : mCo := mRun tb_X10_barAt 5
theorem mc_X10_barAt : mMC C_X10_barAt := mRun_mn mt_X10_barAt 5
theorem yi_X10_barAt : mYin yX10_barAt cX10_barAt 5 (some .long) 3 := ⟨wd_49, wd_610, by decide +kernel, by decide⟩
set_option maxRecDepth 100000 in
set_option maxHeartbeats 4000000 in
theorem sd_X10_barAt (l : Launch) (B : mBs) (p : Program) (e : Env) (s : State) (m : MethodId) (args : Array Value) (below : List Frame) (meth : Method) (c : Code) (Q : mQo) (X : mCx l B RX10 cX10_barAt 5 p s m args c) (hr : meth.sig.returnType = (some .long)) (hk : meth.locks = false) (hn : meth.name = "barAt") : ∀ q ∈ tb_X10_barAt, mSnd l B 5 p e (mRm 2 0 0) s m args below meth c (MQ below (mPo B Q) args s 0 0 (mA B)) (fun r h' => (h'.1.2.1 ≤ 0 ∧ h'.1.2.2 ≤ 0) ∧ Q r h') q.2 q.1 :=
  mF (sn_aload_n (pc := 0) (j := 0) X (by decide +kernel) rfl) <|
  mF (sn_iload_n (pc := 1) (j := 1) X (by decide +kernel) rfl) <|
  mF (sn_callV (pc := 2) X mc_X10_puppetOf (me_X10_puppetOf l B) yi_X10_puppetOf wd_425 wd_427 wd_0 (T := TX10) (N := 11) rfl (by decide) (by decide +kernel)) <|
  mF (sn_astore (pc := 5) X (by decide +kernel) (by decide)) <|
  mF (sn_aload (pc := 7) X (by decide +kernel)) <|
  mF (sn_ifnull (pc := 9) (off := 19) X (by decide +kernel) (by decide)) <|
  mF (sn_iload_n (pc := 12) (j := 2) X (by decide +kernel) rfl) <|
  mF (sn_callS (pc := 13) X mc_X10_isBar (me_X10_isBar l B) yi_X10_isBar wd_559 wd_560 (by decide) (by decide +kernel)) <|
  mF (sn_if_eq (pc := 16) (off := 12) X (by decide +kernel) (by decide)) <|
  mF (sn_iload_n (pc := 19) (j := 3) X (by decide +kernel) rfl) <|
  mF (sn_iconst (pc := 20) (n := 0) X (by decide +kernel) (by decide)) <|
  mF (sn_iconst (pc := 21) (n := 1) X (by decide +kernel) (by decide)) <|
  mF (sn_callS (pc := 22) X mc_X10_isWithin (me_X10_isWithin l B) yi_X10_isWithin wd_429 wd_430 (by decide) (by decide +kernel)) <|
  mF (sn_if_ne (pc := 25) (off := 7) X (by decide +kernel) (by decide)) <|
  mF (sn_ldc2 (pc := 28) X (by decide +kernel) wd_432) <|
  mF (sn_lret (pc := 31) X hr hk (by decide +kernel)) <|
  mF (sn_aload_n (pc := 32) (j := 0) X (by decide +kernel) rfl) <|
  mF (sn_getR (pc := 33) X fd_X10_29 (by decide +kernel)) <|
  mF (sn_aload (pc := 36) X (by decide +kernel)) <|
  mF (sn_getR (pc := 38) X fd_X10_165 (by decide +kernel)) <|
  mF (sn_callV (pc := 41) X mc_X1_layBars (me_X1_layBars l B) yi_X1_layBars wd_611 wd_612 wd_613 (T := TX1) (N := 11) rfl (by decide) (by decide +kernel)) <|
  mF (sn_iload_n (pc := 44) (j := 3) X (by decide +kernel) rfl) <|
  mF (sn_if_ne (pc := 45) (off := 16) X (by decide +kernel) (by decide)) <|
  mF (sn_aload_n (pc := 48) (j := 0) X (by decide +kernel) rfl) <|
  mF (sn_getR (pc := 49) X fd_X10_29 (by decide +kernel)) <|
  mF (sn_getR (pc := 52) X fd_X10_236 (by decide +kernel)) <|
  mF (sn_iload_n (pc := 55) (j := 2) X (by decide +kernel) rfl) <|
  mF (sn_iaload (pc := 56) X (by decide +kernel)) <|
  mF (sn_i2l (pc := 57) X (by decide +kernel)) <|
  mF (sn_goto (pc := 58) (off := 13) X (by decide +kernel) (by decide)) <|
  mF (sn_aload_n (pc := 61) (j := 0) X (by decide +kernel) rfl) <|
  mF (sn_getR (pc := 62) X fd_X10_29 (by decide +kernel)) <|
  mF (sn_getR (pc := 65) X fd_X10_239 (by decide +kernel)) <|
  mF (sn_iload_n (pc := 68) (j := 2) X (by decide +kernel) rfl) <|
  mF (sn_iaload (pc := 69) X (by decide +kernel)) <|
  mF (sn_i2l (pc := 70) X (by decide +kernel)) <|
  mF (sn_lret (pc := 71) X hr hk (by decide +kernel)) <|
  mF0
theorem me_X10_barAt (l : Launch) (B : mBs) : mMet l B yX10_barAt cX10_barAt 5 (some .long) 2 0 0 C_X10_barAt := mMet_of (own := RX10) (by decide) rfl (fun p e s m args below meth c Q X hr hk hn => sd_X10_barAt l B p e s m args below meth c Q X hr hk hn)
/-! PuppetStage.isKind(I)Z: 5 instructions, depth 1, makes 0 cells of 0 slots -/
def tb_X10_isKind : mTb := [(0, aLI 0 1), (1, aPI 0 2), (2, aPI 4 3), (3, aCS 3 C_X10_isWithin 6), (6, aRZ)]
theorem mt_X10_isKind : mMT tb_X10_isKind :=
  mF (mn_LI _ _) <|
  mF (mn_PI _ _) <|
  mF (mn_PI _ _) <|
  mF (mn_CS _ mc_X10_isWithin _) <|
  mF (mn_RZ) <|
  mF0
def C_X10_isKind : mCo := mRun tb_X10_isKind 1
theorem mc_X10_isKind : mMC C_X10_isKind := mRun_mn mt_X10_isKind 1
theorem yi_X10_isKind : mYin yX10_isKind cX10_isKind 1 (some .boolean) 1 := ⟨wd_49, wd_621, by decide +kernel, by decide⟩
set_option maxRecDepth 100000 in
set_option maxHeartbeats 4000000 in
theorem sd_X10_isKind (l : Launch) (B : mBs) (p : Program) (e : Env) (s : State) (m : MethodId) (args : Array Value) (below : List Frame) (meth : Method) (c : Code) (Q : mQo) (X : mCx l B RX10 cX10_isKind 1 p s m args c) (hr : meth.sig.returnType = (some .boolean)) (hk : meth.locks = false) (hn : meth.name = "isKind") : ∀ q ∈ tb_X10_isKind, mSnd l B 1 p e (mRm 1 0 0) s m args below meth c (MQ below (mPo B Q) args s 0 0 (mA B)) (fun r h' => (h'.1.2.1 ≤ 0 ∧ h'.1.2.2 ≤ 0) ∧ Q r h') q.2 q.1 :=
  mF (sn_iload_n (pc := 0) (j := 0) X (by decide +kernel) rfl) <|
  mF (sn_iconst (pc := 1) (n := 0) X (by decide +kernel) (by decide)) <|
  mF (sn_iconst (pc := 2) (n := 4) X (by decide +kernel) (by decide)) <|
  mF (sn_callS (pc := 3) X mc_X10_isWithin (me_X10_isWithin l B) yi_X10_isWithin wd_429 wd_430 (by decide) (by decide +kernel)) <|
  mF (sn_zret (pc := 6) X hr hk (by decide +kernel)) <|
  mF0
theorem me_X10_isKind (l : Launch) (B : mBs) : mMet l B yX10_isKind cX10_isKind 1 (some .boolean) 1 0 0 C_X10_isKind := mMet_of (own := RX10) (by decide) rfl (fun p e s m args below meth c Q X hr hk hn => sd_X10_isKind l B p e s m args below meth c Q X hr hk hn)
/-! PuppetStage.hold(IIIII)J: 67 instructions, depth 5, makes 0 cells of 0 slots -/
def tb_X10_hold : mTb := [(0, aLA 0 1), (1, aLI 1 2), (2, aCV 10 1 C_X10_puppetOf 5), (5, aSA 6 7), (7, aLI 2 8), (8, aPI 10 10), (10, aD (fun x y => x / y) 11), (11, aSI 7 13), (13, aLI 2 14), (14, aPI 10 16), (16, aD (fun x y => x - x / y * y) 17), (17, aSI 8 19), (19, aLA 6 21), (21, aNu 87 24), (24, aLI 2 25), (25, aIf (fun x => x < 0) 87 28), (28, aLI 7 30), (30, aCS 1 C_X10_isKind 33), (33, aIf (fun x => x = 0) 87 36), (36, aLI 8 38), (38, aCS 1 C_X10_isBar 41), (41, aIf (fun x => x = 0) 87 44), (44, aLA 6 46), (46, aGR 7 0 49), (49, aLI 3 50), (50, aCV 5 1 C_X5_has 53), (53, aIf (fun x => x = 0) 87 56), (56, aLI 4 58), (58, aPI 0 59), (59, aLA 6 61), (61, aGR 7 0 64), (64, aGR 5 0 67), (67, aLI 3 68), (68, aIA 69), (69, aCS 3 C_X10_isWithin 72), (72, aIf (fun x => x = 0) 87 75), (75, aLI 5 77), (77, aPI 0 78), (78, aPI 500 81), (81, aCS 3 C_X10_isWithin 84), (84, aIf (fun x => x = 0) 87 91), (87, aPL (-9000000000000000001) 90), (90, aRL), (91, aLA 6 93), (93, aGR 7 3 96), (96, aGI 4 6 99), (99, aPI 12 101), (101, aIc (fun x y => x < y) 108 104), (104, aPL (-9000000000000000003) 107), (107, aRL), (108, aLA 0 109), (109, aGR 10 2 112), (112, aLA 0 113), (113, aGR 10 0 116), (116, aLA 0 117), (117, aGR 10 1 120), (120, aCV 3 2 C_X3_keep 123), (123, aLA 6 125), (125, aGR 7 3 128), (128, aLI 7 130), (130, aLI 8 132), (132, aLI 3 133), (133, aLI 4 135), (135, aLI 5 137), (137, aCV 4 5 C_X4_add 140), (140, aI2L 141), (141, aRL)]
theorem mt_X10_hold : mMT tb_X10_hold :=
  mF (mn_LA _ _) <|
  mF (mn_LI _ _) <|
  mF (mn_CV _ _ mc_X10_puppetOf _) <|
  mF (mn_SA _ _) <|
  mF (mn_LI _ _) <|
  mF (mn_PI _ _) <|
  mF (mn_D _ _) <|
  mF (mn_SI _ _) <|
  mF (mn_LI _ _) <|
  mF (mn_PI _ _) <|
  mF (mn_D _ _) <|
  mF (mn_SI _ _) <|
  mF (mn_LA _ _) <|
  mF (mn_Nu _ _) <|
  mF (mn_LI _ _) <|
  mF (mn_If _ _ _) <|
  mF (mn_LI _ _) <|
  mF (mn_CS _ mc_X10_isKind _) <|
  mF (mn_If _ _ _) <|
  mF (mn_LI _ _) <|
  mF (mn_CS _ mc_X10_isBar _) <|
  mF (mn_If _ _ _) <|
  mF (mn_LA _ _) <|
  mF (mn_GR _ _ _) <|
  mF (mn_LI _ _) <|
  mF (mn_CV _ _ mc_X5_has _) <|
  mF (mn_If _ _ _) <|
  mF (mn_LI _ _) <|
  mF (mn_PI _ _) <|
  mF (mn_LA _ _) <|
  mF (mn_GR _ _ _) <|
  mF (mn_GR _ _ _) <|
  mF (mn_LI _ _) <|
  mF (mn_IA _) <|
  mF (mn_CS _ mc_X10_isWithin _) <|
  mF (mn_If _ _ _) <|
  mF (mn_LI _ _) <|
  mF (mn_PI _ _) <|
  mF (mn_PI _ _) <|
  mF (mn_CS _ mc_X10_isWithin _) <|
  mF (mn_If _ _ _) <|
  mF (mn_PL _ _) <|
  mF (mn_RL) <|
  mF (mn_LA _ _) <|
  mF (mn_GR _ _ _) <|
  mF (mn_GI _ _ _) <|
  mF (mn_PI _ _) <|
  mF (mn_Ic _ _ _) <|
  mF (mn_PL _ _) <|
  mF (mn_RL) <|
  mF (mn_LA _ _) <|
  mF (mn_GR _ _ _) <|
  mF (mn_LA _ _) <|
  mF (mn_GR _ _ _) <|
  mF (mn_LA _ _) <|
  mF (mn_GR _ _ _) <|
  mF (mn_CV _ _ mc_X3_keep _) <|
  mF (mn_LA _ _) <|
  mF (mn_GR _ _ _) <|
  mF (mn_LI _ _) <|
  mF (mn_LI _ _) <|
  mF (mn_LI _ _) <|
  mF (mn_LI _ _) <|
  mF (mn_LI _ _) <|
  mF (mn_CV _ _ mc_X4_add _) <|
  mF (mn_I2L _) <|
  mF (mn_RL) <|
  mF0
def C_X10_hold : mCo := mRun tb_X10_hold 9
theorem mc_X10_hold : mMC C_X10_hold := mRun_mn mt_X10_hold 9
theorem yi_X10_hold : mYin yX10_hold cX10_hold 9 (some .long) 5 := ⟨wd_49, wd_618, by decide +kernel, by decide⟩
set_option maxRecDepth 100000 in
set_option maxHeartbeats 4000000 in
theorem sd_X10_hold (l : Launch) (B : mBs) (p : Program) (e : Env) (s : State) (m : MethodId) (args : Array Value) (below : List Frame) (meth : Method) (c : Code) (Q : mQo) (X : mCx l B RX10 cX10_hold 9 p s m args c) (hr : meth.sig.returnType = (some .long)) (hk : meth.locks = false) (hn : meth.name = "hold") : ∀ q ∈ tb_X10_hold, mSnd l B 9 p e (mRm 5 0 0) s m args below meth c (MQ below (mPo B Q) args s 0 0 (mA B)) (fun r h' => (h'.1.2.1 ≤ 0 ∧ h'.1.2.2 ≤ 0) ∧ Q r h') q.2 q.1 :=
  mF (sn_aload_n (pc := 0) (j := 0) X (by decide +kernel) rfl) <|
  mF (sn_iload_n (pc := 1) (j := 1) X (by decide +kernel) rfl) <|
  mF (sn_callV (pc := 2) X mc_X10_puppetOf (me_X10_puppetOf l B) yi_X10_puppetOf wd_425 wd_427 wd_0 (T := TX10) (N := 11) rfl (by decide) (by decide +kernel)) <|
  mF (sn_astore (pc := 5) X (by decide +kernel) (by decide)) <|
  mF (sn_iload_n (pc := 7) (j := 2) X (by decide +kernel) rfl) <|
  mF (sn_bipush (pc := 8) (n := 10) X (by decide +kernel) (by decide)) <|
  mF (sn_idiv (pc := 10) X (by decide +kernel)) <|
  mF (sn_istore (pc := 11) X (by decide +kernel) (by decide)) <|
  mF (sn_iload_n (pc := 13) (j := 2) X (by decide +kernel) rfl) <|
  mF (sn_bipush (pc := 14) (n := 10) X (by decide +kernel) (by decide)) <|
  mF (sn_irem (pc := 16) X (by decide +kernel)) <|
  mF (sn_istore (pc := 17) X (by decide +kernel) (by decide)) <|
  mF (sn_aload (pc := 19) X (by decide +kernel)) <|
  mF (sn_ifnull (pc := 21) (off := 66) X (by decide +kernel) (by decide)) <|
  mF (sn_iload_n (pc := 24) (j := 2) X (by decide +kernel) rfl) <|
  mF (sn_if_lt (pc := 25) (off := 62) X (by decide +kernel) (by decide)) <|
  mF (sn_iload (pc := 28) X (by decide +kernel)) <|
  mF (sn_callS (pc := 30) X mc_X10_isKind (me_X10_isKind l B) yi_X10_isKind wd_619 wd_620 (by decide) (by decide +kernel)) <|
  mF (sn_if_eq (pc := 33) (off := 54) X (by decide +kernel) (by decide)) <|
  mF (sn_iload (pc := 36) X (by decide +kernel)) <|
  mF (sn_callS (pc := 38) X mc_X10_isBar (me_X10_isBar l B) yi_X10_isBar wd_559 wd_560 (by decide) (by decide +kernel)) <|
  mF (sn_if_eq (pc := 41) (off := 46) X (by decide +kernel) (by decide)) <|
  mF (sn_aload (pc := 44) X (by decide +kernel)) <|
  mF (sn_getR (pc := 46) X fd_X10_68 (by decide +kernel)) <|
  mF (sn_iload_n (pc := 49) (j := 3) X (by decide +kernel) rfl) <|
  mF (sn_callV (pc := 50) X mc_X5_has (me_X5_has l B) yi_X5_has wd_546 wd_547 wd_548 (T := TX5) (N := 7) rfl (by decide) (by decide +kernel)) <|
  mF (sn_if_eq (pc := 53) (off := 34) X (by decide +kernel) (by decide)) <|
  mF (sn_iload (pc := 56) X (by decide +kernel)) <|
  mF (sn_iconst (pc := 58) (n := 0) X (by decide +kernel) (by decide)) <|
  mF (sn_aload (pc := 59) X (by decide +kernel)) <|
  mF (sn_getR (pc := 61) X fd_X10_68 (by decide +kernel)) <|
  mF (sn_getR (pc := 64) X fd_X10_202 (by decide +kernel)) <|
  mF (sn_iload_n (pc := 67) (j := 3) X (by decide +kernel) rfl) <|
  mF (sn_iaload (pc := 68) X (by decide +kernel)) <|
  mF (sn_callS (pc := 69) X mc_X10_isWithin (me_X10_isWithin l B) yi_X10_isWithin wd_429 wd_430 (by decide) (by decide +kernel)) <|
  mF (sn_if_eq (pc := 72) (off := 15) X (by decide +kernel) (by decide)) <|
  mF (sn_iload (pc := 75) X (by decide +kernel)) <|
  mF (sn_iconst (pc := 77) (n := 0) X (by decide +kernel) (by decide)) <|
  mF (sn_sipush (pc := 78) (n := 500) X (by decide +kernel) (by decide)) <|
  mF (sn_callS (pc := 81) X mc_X10_isWithin (me_X10_isWithin l B) yi_X10_isWithin wd_429 wd_430 (by decide) (by decide +kernel)) <|
  mF (sn_if_ne (pc := 84) (off := 7) X (by decide +kernel) (by decide)) <|
  mF (sn_ldc2 (pc := 87) X (by decide +kernel) wd_432) <|
  mF (sn_lret (pc := 90) X hr hk (by decide +kernel)) <|
  mF (sn_aload (pc := 91) X (by decide +kernel)) <|
  mF (sn_getR (pc := 93) X fd_X10_115 (by decide +kernel)) <|
  mF (sn_getI (pc := 96) X fd_X10_187 (by decide +kernel)) <|
  mF (sn_bipush (pc := 99) (n := 12) X (by decide +kernel) (by decide)) <|
  mF (sn_icmp_lt (pc := 101) (off := 7) X (by decide +kernel) (by decide)) <|
  mF (sn_ldc2 (pc := 104) X (by decide +kernel) wd_450) <|
  mF (sn_lret (pc := 107) X hr hk (by decide +kernel)) <|
  mF (sn_aload_n (pc := 108) (j := 0) X (by decide +kernel) rfl) <|
  mF (sn_getR (pc := 109) X fd_X10_22 (by decide +kernel)) <|
  mF (sn_aload_n (pc := 112) (j := 0) X (by decide +kernel) rfl) <|
  mF (sn_getR (pc := 113) X fd_X10_10 (by decide +kernel)) <|
  mF (sn_aload_n (pc := 116) (j := 0) X (by decide +kernel) rfl) <|
  mF (sn_getR (pc := 117) X fd_X10_16 (by decide +kernel)) <|
  mF (sn_callV (pc := 120) X mc_X3_keep (me_X3_keep l B) yi_X3_keep wd_451 wd_452 wd_453 (T := TX3) (N := 4) rfl (by decide) (by decide +kernel)) <|
  mF (sn_aload (pc := 123) X (by decide +kernel)) <|
  mF (sn_getR (pc := 125) X fd_X10_115 (by decide +kernel)) <|
  mF (sn_iload (pc := 128) X (by decide +kernel)) <|
  mF (sn_iload (pc := 130) X (by decide +kernel)) <|
  mF (sn_iload_n (pc := 132) (j := 3) X (by decide +kernel) rfl) <|
  mF (sn_iload (pc := 133) X (by decide +kernel)) <|
  mF (sn_iload (pc := 135) X (by decide +kernel)) <|
  mF (sn_callV (pc := 137) X mc_X4_add (me_X4_add l B) yi_X4_add wd_622 wd_623 wd_624 (T := TX4) (N := 7) rfl (by decide) (by decide +kernel)) <|
  mF (sn_i2l (pc := 140) X (by decide +kernel)) <|
  mF (sn_lret (pc := 141) X hr hk (by decide +kernel)) <|
  mF0
theorem me_X10_hold (l : Launch) (B : mBs) : mMet l B yX10_hold cX10_hold 9 (some .long) 5 0 0 C_X10_hold := mMet_of (own := RX10) (by decide) rfl (fun p e s m args below meth c Q X hr hk hn => sd_X10_hold l B p e s m args below meth c Q X hr hk hn)
/-! PuppetStage.drop(II)J: 33 instructions, depth 5, makes 0 cells of 0 slots -/
def tb_X10_drop : mTb := [(0, aLA 0 1), (1, aLI 1 2), (2, aCV 10 1 C_X10_puppetOf 5), (5, aSA 3 6), (6, aLA 3 7), (7, aNu 21 10), (10, aLA 3 11), (11, aGR 7 3 14), (14, aLI 2 15), (15, aCV 4 1 C_X4_has 18), (18, aIf (fun x => x = 0) 21 25), (21, aPL (-9000000000000000001) 24), (24, aRL), (25, aLA 0 26), (26, aGR 10 2 29), (29, aLA 0 30), (30, aGR 10 0 33), (33, aLA 0 34), (34, aGR 10 1 37), (37, aCV 3 2 C_X3_keep 40), (40, aLA 3 41), (41, aGR 7 3 44), (44, aGR 4 0 47), (47, aLI 2 48), (48, aIA 49), (49, aSI 4 51), (51, aLA 3 52), (52, aGR 7 3 55), (55, aLI 2 56), (56, aCV 4 1 C_X4_remove 59), (59, aLI 4 61), (61, aI2L 62), (62, aRL)]
theorem mt_X10_drop : mMT tb_X10_drop :=
  mF (mn_LA _ _) <|
  mF (mn_LI _ _) <|
  mF (mn_CV _ _ mc_X10_puppetOf _) <|
  mF (mn_SA _ _) <|
  mF (mn_LA _ _) <|
  mF (mn_Nu _ _) <|
  mF (mn_LA _ _) <|
  mF (mn_GR _ _ _) <|
  mF (mn_LI _ _) <|
  mF (mn_CV _ _ mc_X4_has _) <|
  mF (mn_If _ _ _) <|
  mF (mn_PL _ _) <|
  mF (mn_RL) <|
  mF (mn_LA _ _) <|
  mF (mn_GR _ _ _) <|
  mF (mn_LA _ _) <|
  mF (mn_GR _ _ _) <|
  mF (mn_LA _ _) <|
  mF (mn_GR _ _ _) <|
  mF (mn_CV _ _ mc_X3_keep _) <|
  mF (mn_LA _ _) <|
  mF (mn_GR _ _ _) <|
  mF (mn_GR _ _ _) <|
  mF (mn_LI _ _) <|
  mF (mn_IA _) <|
  mF (mn_SI _ _) <|
  mF (mn_LA _ _) <|
  mF (mn_GR _ _ _) <|
  mF (mn_LI _ _) <|
  mF (mn_CV _ _ mc_X4_remove _) <|
  mF (mn_LI _ _) <|
  mF (mn_I2L _) <|
  mF (mn_RL) <|
  mF0
def C_X10_drop : mCo := mRun tb_X10_drop 5
theorem mc_X10_drop : mMC C_X10_drop := mRun_mn mt_X10_drop 5
theorem yi_X10_drop : mYin yX10_drop cX10_drop 5 (some .long) 2 := ⟨wd_49, wd_629, by decide +kernel, by decide⟩
set_option maxRecDepth 100000 in
set_option maxHeartbeats 4000000 in
theorem sd_X10_drop (l : Launch) (B : mBs) (p : Program) (e : Env) (s : State) (m : MethodId) (args : Array Value) (below : List Frame) (meth : Method) (c : Code) (Q : mQo) (X : mCx l B RX10 cX10_drop 5 p s m args c) (hr : meth.sig.returnType = (some .long)) (hk : meth.locks = false) (hn : meth.name = "drop") : ∀ q ∈ tb_X10_drop, mSnd l B 5 p e (mRm 5 0 0) s m args below meth c (MQ below (mPo B Q) args s 0 0 (mA B)) (fun r h' => (h'.1.2.1 ≤ 0 ∧ h'.1.2.2 ≤ 0) ∧ Q r h') q.2 q.1 :=
  mF (sn_aload_n (pc := 0) (j := 0) X (by decide +kernel) rfl) <|
  mF (sn_iload_n (pc := 1) (j := 1) X (by decide +kernel) rfl) <|
  mF (sn_callV (pc := 2) X mc_X10_puppetOf (me_X10_puppetOf l B) yi_X10_puppetOf wd_425 wd_427 wd_0 (T := TX10) (N := 11) rfl (by decide) (by decide +kernel)) <|
  mF (sn_astore_n (pc := 5) (j := 3) X (by decide +kernel) rfl (by decide)) <|
  mF (sn_aload_n (pc := 6) (j := 3) X (by decide +kernel) rfl) <|
  mF (sn_ifnull (pc := 7) (off := 14) X (by decide +kernel) (by decide)) <|
  mF (sn_aload_n (pc := 10) (j := 3) X (by decide +kernel) rfl) <|
  mF (sn_getR (pc := 11) X fd_X10_115 (by decide +kernel)) <|
  mF (sn_iload_n (pc := 14) (j := 2) X (by decide +kernel) rfl) <|
  mF (sn_callV (pc := 15) X mc_X4_has (me_X4_has l B) yi_X4_has wd_630 wd_631 wd_632 (T := TX4) (N := 7) rfl (by decide) (by decide +kernel)) <|
  mF (sn_if_ne (pc := 18) (off := 7) X (by decide +kernel) (by decide)) <|
  mF (sn_ldc2 (pc := 21) X (by decide +kernel) wd_432) <|
  mF (sn_lret (pc := 24) X hr hk (by decide +kernel)) <|
  mF (sn_aload_n (pc := 25) (j := 0) X (by decide +kernel) rfl) <|
  mF (sn_getR (pc := 26) X fd_X10_22 (by decide +kernel)) <|
  mF (sn_aload_n (pc := 29) (j := 0) X (by decide +kernel) rfl) <|
  mF (sn_getR (pc := 30) X fd_X10_10 (by decide +kernel)) <|
  mF (sn_aload_n (pc := 33) (j := 0) X (by decide +kernel) rfl) <|
  mF (sn_getR (pc := 34) X fd_X10_16 (by decide +kernel)) <|
  mF (sn_callV (pc := 37) X mc_X3_keep (me_X3_keep l B) yi_X3_keep wd_451 wd_452 wd_453 (T := TX3) (N := 4) rfl (by decide) (by decide +kernel)) <|
  mF (sn_aload_n (pc := 40) (j := 3) X (by decide +kernel) rfl) <|
  mF (sn_getR (pc := 41) X fd_X10_115 (by decide +kernel)) <|
  mF (sn_getR (pc := 44) X fd_X10_249 (by decide +kernel)) <|
  mF (sn_iload_n (pc := 47) (j := 2) X (by decide +kernel) rfl) <|
  mF (sn_iaload (pc := 48) X (by decide +kernel)) <|
  mF (sn_istore (pc := 49) X (by decide +kernel) (by decide)) <|
  mF (sn_aload_n (pc := 51) (j := 3) X (by decide +kernel) rfl) <|
  mF (sn_getR (pc := 52) X fd_X10_115 (by decide +kernel)) <|
  mF (sn_iload_n (pc := 55) (j := 2) X (by decide +kernel) rfl) <|
  mF (sn_callV (pc := 56) X mc_X4_remove (me_X4_remove l B) yi_X4_remove wd_634 wd_510 wd_511 (T := TX4) (N := 7) rfl (by decide) (by decide +kernel)) <|
  mF (sn_iload (pc := 59) X (by decide +kernel)) <|
  mF (sn_i2l (pc := 61) X (by decide +kernel)) <|
  mF (sn_lret (pc := 62) X hr hk (by decide +kernel)) <|
  mF0
theorem me_X10_drop (l : Launch) (B : mBs) : mMet l B yX10_drop cX10_drop 5 (some .long) 5 0 0 C_X10_drop := mMet_of (own := RX10) (by decide) rfl (fun p e s m args below meth c Q X hr hk hn => sd_X10_drop l B p e s m args below meth c Q X hr hk hn)
/-! PuppetStage.pluck(III)J: 55 instructions, depth 5, makes 0 cells of 0 slots -/
def tb_X10_pluck : mTb := [(0, aLA 0 1), (1, aLI 1 2), (2, aCV 10 1 C_X10_puppetOf 5), (5, aSA 4 7), (7, aLA 4 9), (9, aNu 24 12), (12, aLA 4 14), (14, aGR 7 3 17), (17, aLI 2 18), (18, aCV 4 1 C_X4_has 21), (21, aIf (fun x => x = 0) 24 28), (24, aPL (-9000000000000000001) 27), (27, aRL), (28, aLA 4 30), (30, aGR 7 3 33), (33, aGR 4 0 36), (36, aLI 2 37), (37, aIA 38), (38, aPI 2 39), (39, aIc (fun x y => x = y) 46 42), (42, aPL (-9000000000000000002) 45), (45, aRL), (46, aLI 3 47), (47, aPI 0 48), (48, aLA 4 50), (50, aGR 7 3 53), (53, aGR 4 4 56), (56, aLI 2 57), (57, aIA 58), (58, aCS 3 C_X10_isWithin 61), (61, aIf (fun x => x = 0) 64 68), (64, aPL (-9000000000000000001) 67), (67, aRL), (68, aLA 0 69), (69, aGR 10 2 72), (72, aLA 0 73), (73, aGR 10 0 76), (76, aLA 0 77), (77, aGR 10 1 80), (80, aCV 3 2 C_X3_keep 83), (83, aLA 4 85), (85, aGR 7 3 88), (88, aGR 4 5 91), (91, aLI 2 92), (92, aIA 93), (93, aSI 5 95), (95, aLA 4 97), (97, aGR 7 3 100), (100, aGR 4 5 103), (103, aLI 2 104), (104, aLI 3 105), (105, aIS 106), (106, aLI 5 108), (108, aI2L 109), (109, aRL)]
theorem mt_X10_pluck : mMT tb_X10_pluck :=
  mF (mn_LA _ _) <|
  mF (mn_LI _ _) <|
  mF (mn_CV _ _ mc_X10_puppetOf _) <|
  mF (mn_SA _ _) <|
  mF (mn_LA _ _) <|
  mF (mn_Nu _ _) <|
  mF (mn_LA _ _) <|
  mF (mn_GR _ _ _) <|
  mF (mn_LI _ _) <|
  mF (mn_CV _ _ mc_X4_has _) <|
  mF (mn_If _ _ _) <|
  mF (mn_PL _ _) <|
  mF (mn_RL) <|
  mF (mn_LA _ _) <|
  mF (mn_GR _ _ _) <|
  mF (mn_GR _ _ _) <|
  mF (mn_LI _ _) <|
  mF (mn_IA _) <|
  mF (mn_PI _ _) <|
  mF (mn_Ic _ _ _) <|
  mF (mn_PL _ _) <|
  mF (mn_RL) <|
  mF (mn_LI _ _) <|
  mF (mn_PI _ _) <|
  mF (mn_LA _ _) <|
  mF (mn_GR _ _ _) <|
  mF (mn_GR _ _ _) <|
  mF (mn_LI _ _) <|
  mF (mn_IA _) <|
  mF (mn_CS _ mc_X10_isWithin _) <|
  mF (mn_If _ _ _) <|
  mF (mn_PL _ _) <|
  mF (mn_RL) <|
  mF (mn_LA _ _) <|
  mF (mn_GR _ _ _) <|
  mF (mn_LA _ _) <|
  mF (mn_GR _ _ _) <|
  mF (mn_LA _ _) <|
  mF (mn_GR _ _ _) <|
  mF (mn_CV _ _ mc_X3_keep _) <|
  mF (mn_LA _ _) <|
  mF (mn_GR _ _ _) <|
  mF (mn_GR _ _ _) <|
  mF (mn_LI _ _) <|
  mF (mn_IA _) <|
  mF (mn_SI _ _) <|
  mF (mn_LA _ _) <|
  mF (mn_GR _ _ _) <|
  mF (mn_GR _ _ _) <|
  mF (mn_LI _ _) <|
  mF (mn_LI _ _) <|
  mF (mn_IS _) <|
  mF (mn_LI _ _) <|
  mF (mn_I2L _) <|
  mF (mn_RL) <|
  mF0
def C_X10_pluck : mCo := mRun tb_X10_pluck 6
theorem mc_X10_pluck : mMC C_X10_pluck := mRun_mn mt_X10_pluck 6
theorem yi_X10_pluck : mYin yX10_pluck cX10_pluck 6 (some .long) 3 := ⟨wd_49, wd_638, by decide +kernel, by decide⟩
set_option maxRecDepth 100000 in
set_option maxHeartbeats 4000000 in
theorem sd_X10_pluck (l : Launch) (B : mBs) (p : Program) (e : Env) (s : State) (m : MethodId) (args : Array Value) (below : List Frame) (meth : Method) (c : Code) (Q : mQo) (X : mCx l B RX10 cX10_pluck 6 p s m args c) (hr : meth.sig.returnType = (some .long)) (hk : meth.locks = false) (hn : meth.name = "pluck") : ∀ q ∈ tb_X10_pluck, mSnd l B 6 p e (mRm 5 0 0) s m args below meth c (MQ below (mPo B Q) args s 0 0 (mA B)) (fun r h' => (h'.1.2.1 ≤ 0 ∧ h'.1.2.2 ≤ 0) ∧ Q r h') q.2 q.1 :=
  mF (sn_aload_n (pc := 0) (j := 0) X (by decide +kernel) rfl) <|
  mF (sn_iload_n (pc := 1) (j := 1) X (by decide +kernel) rfl) <|
  mF (sn_callV (pc := 2) X mc_X10_puppetOf (me_X10_puppetOf l B) yi_X10_puppetOf wd_425 wd_427 wd_0 (T := TX10) (N := 11) rfl (by decide) (by decide +kernel)) <|
  mF (sn_astore (pc := 5) X (by decide +kernel) (by decide)) <|
  mF (sn_aload (pc := 7) X (by decide +kernel)) <|
  mF (sn_ifnull (pc := 9) (off := 15) X (by decide +kernel) (by decide)) <|
  mF (sn_aload (pc := 12) X (by decide +kernel)) <|
  mF (sn_getR (pc := 14) X fd_X10_115 (by decide +kernel)) <|
  mF (sn_iload_n (pc := 17) (j := 2) X (by decide +kernel) rfl) <|
  mF (sn_callV (pc := 18) X mc_X4_has (me_X4_has l B) yi_X4_has wd_630 wd_631 wd_632 (T := TX4) (N := 7) rfl (by decide) (by decide +kernel)) <|
  mF (sn_if_ne (pc := 21) (off := 7) X (by decide +kernel) (by decide)) <|
  mF (sn_ldc2 (pc := 24) X (by decide +kernel) wd_432) <|
  mF (sn_lret (pc := 27) X hr hk (by decide +kernel)) <|
  mF (sn_aload (pc := 28) X (by decide +kernel)) <|
  mF (sn_getR (pc := 30) X fd_X10_115 (by decide +kernel)) <|
  mF (sn_getR (pc := 33) X fd_X10_249 (by decide +kernel)) <|
  mF (sn_iload_n (pc := 36) (j := 2) X (by decide +kernel) rfl) <|
  mF (sn_iaload (pc := 37) X (by decide +kernel)) <|
  mF (sn_iconst (pc := 38) (n := 2) X (by decide +kernel) (by decide)) <|
  mF (sn_icmp_eq (pc := 39) (off := 7) X (by decide +kernel) (by decide)) <|
  mF (sn_ldc2 (pc := 42) X (by decide +kernel) wd_449) <|
  mF (sn_lret (pc := 45) X hr hk (by decide +kernel)) <|
  mF (sn_iload_n (pc := 46) (j := 3) X (by decide +kernel) rfl) <|
  mF (sn_iconst (pc := 47) (n := 0) X (by decide +kernel) (by decide)) <|
  mF (sn_aload (pc := 48) X (by decide +kernel)) <|
  mF (sn_getR (pc := 50) X fd_X10_115 (by decide +kernel)) <|
  mF (sn_getR (pc := 53) X fd_X10_255 (by decide +kernel)) <|
  mF (sn_iload_n (pc := 56) (j := 2) X (by decide +kernel) rfl) <|
  mF (sn_iaload (pc := 57) X (by decide +kernel)) <|
  mF (sn_callS (pc := 58) X mc_X10_isWithin (me_X10_isWithin l B) yi_X10_isWithin wd_429 wd_430 (by decide) (by decide +kernel)) <|
  mF (sn_if_ne (pc := 61) (off := 7) X (by decide +kernel) (by decide)) <|
  mF (sn_ldc2 (pc := 64) X (by decide +kernel) wd_432) <|
  mF (sn_lret (pc := 67) X hr hk (by decide +kernel)) <|
  mF (sn_aload_n (pc := 68) (j := 0) X (by decide +kernel) rfl) <|
  mF (sn_getR (pc := 69) X fd_X10_22 (by decide +kernel)) <|
  mF (sn_aload_n (pc := 72) (j := 0) X (by decide +kernel) rfl) <|
  mF (sn_getR (pc := 73) X fd_X10_10 (by decide +kernel)) <|
  mF (sn_aload_n (pc := 76) (j := 0) X (by decide +kernel) rfl) <|
  mF (sn_getR (pc := 77) X fd_X10_16 (by decide +kernel)) <|
  mF (sn_callV (pc := 80) X mc_X3_keep (me_X3_keep l B) yi_X3_keep wd_451 wd_452 wd_453 (T := TX3) (N := 4) rfl (by decide) (by decide +kernel)) <|
  mF (sn_aload (pc := 83) X (by decide +kernel)) <|
  mF (sn_getR (pc := 85) X fd_X10_115 (by decide +kernel)) <|
  mF (sn_getR (pc := 88) X fd_X10_256 (by decide +kernel)) <|
  mF (sn_iload_n (pc := 91) (j := 2) X (by decide +kernel) rfl) <|
  mF (sn_iaload (pc := 92) X (by decide +kernel)) <|
  mF (sn_istore (pc := 93) X (by decide +kernel) (by decide)) <|
  mF (sn_aload (pc := 95) X (by decide +kernel)) <|
  mF (sn_getR (pc := 97) X fd_X10_115 (by decide +kernel)) <|
  mF (sn_getR (pc := 100) X fd_X10_256 (by decide +kernel)) <|
  mF (sn_iload_n (pc := 103) (j := 2) X (by decide +kernel) rfl) <|
  mF (sn_iload_n (pc := 104) (j := 3) X (by decide +kernel) rfl) <|
  mF (sn_iastore (pc := 105) X (by decide +kernel)) <|
  mF (sn_iload (pc := 106) X (by decide +kernel)) <|
  mF (sn_i2l (pc := 108) X (by decide +kernel)) <|
  mF (sn_lret (pc := 109) X hr hk (by decide +kernel)) <|
  mF0
theorem me_X10_pluck (l : Launch) (B : mBs) : mMet l B yX10_pluck cX10_pluck 6 (some .long) 5 0 0 C_X10_pluck := mMet_of (own := RX10) (by decide) rfl (fun p e s m args below meth c Q X hr hk hn => sd_X10_pluck l B p e s m args below meth c Q X hr hk hn)
/-! PuppetStage.holds(III)J: 90 instructions, depth 3, makes 0 cells of 0 slots -/
def tb_X10_holds_c0 : mTb := [(0, aLA 0 1), (1, aLI 1 2), (2, aCV 10 1 C_X10_puppetOf 5), (5, aSA 4 7), (7, aLA 4 9), (9, aNu 24 12), (12, aLA 4 14), (14, aGR 7 3 17), (17, aLI 2 18), (18, aCV 4 1 C_X4_has 21), (21, aIf (fun x => x = 0) 24 28), (24, aPL (-9000000000000000001) 27), (27, aRL), (28, aLA 0 29), (29, aGR 10 3 32), (32, aLA 4 34), (34, aCV 1 1 C_X1_lay 37), (37, aLA 0 38), (38, aGR 10 3 41), (41, aLA 4 43), (43, aGR 7 3 46), (46, aLI 2 47), (47, aCV 1 2 C_X1_far 50), (50, aSL 5 52), (52, aLI 3 53), (53, aTs [(0, 104), (1, 116), (2, 128), (3, 140), (4, 152), (5, 164), (6, 176), (7, 179), (8, 195)] 215), (104, aLA 4 106), (106, aGR 7 3 109), (109, aGR 4 0 112), (112, aLI 2 113), (113, aIA 114), (114, aI2L 115), (115, aRL), (116, aLA 4 118), (118, aGR 7 3 121), (121, aGR 4 2 124), (124, aLI 2 125), (125, aIA 126), (126, aI2L 127), (127, aRL), (128, aLA 4 130), (130, aGR 7 3 133), (133, aGR 4 3 136), (136, aLI 2 137), (137, aIA 138), (138, aI2L 139), (139, aRL), (140, aLA 4 142), (142, aGR 7 3 145), (145, aGR 4 1 148), (148, aLI 2 149), (149, aIA 150), (150, aI2L 151), (151, aRL), (152, aLA 4 154), (154, aGR 7 3 157), (157, aGR 4 4 160), (160, aLI 2 161), (161, aIA 162), (162, aI2L 163), (163, aRL), (164, aLA 4 166), (166, aGR 7 3 169), (169, aGR 4 5 172), (172, aLI 2 173), (173, aIA 174), (174, aI2L 175), (175, aRL), (176, aLL 5 178), (178, aRL)]
theorem mt_X10_holds_c0 : mMT tb_X10_holds_c0 :=
  mF (mn_LA _ _) <|
  mF (mn_LI _ _) <|
  mF (mn_CV _ _ mc_X10_puppetOf _) <|
  mF (mn_SA _ _) <|
  mF (mn_LA _ _) <|
  mF (mn_Nu _ _) <|
  mF (mn_LA _ _) <|
  mF (mn_GR _ _ _) <|
  mF (mn_LI _ _) <|
  mF (mn_CV _ _ mc_X4_has _) <|
  mF (mn_If _ _ _) <|
  mF (mn_PL _ _) <|
  mF (mn_RL) <|
  mF (mn_LA _ _) <|
  mF (mn_GR _ _ _) <|
  mF (mn_LA _ _) <|
  mF (mn_CV _ _ mc_X1_lay _) <|
  mF (mn_LA _ _) <|
  mF (mn_GR _ _ _) <|
  mF (mn_LA _ _) <|
  mF (mn_GR _ _ _) <|
  mF (mn_LI _ _) <|
  mF (mn_CV _ _ mc_X1_far _) <|
  mF (mn_SL _ _) <|
  mF (mn_LI _ _) <|
  mF (mn_Ts _ _) <|
  mF (mn_LA _ _) <|
  mF (mn_GR _ _ _) <|
  mF (mn_GR _ _ _) <|
  mF (mn_LI _ _) <|
  mF (mn_IA _) <|
  mF (mn_I2L _) <|
  mF (mn_RL) <|
  mF (mn_LA _ _) <|
  mF (mn_GR _ _ _) <|
  mF (mn_GR _ _ _) <|
  mF (mn_LI _ _) <|
  mF (mn_IA _) <|
  mF (mn_I2L _) <|
  mF (mn_RL) <|
  mF (mn_LA _ _) <|
  mF (mn_GR _ _ _) <|
  mF (mn_GR _ _ _) <|
  mF (mn_LI _ _) <|
  mF (mn_IA _) <|
  mF (mn_I2L _) <|
  mF (mn_RL) <|
  mF (mn_LA _ _) <|
  mF (mn_GR _ _ _) <|
  mF (mn_GR _ _ _) <|
  mF (mn_LI _ _) <|
  mF (mn_IA _) <|
  mF (mn_I2L _) <|
  mF (mn_RL) <|
  mF (mn_LA _ _) <|
  mF (mn_GR _ _ _) <|
  mF (mn_GR _ _ _) <|
  mF (mn_LI _ _) <|
  mF (mn_IA _) <|
  mF (mn_I2L _) <|
  mF (mn_RL) <|
  mF (mn_LA _ _) <|
  mF (mn_GR _ _ _) <|
  mF (mn_GR _ _ _) <|
  mF (mn_LI _ _) <|
  mF (mn_IA _) <|
  mF (mn_I2L _) <|
  mF (mn_RL) <|
  mF (mn_LL _ _) <|
  mF (mn_RL) <|
  mF0
def tb_X10_holds_c1 : mTb := [(179, aLA 0 180), (180, aGR 10 3 183), (183, aLA 4 185), (185, aGR 7 3 188), (188, aLI 2 189), (189, aLL 5 191), (191, aCV 1 3 C_X1_tooLong 194), (194, aRL), (195, aLA 4 197), (197, aGR 7 3 200), (200, aLI 2 201), (201, aLL 5 203), (203, aCV 4 2 C_X4_isTaut 206), (206, aIf (fun x => x = 0) 213 209), (209, aPL 1 210), (210, aGo 214), (213, aPL 0 214), (214, aRL), (215, aPL (-9000000000000000001) 218), (218, aRL)]
theorem mt_X10_holds_c1 : mMT tb_X10_holds_c1 :=
  mF (mn_LA _ _) <|
  mF (mn_GR _ _ _) <|
  mF (mn_LA _ _) <|
  mF (mn_GR _ _ _) <|
  mF (mn_LI _ _) <|
  mF (mn_LL _ _) <|
  mF (mn_CV _ _ mc_X1_tooLong _) <|
  mF (mn_RL) <|
  mF (mn_LA _ _) <|
  mF (mn_GR _ _ _) <|
  mF (mn_LI _ _) <|
  mF (mn_LL _ _) <|
  mF (mn_CV _ _ mc_X4_isTaut _) <|
  mF (mn_If _ _ _) <|
  mF (mn_PL _ _) <|
  mF (mn_Go _) <|
  mF (mn_PL _ _) <|
  mF (mn_RL) <|
  mF (mn_PL _ _) <|
  mF (mn_RL) <|
  mF0
def tb_X10_holds : mTb := tb_X10_holds_c0 ++ (tb_X10_holds_c1)
theorem mt_X10_holds : mMT tb_X10_holds := mFA mt_X10_holds_c0 mt_X10_holds_c1
def C_X10_holds : mCo := mRun tb_X10_holds 7
theorem mc_X10_holds : mMC C_X10_holds := mRun_mn mt_X10_holds 7
theorem yi_X10_holds : mYin yX10_holds cX10_holds 7 (some .long) 3 := ⟨wd_49, wd_642, by decide +kernel, by decide⟩
set_option maxRecDepth 100000 in
set_option maxHeartbeats 4000000 in
theorem sd_X10_holds_c0 (l : Launch) (B : mBs) (p : Program) (e : Env) (s : State) (m : MethodId) (args : Array Value) (below : List Frame) (meth : Method) (c : Code) (Q : mQo) (X : mCx l B RX10 cX10_holds 7 p s m args c) (hr : meth.sig.returnType = (some .long)) (hk : meth.locks = false) (hn : meth.name = "holds") : ∀ q ∈ tb_X10_holds_c0, mSnd l B 7 p e (mRm 3 0 0) s m args below meth c (MQ below (mPo B Q) args s 0 0 (mA B)) (fun r h' => (h'.1.2.1 ≤ 0 ∧ h'.1.2.2 ≤ 0) ∧ Q r h') q.2 q.1 :=
  mF (sn_aload_n (pc := 0) (j := 0) X (by decide +kernel) rfl) <|
  mF (sn_iload_n (pc := 1) (j := 1) X (by decide +kernel) rfl) <|
  mF (sn_callV (pc := 2) X mc_X10_puppetOf (me_X10_puppetOf l B) yi_X10_puppetOf wd_425 wd_427 wd_0 (T := TX10) (N := 11) rfl (by decide) (by decide +kernel)) <|
  mF (sn_astore (pc := 5) X (by decide +kernel) (by decide)) <|
  mF (sn_aload (pc := 7) X (by decide +kernel)) <|
  mF (sn_ifnull (pc := 9) (off := 15) X (by decide +kernel) (by decide)) <|
  mF (sn_aload (pc := 12) X (by decide +kernel)) <|
  mF (sn_getR (pc := 14) X fd_X10_115 (by decide +kernel)) <|
  mF (sn_iload_n (pc := 17) (j := 2) X (by decide +kernel) rfl) <|
  mF (sn_callV (pc := 18) X mc_X4_has (me_X4_has l B) yi_X4_has wd_630 wd_631 wd_632 (T := TX4) (N := 7) rfl (by decide) (by decide +kernel)) <|
  mF (sn_if_ne (pc := 21) (off := 7) X (by decide +kernel) (by decide)) <|
  mF (sn_ldc2 (pc := 24) X (by decide +kernel) wd_432) <|
  mF (sn_lret (pc := 27) X hr hk (by decide +kernel)) <|
  mF (sn_aload_n (pc := 28) (j := 0) X (by decide +kernel) rfl) <|
  mF (sn_getR (pc := 29) X fd_X10_29 (by decide +kernel)) <|
  mF (sn_aload (pc := 32) X (by decide +kernel)) <|
  mF (sn_callV (pc := 34) X mc_X1_lay (me_X1_lay l B) yi_X1_lay wd_643 wd_644 wd_645 (T := TX1) (N := 11) rfl (by decide) (by decide +kernel)) <|
  mF (sn_aload_n (pc := 37) (j := 0) X (by decide +kernel) rfl) <|
  mF (sn_getR (pc := 38) X fd_X10_29 (by decide +kernel)) <|
  mF (sn_aload (pc := 41) X (by decide +kernel)) <|
  mF (sn_getR (pc := 43) X fd_X10_115 (by decide +kernel)) <|
  mF (sn_iload_n (pc := 46) (j := 2) X (by decide +kernel) rfl) <|
  mF (sn_callV (pc := 47) X mc_X1_far (me_X1_far l B) yi_X1_far wd_649 wd_650 wd_651 (T := TX1) (N := 11) rfl (by decide) (by decide +kernel)) <|
  mF (sn_lstore (pc := 50) X (by decide +kernel) (by decide)) <|
  mF (sn_iload_n (pc := 52) (j := 3) X (by decide +kernel) rfl) <|
  mF (sn_ts (pc := 53) (dflt := 162) (lo := 0) (hi := 8) (offs := #[51, 63, 75, 87, 99, 111, 123, 126, 142]) (len := 51) X (by decide +kernel) ⟨by decide, by decide, by decide⟩) <|
  mF (sn_aload (pc := 104) X (by decide +kernel)) <|
  mF (sn_getR (pc := 106) X fd_X10_115 (by decide +kernel)) <|
  mF (sn_getR (pc := 109) X fd_X10_249 (by decide +kernel)) <|
  mF (sn_iload_n (pc := 112) (j := 2) X (by decide +kernel) rfl) <|
  mF (sn_iaload (pc := 113) X (by decide +kernel)) <|
  mF (sn_i2l (pc := 114) X (by decide +kernel)) <|
  mF (sn_lret (pc := 115) X hr hk (by decide +kernel)) <|
  mF (sn_aload (pc := 116) X (by decide +kernel)) <|
  mF (sn_getR (pc := 118) X fd_X10_115 (by decide +kernel)) <|
  mF (sn_getR (pc := 121) X fd_X10_267 (by decide +kernel)) <|
  mF (sn_iload_n (pc := 124) (j := 2) X (by decide +kernel) rfl) <|
  mF (sn_iaload (pc := 125) X (by decide +kernel)) <|
  mF (sn_i2l (pc := 126) X (by decide +kernel)) <|
  mF (sn_lret (pc := 127) X hr hk (by decide +kernel)) <|
  mF (sn_aload (pc := 128) X (by decide +kernel)) <|
  mF (sn_getR (pc := 130) X fd_X10_115 (by decide +kernel)) <|
  mF (sn_getR (pc := 133) X fd_X10_270 (by decide +kernel)) <|
  mF (sn_iload_n (pc := 136) (j := 2) X (by decide +kernel) rfl) <|
  mF (sn_iaload (pc := 137) X (by decide +kernel)) <|
  mF (sn_i2l (pc := 138) X (by decide +kernel)) <|
  mF (sn_lret (pc := 139) X hr hk (by decide +kernel)) <|
  mF (sn_aload (pc := 140) X (by decide +kernel)) <|
  mF (sn_getR (pc := 142) X fd_X10_115 (by decide +kernel)) <|
  mF (sn_getR (pc := 145) X fd_X10_273 (by decide +kernel)) <|
  mF (sn_iload_n (pc := 148) (j := 2) X (by decide +kernel) rfl) <|
  mF (sn_iaload (pc := 149) X (by decide +kernel)) <|
  mF (sn_i2l (pc := 150) X (by decide +kernel)) <|
  mF (sn_lret (pc := 151) X hr hk (by decide +kernel)) <|
  mF (sn_aload (pc := 152) X (by decide +kernel)) <|
  mF (sn_getR (pc := 154) X fd_X10_115 (by decide +kernel)) <|
  mF (sn_getR (pc := 157) X fd_X10_255 (by decide +kernel)) <|
  mF (sn_iload_n (pc := 160) (j := 2) X (by decide +kernel) rfl) <|
  mF (sn_iaload (pc := 161) X (by decide +kernel)) <|
  mF (sn_i2l (pc := 162) X (by decide +kernel)) <|
  mF (sn_lret (pc := 163) X hr hk (by decide +kernel)) <|
  mF (sn_aload (pc := 164) X (by decide +kernel)) <|
  mF (sn_getR (pc := 166) X fd_X10_115 (by decide +kernel)) <|
  mF (sn_getR (pc := 169) X fd_X10_256 (by decide +kernel)) <|
  mF (sn_iload_n (pc := 172) (j := 2) X (by decide +kernel) rfl) <|
  mF (sn_iaload (pc := 173) X (by decide +kernel)) <|
  mF (sn_i2l (pc := 174) X (by decide +kernel)) <|
  mF (sn_lret (pc := 175) X hr hk (by decide +kernel)) <|
  mF (sn_lload (pc := 176) X (by decide +kernel)) <|
  mF (sn_lret (pc := 178) X hr hk (by decide +kernel)) <|
  mF0
set_option maxRecDepth 100000 in
set_option maxHeartbeats 4000000 in
theorem sd_X10_holds_c1 (l : Launch) (B : mBs) (p : Program) (e : Env) (s : State) (m : MethodId) (args : Array Value) (below : List Frame) (meth : Method) (c : Code) (Q : mQo) (X : mCx l B RX10 cX10_holds 7 p s m args c) (hr : meth.sig.returnType = (some .long)) (hk : meth.locks = false) (hn : meth.name = "holds") : ∀ q ∈ tb_X10_holds_c1, mSnd l B 7 p e (mRm 3 0 0) s m args below meth c (MQ below (mPo B Q) args s 0 0 (mA B)) (fun r h' => (h'.1.2.1 ≤ 0 ∧ h'.1.2.2 ≤ 0) ∧ Q r h') q.2 q.1 :=
  mF (sn_aload_n (pc := 179) (j := 0) X (by decide +kernel) rfl) <|
  mF (sn_getR (pc := 180) X fd_X10_29 (by decide +kernel)) <|
  mF (sn_aload (pc := 183) X (by decide +kernel)) <|
  mF (sn_getR (pc := 185) X fd_X10_115 (by decide +kernel)) <|
  mF (sn_iload_n (pc := 188) (j := 2) X (by decide +kernel) rfl) <|
  mF (sn_lload (pc := 189) X (by decide +kernel)) <|
  mF (sn_callV (pc := 191) X mc_X1_tooLong (me_X1_tooLong l B) yi_X1_tooLong wd_669 wd_670 wd_671 (T := TX1) (N := 11) rfl (by decide) (by decide +kernel)) <|
  mF (sn_lret (pc := 194) X hr hk (by decide +kernel)) <|
  mF (sn_aload (pc := 195) X (by decide +kernel)) <|
  mF (sn_getR (pc := 197) X fd_X10_115 (by decide +kernel)) <|
  mF (sn_iload_n (pc := 200) (j := 2) X (by decide +kernel) rfl) <|
  mF (sn_lload (pc := 201) X (by decide +kernel)) <|
  mF (sn_callV (pc := 203) X mc_X4_isTaut (me_X4_isTaut l B) yi_X4_isTaut wd_680 wd_681 wd_682 (T := TX4) (N := 7) rfl (by decide) (by decide +kernel)) <|
  mF (sn_if_eq (pc := 206) (off := 7) X (by decide +kernel) (by decide)) <|
  mF (sn_lconst (pc := 209) (n := 1) X (by decide +kernel) (by decide)) <|
  mF (sn_goto (pc := 210) (off := 4) X (by decide +kernel) (by decide)) <|
  mF (sn_lconst (pc := 213) (n := 0) X (by decide +kernel) (by decide)) <|
  mF (sn_lret (pc := 214) X hr hk (by decide +kernel)) <|
  mF (sn_ldc2 (pc := 215) X (by decide +kernel) wd_432) <|
  mF (sn_lret (pc := 218) X hr hk (by decide +kernel)) <|
  mF0
theorem sd_X10_holds (l : Launch) (B : mBs) (p : Program) (e : Env) (s : State) (m : MethodId) (args : Array Value) (below : List Frame) (meth : Method) (c : Code) (Q : mQo) (X : mCx l B RX10 cX10_holds 7 p s m args c) (hr : meth.sig.returnType = (some .long)) (hk : meth.locks = false) (hn : meth.name = "holds") : ∀ q ∈ tb_X10_holds, mSnd l B 7 p e (mRm 3 0 0) s m args below meth c (MQ below (mPo B Q) args s 0 0 (mA B)) (fun r h' => (h'.1.2.1 ≤ 0 ∧ h'.1.2.2 ≤ 0) ∧ Q r h') q.2 q.1 := mFA (sd_X10_holds_c0 l B p e s m args below meth c Q X hr hk hn) (sd_X10_holds_c1 l B p e s m args below meth c Q X hr hk hn)
theorem me_X10_holds (l : Launch) (B : mBs) : mMet l B yX10_holds cX10_holds 7 (some .long) 3 0 0 C_X10_holds := mMet_of (own := RX10) (by decide) rfl (fun p e s m args below meth c Q X hr hk hn => sd_X10_holds l B p e s m args below meth c Q X hr hk hn)
/-! PuppetStage.isOf(III)J: 40 instructions, depth 2, makes 0 cells of 0 slots -/
def tb_X10_isOf : mTb := [(0, aLA 0 1), (1, aLI 1 2), (2, aCV 10 1 C_X10_puppetOf 5), (5, aSA 4 7), (7, aLA 4 9), (9, aNu 31 12), (12, aLA 4 14), (14, aGR 7 3 17), (17, aLI 2 18), (18, aCV 4 1 C_X4_has 21), (21, aIf (fun x => x = 0) 31 24), (24, aLI 3 25), (25, aCS 1 C_X10_isKind 28), (28, aIf (fun x => x = 0) 31 35), (31, aPL (-9000000000000000001) 34), (34, aRL), (35, aLA 4 37), (37, aGR 7 3 40), (40, aGR 4 0 43), (43, aLI 2 44), (44, aIA 45), (45, aSI 5 47), (47, aLI 3 48), (48, aIf (fun x => x = 0) 51 61), (51, aLI 5 53), (53, aPI 4 54), (54, aIc (fun x y => x = y) 61 57), (57, aPI 1 58), (58, aGo 62), (61, aPI 0 62), (62, aSI 6 64), (64, aLI 5 66), (66, aLI 3 67), (67, aIc (fun x y => x = y) 75 70), (70, aLI 6 72), (72, aIf (fun x => x = 0) 79 75), (75, aPL 1 76), (76, aGo 80), (79, aPL 0 80), (80, aRL)]
theorem mt_X10_isOf : mMT tb_X10_isOf :=
  mF (mn_LA _ _) <|
  mF (mn_LI _ _) <|
  mF (mn_CV _ _ mc_X10_puppetOf _) <|
  mF (mn_SA _ _) <|
  mF (mn_LA _ _) <|
  mF (mn_Nu _ _) <|
  mF (mn_LA _ _) <|
  mF (mn_GR _ _ _) <|
  mF (mn_LI _ _) <|
  mF (mn_CV _ _ mc_X4_has _) <|
  mF (mn_If _ _ _) <|
  mF (mn_LI _ _) <|
  mF (mn_CS _ mc_X10_isKind _) <|
  mF (mn_If _ _ _) <|
  mF (mn_PL _ _) <|
  mF (mn_RL) <|
  mF (mn_LA _ _) <|
  mF (mn_GR _ _ _) <|
  mF (mn_GR _ _ _) <|
  mF (mn_LI _ _) <|
  mF (mn_IA _) <|
  mF (mn_SI _ _) <|
  mF (mn_LI _ _) <|
  mF (mn_If _ _ _) <|
  mF (mn_LI _ _) <|
  mF (mn_PI _ _) <|
  mF (mn_Ic _ _ _) <|
  mF (mn_PI _ _) <|
  mF (mn_Go _) <|
  mF (mn_PI _ _) <|
  mF (mn_SI _ _) <|
  mF (mn_LI _ _) <|
  mF (mn_LI _ _) <|
  mF (mn_Ic _ _ _) <|
  mF (mn_LI _ _) <|
  mF (mn_If _ _ _) <|
  mF (mn_PL _ _) <|
  mF (mn_Go _) <|
  mF (mn_PL _ _) <|
  mF (mn_RL) <|
  mF0
def C_X10_isOf : mCo := mRun tb_X10_isOf 7
theorem mc_X10_isOf : mMC C_X10_isOf := mRun_mn mt_X10_isOf 7
theorem yi_X10_isOf : mYin yX10_isOf cX10_isOf 7 (some .long) 3 := ⟨wd_49, wd_688, by decide +kernel, by decide⟩
set_option maxRecDepth 100000 in
set_option maxHeartbeats 4000000 in
theorem sd_X10_isOf (l : Launch) (B : mBs) (p : Program) (e : Env) (s : State) (m : MethodId) (args : Array Value) (below : List Frame) (meth : Method) (c : Code) (Q : mQo) (X : mCx l B RX10 cX10_isOf 7 p s m args c) (hr : meth.sig.returnType = (some .long)) (hk : meth.locks = false) (hn : meth.name = "isOf") : ∀ q ∈ tb_X10_isOf, mSnd l B 7 p e (mRm 2 0 0) s m args below meth c (MQ below (mPo B Q) args s 0 0 (mA B)) (fun r h' => (h'.1.2.1 ≤ 0 ∧ h'.1.2.2 ≤ 0) ∧ Q r h') q.2 q.1 :=
  mF (sn_aload_n (pc := 0) (j := 0) X (by decide +kernel) rfl) <|
  mF (sn_iload_n (pc := 1) (j := 1) X (by decide +kernel) rfl) <|
  mF (sn_callV (pc := 2) X mc_X10_puppetOf (me_X10_puppetOf l B) yi_X10_puppetOf wd_425 wd_427 wd_0 (T := TX10) (N := 11) rfl (by decide) (by decide +kernel)) <|
  mF (sn_astore (pc := 5) X (by decide +kernel) (by decide)) <|
  mF (sn_aload (pc := 7) X (by decide +kernel)) <|
  mF (sn_ifnull (pc := 9) (off := 22) X (by decide +kernel) (by decide)) <|
  mF (sn_aload (pc := 12) X (by decide +kernel)) <|
  mF (sn_getR (pc := 14) X fd_X10_115 (by decide +kernel)) <|
  mF (sn_iload_n (pc := 17) (j := 2) X (by decide +kernel) rfl) <|
  mF (sn_callV (pc := 18) X mc_X4_has (me_X4_has l B) yi_X4_has wd_630 wd_631 wd_632 (T := TX4) (N := 7) rfl (by decide) (by decide +kernel)) <|
  mF (sn_if_eq (pc := 21) (off := 10) X (by decide +kernel) (by decide)) <|
  mF (sn_iload_n (pc := 24) (j := 3) X (by decide +kernel) rfl) <|
  mF (sn_callS (pc := 25) X mc_X10_isKind (me_X10_isKind l B) yi_X10_isKind wd_619 wd_620 (by decide) (by decide +kernel)) <|
  mF (sn_if_ne (pc := 28) (off := 7) X (by decide +kernel) (by decide)) <|
  mF (sn_ldc2 (pc := 31) X (by decide +kernel) wd_432) <|
  mF (sn_lret (pc := 34) X hr hk (by decide +kernel)) <|
  mF (sn_aload (pc := 35) X (by decide +kernel)) <|
  mF (sn_getR (pc := 37) X fd_X10_115 (by decide +kernel)) <|
  mF (sn_getR (pc := 40) X fd_X10_249 (by decide +kernel)) <|
  mF (sn_iload_n (pc := 43) (j := 2) X (by decide +kernel) rfl) <|
  mF (sn_iaload (pc := 44) X (by decide +kernel)) <|
  mF (sn_istore (pc := 45) X (by decide +kernel) (by decide)) <|
  mF (sn_iload_n (pc := 47) (j := 3) X (by decide +kernel) rfl) <|
  mF (sn_if_ne (pc := 48) (off := 13) X (by decide +kernel) (by decide)) <|
  mF (sn_iload (pc := 51) X (by decide +kernel)) <|
  mF (sn_iconst (pc := 53) (n := 4) X (by decide +kernel) (by decide)) <|
  mF (sn_icmp_eq (pc := 54) (off := 7) X (by decide +kernel) (by decide)) <|
  mF (sn_iconst (pc := 57) (n := 1) X (by decide +kernel) (by decide)) <|
  mF (sn_goto (pc := 58) (off := 4) X (by decide +kernel) (by decide)) <|
  mF (sn_iconst (pc := 61) (n := 0) X (by decide +kernel) (by decide)) <|
  mF (sn_istore (pc := 62) X (by decide +kernel) (by decide)) <|
  mF (sn_iload (pc := 64) X (by decide +kernel)) <|
  mF (sn_iload_n (pc := 66) (j := 3) X (by decide +kernel) rfl) <|
  mF (sn_icmp_eq (pc := 67) (off := 8) X (by decide +kernel) (by decide)) <|
  mF (sn_iload (pc := 70) X (by decide +kernel)) <|
  mF (sn_if_eq (pc := 72) (off := 7) X (by decide +kernel) (by decide)) <|
  mF (sn_lconst (pc := 75) (n := 1) X (by decide +kernel) (by decide)) <|
  mF (sn_goto (pc := 76) (off := 4) X (by decide +kernel) (by decide)) <|
  mF (sn_lconst (pc := 79) (n := 0) X (by decide +kernel) (by decide)) <|
  mF (sn_lret (pc := 80) X hr hk (by decide +kernel)) <|
  mF0
theorem me_X10_isOf (l : Launch) (B : mBs) : mMet l B yX10_isOf cX10_isOf 7 (some .long) 2 0 0 C_X10_isOf := mMet_of (own := RX10) (by decide) rfl (fun p e s m args below meth c Q X hr hk hn => sd_X10_isOf l B p e s m args below meth c Q X hr hk hn)
/-! PuppetStage.excessOf(LPuppetStage$Holds;)J: 25 instructions, depth 3, makes 0 cells of 0 slots -/
def tb_X10_excessOf : mTb := [(0, aPL 0 1), (1, aSL 2 2), (2, aPI 0 3), (3, aSI 4 5), (5, aLI 4 7), (7, aLA 1 8), (8, aGI 4 6 11), (11, aIc (fun x y => y ≤ x) 43 14), (14, aLL 2 15), (15, aLA 0 16), (16, aGR 10 3 19), (19, aLA 1 20), (20, aLI 4 22), (22, aLA 0 23), (23, aGR 10 3 26), (26, aLA 1 27), (27, aLI 4 29), (29, aCV 1 2 C_X1_far 32), (32, aCV 1 3 C_X1_tooLong 35), (35, aBL (fun x y => x + y) 36), (36, aSL 2 37), (37, aInc 4 1 40), (40, aGo 5), (43, aLL 2 44), (44, aRL)]
theorem mt_X10_excessOf : mMT tb_X10_excessOf :=
  mF (mn_PL _ _) <|
  mF (mn_SL _ _) <|
  mF (mn_PI _ _) <|
  mF (mn_SI _ _) <|
  mF (mn_LI _ _) <|
  mF (mn_LA _ _) <|
  mF (mn_GI _ _ _) <|
  mF (mn_Ic _ _ _) <|
  mF (mn_LL _ _) <|
  mF (mn_LA _ _) <|
  mF (mn_GR _ _ _) <|
  mF (mn_LA _ _) <|
  mF (mn_LI _ _) <|
  mF (mn_LA _ _) <|
  mF (mn_GR _ _ _) <|
  mF (mn_LA _ _) <|
  mF (mn_LI _ _) <|
  mF (mn_CV _ _ mc_X1_far _) <|
  mF (mn_CV _ _ mc_X1_tooLong _) <|
  mF (mn_BL _ _) <|
  mF (mn_SL _ _) <|
  mF (mn_Inc _ _ _) <|
  mF (mn_Go _) <|
  mF (mn_LL _ _) <|
  mF (mn_RL) <|
  mF0
def C_X10_excessOf : mCo := mRun tb_X10_excessOf 5
theorem mc_X10_excessOf : mMC C_X10_excessOf := mRun_mn mt_X10_excessOf 5
theorem yi_X10_excessOf : mYin yX10_excessOf cX10_excessOf 5 (some .long) 1 := ⟨wd_49, wd_696, by decide +kernel, by decide⟩
set_option maxRecDepth 100000 in
set_option maxHeartbeats 4000000 in
theorem sd_X10_excessOf (l : Launch) (B : mBs) (p : Program) (e : Env) (s : State) (m : MethodId) (args : Array Value) (below : List Frame) (meth : Method) (c : Code) (Q : mQo) (X : mCx l B RX10 cX10_excessOf 5 p s m args c) (hr : meth.sig.returnType = (some .long)) (hk : meth.locks = false) (hn : meth.name = "excessOf") : ∀ q ∈ tb_X10_excessOf, mSnd l B 5 p e (mRm 3 0 0) s m args below meth c (MQ below (mPo B Q) args s 0 0 (mA B)) (fun r h' => (h'.1.2.1 ≤ 0 ∧ h'.1.2.2 ≤ 0) ∧ Q r h') q.2 q.1 :=
  mF (sn_lconst (pc := 0) (n := 0) X (by decide +kernel) (by decide)) <|
  mF (sn_lstore_n (pc := 1) (j := 2) X (by decide +kernel) rfl (by decide)) <|
  mF (sn_iconst (pc := 2) (n := 0) X (by decide +kernel) (by decide)) <|
  mF (sn_istore (pc := 3) X (by decide +kernel) (by decide)) <|
  mF (sn_iload (pc := 5) X (by decide +kernel)) <|
  mF (sn_aload_n (pc := 7) (j := 1) X (by decide +kernel) rfl) <|
  mF (sn_getI (pc := 8) X fd_X10_187 (by decide +kernel)) <|
  mF (sn_icmp_ge (pc := 11) (off := 32) X (by decide +kernel) (by decide)) <|
  mF (sn_lload_n (pc := 14) (j := 2) X (by decide +kernel) rfl) <|
  mF (sn_aload_n (pc := 15) (j := 0) X (by decide +kernel) rfl) <|
  mF (sn_getR (pc := 16) X fd_X10_29 (by decide +kernel)) <|
  mF (sn_aload_n (pc := 19) (j := 1) X (by decide +kernel) rfl) <|
  mF (sn_iload (pc := 20) X (by decide +kernel)) <|
  mF (sn_aload_n (pc := 22) (j := 0) X (by decide +kernel) rfl) <|
  mF (sn_getR (pc := 23) X fd_X10_29 (by decide +kernel)) <|
  mF (sn_aload_n (pc := 26) (j := 1) X (by decide +kernel) rfl) <|
  mF (sn_iload (pc := 27) X (by decide +kernel)) <|
  mF (sn_callV (pc := 29) X mc_X1_far (me_X1_far l B) yi_X1_far wd_649 wd_650 wd_651 (T := TX1) (N := 11) rfl (by decide) (by decide +kernel)) <|
  mF (sn_callV (pc := 32) X mc_X1_tooLong (me_X1_tooLong l B) yi_X1_tooLong wd_669 wd_670 wd_671 (T := TX1) (N := 11) rfl (by decide) (by decide +kernel)) <|
  mF (sn_ladd (pc := 35) X (by decide +kernel)) <|
  mF (sn_lstore_n (pc := 36) (j := 2) X (by decide +kernel) rfl (by decide)) <|
  mF (sn_iinc (pc := 37) (n := 1) X (by decide +kernel) (by decide) (by decide)) <|
  mF (sn_goto (pc := 40) (off := (-35)) X (by decide +kernel) (by decide)) <|
  mF (sn_lload_n (pc := 43) (j := 2) X (by decide +kernel) rfl) <|
  mF (sn_lret (pc := 44) X hr hk (by decide +kernel)) <|
  mF0
theorem me_X10_excessOf (l : Launch) (B : mBs) : mMet l B yX10_excessOf cX10_excessOf 5 (some .long) 3 0 0 C_X10_excessOf := mMet_of (own := RX10) (by decide) rfl (fun p e s m args below meth c Q X hr hk hn => sd_X10_excessOf l B p e s m args below meth c Q X hr hk hn)
/-! PuppetStage.countTooLong(LPuppetStage$Holds;)I: 26 instructions, depth 3, makes 0 cells of 0 slots -/
def tb_X10_countTooLong : mTb := [(0, aPI 0 1), (1, aSI 2 2), (2, aPI 0 3), (3, aSI 3 4), (4, aLI 3 5), (5, aLA 1 6), (6, aGI 4 6 9), (9, aIc (fun x y => y ≤ x) 44 12), (12, aLA 0 13), (13, aGR 10 3 16), (16, aLA 1 17), (17, aLI 3 18), (18, aLA 0 19), (19, aGR 10 3 22), (22, aLA 1 23), (23, aLI 3 24), (24, aCV 1 2 C_X1_far 27), (27, aCV 1 3 C_X1_tooLong 30), (30, aPL 0 31), (31, aCmp 32), (32, aIf (fun x => x ≤ 0) 38 35), (35, aInc 2 1 38), (38, aInc 3 1 41), (41, aGo 4), (44, aLI 2 45), (45, aRI)]
theorem mt_X10_countTooLong : mMT tb_X10_countTooLong :=
  mF (mn_PI _ _) <|
  mF (mn_SI _ _) <|
  mF (mn_PI _ _) <|
  mF (mn_SI _ _) <|
  mF (mn_LI _ _) <|
  mF (mn_LA _ _) <|
  mF (mn_GI _ _ _) <|
  mF (mn_Ic _ _ _) <|
  mF (mn_LA _ _) <|
  mF (mn_GR _ _ _) <|
  mF (mn_LA _ _) <|
  mF (mn_LI _ _) <|
  mF (mn_LA _ _) <|
  mF (mn_GR _ _ _) <|
  mF (mn_LA _ _) <|
  mF (mn_LI _ _) <|
  mF (mn_CV _ _ mc_X1_far _) <|
  mF (mn_CV _ _ mc_X1_tooLong _) <|
  mF (mn_PL _ _) <|
  mF (mn_Cmp _) <|
  mF (mn_If _ _ _) <|
  mF (mn_Inc _ _ _) <|
  mF (mn_Inc _ _ _) <|
  mF (mn_Go _) <|
  mF (mn_LI _ _) <|
  mF (mn_RI) <|
  mF0
def C_X10_countTooLong : mCo := mRun tb_X10_countTooLong 4
theorem mc_X10_countTooLong : mMC C_X10_countTooLong := mRun_mn mt_X10_countTooLong 4
theorem yi_X10_countTooLong : mYin yX10_countTooLong cX10_countTooLong 4 (some .int) 1 := ⟨wd_49, wd_704, by decide +kernel, by decide⟩
set_option maxRecDepth 100000 in
set_option maxHeartbeats 4000000 in
theorem sd_X10_countTooLong (l : Launch) (B : mBs) (p : Program) (e : Env) (s : State) (m : MethodId) (args : Array Value) (below : List Frame) (meth : Method) (c : Code) (Q : mQo) (X : mCx l B RX10 cX10_countTooLong 4 p s m args c) (hr : meth.sig.returnType = (some .int)) (hk : meth.locks = false) (hn : meth.name = "countTooLong") : ∀ q ∈ tb_X10_countTooLong, mSnd l B 4 p e (mRm 3 0 0) s m args below meth c (MQ below (mPo B Q) args s 0 0 (mA B)) (fun r h' => (h'.1.2.1 ≤ 0 ∧ h'.1.2.2 ≤ 0) ∧ Q r h') q.2 q.1 :=
  mF (sn_iconst (pc := 0) (n := 0) X (by decide +kernel) (by decide)) <|
  mF (sn_istore_n (pc := 1) (j := 2) X (by decide +kernel) rfl (by decide)) <|
  mF (sn_iconst (pc := 2) (n := 0) X (by decide +kernel) (by decide)) <|
  mF (sn_istore_n (pc := 3) (j := 3) X (by decide +kernel) rfl (by decide)) <|
  mF (sn_iload_n (pc := 4) (j := 3) X (by decide +kernel) rfl) <|
  mF (sn_aload_n (pc := 5) (j := 1) X (by decide +kernel) rfl) <|
  mF (sn_getI (pc := 6) X fd_X10_187 (by decide +kernel)) <|
  mF (sn_icmp_ge (pc := 9) (off := 35) X (by decide +kernel) (by decide)) <|
  mF (sn_aload_n (pc := 12) (j := 0) X (by decide +kernel) rfl) <|
  mF (sn_getR (pc := 13) X fd_X10_29 (by decide +kernel)) <|
  mF (sn_aload_n (pc := 16) (j := 1) X (by decide +kernel) rfl) <|
  mF (sn_iload_n (pc := 17) (j := 3) X (by decide +kernel) rfl) <|
  mF (sn_aload_n (pc := 18) (j := 0) X (by decide +kernel) rfl) <|
  mF (sn_getR (pc := 19) X fd_X10_29 (by decide +kernel)) <|
  mF (sn_aload_n (pc := 22) (j := 1) X (by decide +kernel) rfl) <|
  mF (sn_iload_n (pc := 23) (j := 3) X (by decide +kernel) rfl) <|
  mF (sn_callV (pc := 24) X mc_X1_far (me_X1_far l B) yi_X1_far wd_649 wd_650 wd_651 (T := TX1) (N := 11) rfl (by decide) (by decide +kernel)) <|
  mF (sn_callV (pc := 27) X mc_X1_tooLong (me_X1_tooLong l B) yi_X1_tooLong wd_669 wd_670 wd_671 (T := TX1) (N := 11) rfl (by decide) (by decide +kernel)) <|
  mF (sn_lconst (pc := 30) (n := 0) X (by decide +kernel) (by decide)) <|
  mF (sn_lcmp (pc := 31) X (by decide +kernel)) <|
  mF (sn_if_le (pc := 32) (off := 6) X (by decide +kernel) (by decide)) <|
  mF (sn_iinc (pc := 35) (n := 1) X (by decide +kernel) (by decide) (by decide)) <|
  mF (sn_iinc (pc := 38) (n := 1) X (by decide +kernel) (by decide) (by decide)) <|
  mF (sn_goto (pc := 41) (off := (-37)) X (by decide +kernel) (by decide)) <|
  mF (sn_iload_n (pc := 44) (j := 2) X (by decide +kernel) rfl) <|
  mF (sn_iret (pc := 45) X hr hk (by decide +kernel)) <|
  mF0
theorem me_X10_countTooLong (l : Launch) (B : mBs) : mMet l B yX10_countTooLong cX10_countTooLong 4 (some .int) 3 0 0 C_X10_countTooLong := mMet_of (own := RX10) (by decide) rfl (fun p e s m args below meth c Q X hr hk hn => sd_X10_countTooLong l B p e s m args below meth c Q X hr hk hn)
/-! PuppetStage.countTaut(LPuppetStage$Holds;)I: 22 instructions, depth 3, makes 0 cells of 0 slots -/
def tb_X10_countTaut : mTb := [(0, aPI 0 1), (1, aSI 2 2), (2, aPI 0 3), (3, aSI 3 4), (4, aLI 3 5), (5, aLA 1 6), (6, aGI 4 6 9), (9, aIc (fun x y => y ≤ x) 38 12), (12, aLA 1 13), (13, aLI 3 14), (14, aLA 0 15), (15, aGR 10 3 18), (18, aLA 1 19), (19, aLI 3 20), (20, aCV 1 2 C_X1_far 23), (23, aCV 4 2 C_X4_isTaut 26), (26, aIf (fun x => x = 0) 32 29), (29, aInc 2 1 32), (32, aInc 3 1 35), (35, aGo 4), (38, aLI 2 39), (39, aRI)]
theorem mt_X10_countTaut : mMT tb_X10_countTaut :=
  mF (mn_PI _ _) <|
  mF (mn_SI _ _) <|
  mF (mn_PI _ _) <|
  mF (mn_SI _ _) <|
  mF (mn_LI _ _) <|
  mF (mn_LA _ _) <|
  mF (mn_GI _ _ _) <|
  mF (mn_Ic _ _ _) <|
  mF (mn_LA _ _) <|
  mF (mn_LI _ _) <|
  mF (mn_LA _ _) <|
  mF (mn_GR _ _ _) <|
  mF (mn_LA _ _) <|
  mF (mn_LI _ _) <|
  mF (mn_CV _ _ mc_X1_far _) <|
  mF (mn_CV _ _ mc_X4_isTaut _) <|
  mF (mn_If _ _ _) <|
  mF (mn_Inc _ _ _) <|
  mF (mn_Inc _ _ _) <|
  mF (mn_Go _) <|
  mF (mn_LI _ _) <|
  mF (mn_RI) <|
  mF0
def C_X10_countTaut : mCo := mRun tb_X10_countTaut 4
theorem mc_X10_countTaut : mMC C_X10_countTaut := mRun_mn mt_X10_countTaut 4
theorem yi_X10_countTaut : mYin yX10_countTaut cX10_countTaut 4 (some .int) 1 := ⟨wd_49, wd_708, by decide +kernel, by decide⟩
set_option maxRecDepth 100000 in
set_option maxHeartbeats 4000000 in
theorem sd_X10_countTaut (l : Launch) (B : mBs) (p : Program) (e : Env) (s : State) (m : MethodId) (args : Array Value) (below : List Frame) (meth : Method) (c : Code) (Q : mQo) (X : mCx l B RX10 cX10_countTaut 4 p s m args c) (hr : meth.sig.returnType = (some .int)) (hk : meth.locks = false) (hn : meth.name = "countTaut") : ∀ q ∈ tb_X10_countTaut, mSnd l B 4 p e (mRm 3 0 0) s m args below meth c (MQ below (mPo B Q) args s 0 0 (mA B)) (fun r h' => (h'.1.2.1 ≤ 0 ∧ h'.1.2.2 ≤ 0) ∧ Q r h') q.2 q.1 :=
  mF (sn_iconst (pc := 0) (n := 0) X (by decide +kernel) (by decide)) <|
  mF (sn_istore_n (pc := 1) (j := 2) X (by decide +kernel) rfl (by decide)) <|
  mF (sn_iconst (pc := 2) (n := 0) X (by decide +kernel) (by decide)) <|
  mF (sn_istore_n (pc := 3) (j := 3) X (by decide +kernel) rfl (by decide)) <|
  mF (sn_iload_n (pc := 4) (j := 3) X (by decide +kernel) rfl) <|
  mF (sn_aload_n (pc := 5) (j := 1) X (by decide +kernel) rfl) <|
  mF (sn_getI (pc := 6) X fd_X10_187 (by decide +kernel)) <|
  mF (sn_icmp_ge (pc := 9) (off := 29) X (by decide +kernel) (by decide)) <|
  mF (sn_aload_n (pc := 12) (j := 1) X (by decide +kernel) rfl) <|
  mF (sn_iload_n (pc := 13) (j := 3) X (by decide +kernel) rfl) <|
  mF (sn_aload_n (pc := 14) (j := 0) X (by decide +kernel) rfl) <|
  mF (sn_getR (pc := 15) X fd_X10_29 (by decide +kernel)) <|
  mF (sn_aload_n (pc := 18) (j := 1) X (by decide +kernel) rfl) <|
  mF (sn_iload_n (pc := 19) (j := 3) X (by decide +kernel) rfl) <|
  mF (sn_callV (pc := 20) X mc_X1_far (me_X1_far l B) yi_X1_far wd_649 wd_650 wd_651 (T := TX1) (N := 11) rfl (by decide) (by decide +kernel)) <|
  mF (sn_callV (pc := 23) X mc_X4_isTaut (me_X4_isTaut l B) yi_X4_isTaut wd_680 wd_681 wd_682 (T := TX4) (N := 7) rfl (by decide) (by decide +kernel)) <|
  mF (sn_if_eq (pc := 26) (off := 6) X (by decide +kernel) (by decide)) <|
  mF (sn_iinc (pc := 29) (n := 1) X (by decide +kernel) (by decide) (by decide)) <|
  mF (sn_iinc (pc := 32) (n := 1) X (by decide +kernel) (by decide) (by decide)) <|
  mF (sn_goto (pc := 35) (off := (-31)) X (by decide +kernel) (by decide)) <|
  mF (sn_iload_n (pc := 38) (j := 2) X (by decide +kernel) rfl) <|
  mF (sn_iret (pc := 39) X hr hk (by decide +kernel)) <|
  mF0
theorem me_X10_countTaut (l : Launch) (B : mBs) : mMet l B yX10_countTaut cX10_countTaut 4 (some .int) 3 0 0 C_X10_countTaut := mMet_of (own := RX10) (by decide) rfl (fun p e s m args below meth c Q X hr hk hn => sd_X10_countTaut l B p e s m args below meth c Q X hr hk hn)
/-! PuppetStage.lies(II)J: 39 instructions, depth 4, makes 0 cells of 0 slots -/
def tb_X10_lies : mTb := [(0, aLA 0 1), (1, aLI 1 2), (2, aCV 10 1 C_X10_puppetOf 5), (5, aSA 3 6), (6, aLA 3 7), (7, aNn 14 10), (10, aPL (-9000000000000000001) 13), (13, aRL), (14, aLA 0 15), (15, aGR 10 3 18), (18, aLA 3 19), (19, aCV 1 1 C_X1_lay 22), (22, aLI 2 23), (23, aTs [(0, 52), (1, 61), (2, 73), (3, 83)] 93), (52, aLA 0 53), (53, aLA 3 54), (54, aGR 7 3 57), (57, aCV 10 1 C_X10_excessOf 60), (60, aRL), (61, aLA 0 62), (62, aGR 10 3 65), (65, aLA 3 66), (66, aGR 7 0 69), (69, aCV 1 1 C_X1_depthOf 72), (72, aRL), (73, aLA 0 74), (74, aLA 3 75), (75, aGR 7 3 78), (78, aCV 10 1 C_X10_countTooLong 81), (81, aI2L 82), (82, aRL), (83, aLA 0 84), (84, aLA 3 85), (85, aGR 7 3 88), (88, aCV 10 1 C_X10_countTaut 91), (91, aI2L 92), (92, aRL), (93, aPL (-9000000000000000001) 96), (96, aRL)]
theorem mt_X10_lies : mMT tb_X10_lies :=
  mF (mn_LA _ _) <|
  mF (mn_LI _ _) <|
  mF (mn_CV _ _ mc_X10_puppetOf _) <|
  mF (mn_SA _ _) <|
  mF (mn_LA _ _) <|
  mF (mn_Nn _ _) <|
  mF (mn_PL _ _) <|
  mF (mn_RL) <|
  mF (mn_LA _ _) <|
  mF (mn_GR _ _ _) <|
  mF (mn_LA _ _) <|
  mF (mn_CV _ _ mc_X1_lay _) <|
  mF (mn_LI _ _) <|
  mF (mn_Ts _ _) <|
  mF (mn_LA _ _) <|
  mF (mn_LA _ _) <|
  mF (mn_GR _ _ _) <|
  mF (mn_CV _ _ mc_X10_excessOf _) <|
  mF (mn_RL) <|
  mF (mn_LA _ _) <|
  mF (mn_GR _ _ _) <|
  mF (mn_LA _ _) <|
  mF (mn_GR _ _ _) <|
  mF (mn_CV _ _ mc_X1_depthOf _) <|
  mF (mn_RL) <|
  mF (mn_LA _ _) <|
  mF (mn_LA _ _) <|
  mF (mn_GR _ _ _) <|
  mF (mn_CV _ _ mc_X10_countTooLong _) <|
  mF (mn_I2L _) <|
  mF (mn_RL) <|
  mF (mn_LA _ _) <|
  mF (mn_LA _ _) <|
  mF (mn_GR _ _ _) <|
  mF (mn_CV _ _ mc_X10_countTaut _) <|
  mF (mn_I2L _) <|
  mF (mn_RL) <|
  mF (mn_PL _ _) <|
  mF (mn_RL) <|
  mF0
def C_X10_lies : mCo := mRun tb_X10_lies 4
theorem mc_X10_lies : mMC C_X10_lies := mRun_mn mt_X10_lies 4
theorem yi_X10_lies : mYin yX10_lies cX10_lies 4 (some .long) 2 := ⟨wd_49, wd_692, by decide +kernel, by decide⟩
set_option maxRecDepth 100000 in
set_option maxHeartbeats 4000000 in
theorem sd_X10_lies (l : Launch) (B : mBs) (p : Program) (e : Env) (s : State) (m : MethodId) (args : Array Value) (below : List Frame) (meth : Method) (c : Code) (Q : mQo) (X : mCx l B RX10 cX10_lies 4 p s m args c) (hr : meth.sig.returnType = (some .long)) (hk : meth.locks = false) (hn : meth.name = "lies") : ∀ q ∈ tb_X10_lies, mSnd l B 4 p e (mRm 4 0 0) s m args below meth c (MQ below (mPo B Q) args s 0 0 (mA B)) (fun r h' => (h'.1.2.1 ≤ 0 ∧ h'.1.2.2 ≤ 0) ∧ Q r h') q.2 q.1 :=
  mF (sn_aload_n (pc := 0) (j := 0) X (by decide +kernel) rfl) <|
  mF (sn_iload_n (pc := 1) (j := 1) X (by decide +kernel) rfl) <|
  mF (sn_callV (pc := 2) X mc_X10_puppetOf (me_X10_puppetOf l B) yi_X10_puppetOf wd_425 wd_427 wd_0 (T := TX10) (N := 11) rfl (by decide) (by decide +kernel)) <|
  mF (sn_astore_n (pc := 5) (j := 3) X (by decide +kernel) rfl (by decide)) <|
  mF (sn_aload_n (pc := 6) (j := 3) X (by decide +kernel) rfl) <|
  mF (sn_ifnonnull (pc := 7) (off := 7) X (by decide +kernel) (by decide)) <|
  mF (sn_ldc2 (pc := 10) X (by decide +kernel) wd_432) <|
  mF (sn_lret (pc := 13) X hr hk (by decide +kernel)) <|
  mF (sn_aload_n (pc := 14) (j := 0) X (by decide +kernel) rfl) <|
  mF (sn_getR (pc := 15) X fd_X10_29 (by decide +kernel)) <|
  mF (sn_aload_n (pc := 18) (j := 3) X (by decide +kernel) rfl) <|
  mF (sn_callV (pc := 19) X mc_X1_lay (me_X1_lay l B) yi_X1_lay wd_643 wd_644 wd_645 (T := TX1) (N := 11) rfl (by decide) (by decide +kernel)) <|
  mF (sn_iload_n (pc := 22) (j := 2) X (by decide +kernel) rfl) <|
  mF (sn_ts (pc := 23) (dflt := 70) (lo := 0) (hi := 3) (offs := #[29, 38, 50, 60]) (len := 29) X (by decide +kernel) ⟨by decide, by decide, by decide⟩) <|
  mF (sn_aload_n (pc := 52) (j := 0) X (by decide +kernel) rfl) <|
  mF (sn_aload_n (pc := 53) (j := 3) X (by decide +kernel) rfl) <|
  mF (sn_getR (pc := 54) X fd_X10_115 (by decide +kernel)) <|
  mF (sn_callV (pc := 57) X mc_X10_excessOf (me_X10_excessOf l B) yi_X10_excessOf wd_693 wd_695 wd_2 (T := TX10) (N := 11) rfl (by decide) (by decide +kernel)) <|
  mF (sn_lret (pc := 60) X hr hk (by decide +kernel)) <|
  mF (sn_aload_n (pc := 61) (j := 0) X (by decide +kernel) rfl) <|
  mF (sn_getR (pc := 62) X fd_X10_29 (by decide +kernel)) <|
  mF (sn_aload_n (pc := 65) (j := 3) X (by decide +kernel) rfl) <|
  mF (sn_getR (pc := 66) X fd_X10_68 (by decide +kernel)) <|
  mF (sn_callV (pc := 69) X mc_X1_depthOf (me_X1_depthOf l B) yi_X1_depthOf wd_697 wd_698 wd_699 (T := TX1) (N := 11) rfl (by decide) (by decide +kernel)) <|
  mF (sn_lret (pc := 72) X hr hk (by decide +kernel)) <|
  mF (sn_aload_n (pc := 73) (j := 0) X (by decide +kernel) rfl) <|
  mF (sn_aload_n (pc := 74) (j := 3) X (by decide +kernel) rfl) <|
  mF (sn_getR (pc := 75) X fd_X10_115 (by decide +kernel)) <|
  mF (sn_callV (pc := 78) X mc_X10_countTooLong (me_X10_countTooLong l B) yi_X10_countTooLong wd_701 wd_703 wd_3 (T := TX10) (N := 11) rfl (by decide) (by decide +kernel)) <|
  mF (sn_i2l (pc := 81) X (by decide +kernel)) <|
  mF (sn_lret (pc := 82) X hr hk (by decide +kernel)) <|
  mF (sn_aload_n (pc := 83) (j := 0) X (by decide +kernel) rfl) <|
  mF (sn_aload_n (pc := 84) (j := 3) X (by decide +kernel) rfl) <|
  mF (sn_getR (pc := 85) X fd_X10_115 (by decide +kernel)) <|
  mF (sn_callV (pc := 88) X mc_X10_countTaut (me_X10_countTaut l B) yi_X10_countTaut wd_705 wd_707 wd_4 (T := TX10) (N := 11) rfl (by decide) (by decide +kernel)) <|
  mF (sn_i2l (pc := 91) X (by decide +kernel)) <|
  mF (sn_lret (pc := 92) X hr hk (by decide +kernel)) <|
  mF (sn_ldc2 (pc := 93) X (by decide +kernel) wd_432) <|
  mF (sn_lret (pc := 96) X hr hk (by decide +kernel)) <|
  mF0
theorem me_X10_lies (l : Launch) (B : mBs) : mMet l B yX10_lies cX10_lies 4 (some .long) 4 0 0 C_X10_lies := mMet_of (own := RX10) (by decide) rfl (fun p e s m args below meth c Q X hr hk hn => sd_X10_lies l B p e s m args below meth c Q X hr hk hn)
/-! PuppetStage.why(I)J: 49 instructions, depth 3, makes 0 cells of 0 slots -/
def tb_X10_why : mTb := [(0, aLA 0 1), (1, aLI 1 2), (2, aCV 10 1 C_X10_puppetOf 5), (5, aSA 2 6), (6, aLA 2 7), (7, aNn 14 10), (10, aPL (-9000000000000000001) 13), (13, aRL), (14, aLA 0 15), (15, aGR 10 3 18), (18, aLA 2 19), (19, aCV 1 1 C_X1_lay 22), (22, aPL 0 23), (23, aSL 3 24), (24, aPL (-9000000000000000005) 27), (27, aSL 5 29), (29, aPI 0 30), (30, aSI 7 32), (32, aLI 7 34), (34, aLA 2 35), (35, aGR 7 3 38), (38, aGI 4 6 41), (41, aIc (fun x y => y ≤ x) 93 44), (44, aLA 0 45), (45, aGR 10 3 48), (48, aLA 2 49), (49, aGR 7 3 52), (52, aLI 7 54), (54, aLA 0 55), (55, aGR 10 3 58), (58, aLA 2 59), (59, aGR 7 3 62), (62, aLI 7 64), (64, aCV 1 2 C_X1_far 67), (67, aCV 1 3 C_X1_tooLong 70), (70, aSL 8 72), (72, aLL 8 74), (74, aLL 3 75), (75, aCmp 76), (76, aIf (fun x => x ≤ 0) 87 79), (79, aLL 8 81), (81, aSL 3 82), (82, aLI 7 84), (84, aI2L 85), (85, aSL 5 87), (87, aInc 7 1 90), (90, aGo 32), (93, aLL 5 95), (95, aRL)]
theorem mt_X10_why : mMT tb_X10_why :=
  mF (mn_LA _ _) <|
  mF (mn_LI _ _) <|
  mF (mn_CV _ _ mc_X10_puppetOf _) <|
  mF (mn_SA _ _) <|
  mF (mn_LA _ _) <|
  mF (mn_Nn _ _) <|
  mF (mn_PL _ _) <|
  mF (mn_RL) <|
  mF (mn_LA _ _) <|
  mF (mn_GR _ _ _) <|
  mF (mn_LA _ _) <|
  mF (mn_CV _ _ mc_X1_lay _) <|
  mF (mn_PL _ _) <|
  mF (mn_SL _ _) <|
  mF (mn_PL _ _) <|
  mF (mn_SL _ _) <|
  mF (mn_PI _ _) <|
  mF (mn_SI _ _) <|
  mF (mn_LI _ _) <|
  mF (mn_LA _ _) <|
  mF (mn_GR _ _ _) <|
  mF (mn_GI _ _ _) <|
  mF (mn_Ic _ _ _) <|
  mF (mn_LA _ _) <|
  mF (mn_GR _ _ _) <|
  mF (mn_LA _ _) <|
  mF (mn_GR _ _ _) <|
  mF (mn_LI _ _) <|
  mF (mn_LA _ _) <|
  mF (mn_GR _ _ _) <|
  mF (mn_LA _ _) <|
  mF (mn_GR _ _ _) <|
  mF (mn_LI _ _) <|
  mF (mn_CV _ _ mc_X1_far _) <|
  mF (mn_CV _ _ mc_X1_tooLong _) <|
  mF (mn_SL _ _) <|
  mF (mn_LL _ _) <|
  mF (mn_LL _ _) <|
  mF (mn_Cmp _) <|
  mF (mn_If _ _ _) <|
  mF (mn_LL _ _) <|
  mF (mn_SL _ _) <|
  mF (mn_LI _ _) <|
  mF (mn_I2L _) <|
  mF (mn_SL _ _) <|
  mF (mn_Inc _ _ _) <|
  mF (mn_Go _) <|
  mF (mn_LL _ _) <|
  mF (mn_RL) <|
  mF0
def C_X10_why : mCo := mRun tb_X10_why 10
theorem mc_X10_why : mMC C_X10_why := mRun_mn mt_X10_why 10
theorem yi_X10_why : mYin yX10_why cX10_why 10 (some .long) 1 := ⟨wd_49, wd_712, by decide +kernel, by decide⟩
set_option maxRecDepth 100000 in
set_option maxHeartbeats 4000000 in
theorem sd_X10_why (l : Launch) (B : mBs) (p : Program) (e : Env) (s : State) (m : MethodId) (args : Array Value) (below : List Frame) (meth : Method) (c : Code) (Q : mQo) (X : mCx l B RX10 cX10_why 10 p s m args c) (hr : meth.sig.returnType = (some .long)) (hk : meth.locks = false) (hn : meth.name = "why") : ∀ q ∈ tb_X10_why, mSnd l B 10 p e (mRm 3 0 0) s m args below meth c (MQ below (mPo B Q) args s 0 0 (mA B)) (fun r h' => (h'.1.2.1 ≤ 0 ∧ h'.1.2.2 ≤ 0) ∧ Q r h') q.2 q.1 :=
  mF (sn_aload_n (pc := 0) (j := 0) X (by decide +kernel) rfl) <|
  mF (sn_iload_n (pc := 1) (j := 1) X (by decide +kernel) rfl) <|
  mF (sn_callV (pc := 2) X mc_X10_puppetOf (me_X10_puppetOf l B) yi_X10_puppetOf wd_425 wd_427 wd_0 (T := TX10) (N := 11) rfl (by decide) (by decide +kernel)) <|
  mF (sn_astore_n (pc := 5) (j := 2) X (by decide +kernel) rfl (by decide)) <|
  mF (sn_aload_n (pc := 6) (j := 2) X (by decide +kernel) rfl) <|
  mF (sn_ifnonnull (pc := 7) (off := 7) X (by decide +kernel) (by decide)) <|
  mF (sn_ldc2 (pc := 10) X (by decide +kernel) wd_432) <|
  mF (sn_lret (pc := 13) X hr hk (by decide +kernel)) <|
  mF (sn_aload_n (pc := 14) (j := 0) X (by decide +kernel) rfl) <|
  mF (sn_getR (pc := 15) X fd_X10_29 (by decide +kernel)) <|
  mF (sn_aload_n (pc := 18) (j := 2) X (by decide +kernel) rfl) <|
  mF (sn_callV (pc := 19) X mc_X1_lay (me_X1_lay l B) yi_X1_lay wd_643 wd_644 wd_645 (T := TX1) (N := 11) rfl (by decide) (by decide +kernel)) <|
  mF (sn_lconst (pc := 22) (n := 0) X (by decide +kernel) (by decide)) <|
  mF (sn_lstore_n (pc := 23) (j := 3) X (by decide +kernel) rfl (by decide)) <|
  mF (sn_ldc2 (pc := 24) X (by decide +kernel) wd_574) <|
  mF (sn_lstore (pc := 27) X (by decide +kernel) (by decide)) <|
  mF (sn_iconst (pc := 29) (n := 0) X (by decide +kernel) (by decide)) <|
  mF (sn_istore (pc := 30) X (by decide +kernel) (by decide)) <|
  mF (sn_iload (pc := 32) X (by decide +kernel)) <|
  mF (sn_aload_n (pc := 34) (j := 2) X (by decide +kernel) rfl) <|
  mF (sn_getR (pc := 35) X fd_X10_115 (by decide +kernel)) <|
  mF (sn_getI (pc := 38) X fd_X10_187 (by decide +kernel)) <|
  mF (sn_icmp_ge (pc := 41) (off := 52) X (by decide +kernel) (by decide)) <|
  mF (sn_aload_n (pc := 44) (j := 0) X (by decide +kernel) rfl) <|
  mF (sn_getR (pc := 45) X fd_X10_29 (by decide +kernel)) <|
  mF (sn_aload_n (pc := 48) (j := 2) X (by decide +kernel) rfl) <|
  mF (sn_getR (pc := 49) X fd_X10_115 (by decide +kernel)) <|
  mF (sn_iload (pc := 52) X (by decide +kernel)) <|
  mF (sn_aload_n (pc := 54) (j := 0) X (by decide +kernel) rfl) <|
  mF (sn_getR (pc := 55) X fd_X10_29 (by decide +kernel)) <|
  mF (sn_aload_n (pc := 58) (j := 2) X (by decide +kernel) rfl) <|
  mF (sn_getR (pc := 59) X fd_X10_115 (by decide +kernel)) <|
  mF (sn_iload (pc := 62) X (by decide +kernel)) <|
  mF (sn_callV (pc := 64) X mc_X1_far (me_X1_far l B) yi_X1_far wd_649 wd_650 wd_651 (T := TX1) (N := 11) rfl (by decide) (by decide +kernel)) <|
  mF (sn_callV (pc := 67) X mc_X1_tooLong (me_X1_tooLong l B) yi_X1_tooLong wd_669 wd_670 wd_671 (T := TX1) (N := 11) rfl (by decide) (by decide +kernel)) <|
  mF (sn_lstore (pc := 70) X (by decide +kernel) (by decide)) <|
  mF (sn_lload (pc := 72) X (by decide +kernel)) <|
  mF (sn_lload_n (pc := 74) (j := 3) X (by decide +kernel) rfl) <|
  mF (sn_lcmp (pc := 75) X (by decide +kernel)) <|
  mF (sn_if_le (pc := 76) (off := 11) X (by decide +kernel) (by decide)) <|
  mF (sn_lload (pc := 79) X (by decide +kernel)) <|
  mF (sn_lstore_n (pc := 81) (j := 3) X (by decide +kernel) rfl (by decide)) <|
  mF (sn_iload (pc := 82) X (by decide +kernel)) <|
  mF (sn_i2l (pc := 84) X (by decide +kernel)) <|
  mF (sn_lstore (pc := 85) X (by decide +kernel) (by decide)) <|
  mF (sn_iinc (pc := 87) (n := 1) X (by decide +kernel) (by decide) (by decide)) <|
  mF (sn_goto (pc := 90) (off := (-58)) X (by decide +kernel) (by decide)) <|
  mF (sn_lload (pc := 93) X (by decide +kernel)) <|
  mF (sn_lret (pc := 95) X hr hk (by decide +kernel)) <|
  mF0
theorem me_X10_why (l : Launch) (B : mBs) : mMet l B yX10_why cX10_why 10 (some .long) 3 0 0 C_X10_why := mMet_of (own := RX10) (by decide) rfl (fun p e s m args below meth c Q X hr hk hn => sd_X10_why l B p e s m args below meth c Q X hr hk hn)
/-! PuppetStage.rest(II)J: 36 instructions, depth 7, makes 0 cells of 0 slots -/
def tb_X10_rest : mTb := [(0, aLA 0 1), (1, aLI 1 2), (2, aCV 10 1 C_X10_puppetOf 5), (5, aSA 3 6), (6, aLA 3 7), (7, aNu 21 10), (10, aLI 2 11), (11, aPI 1 12), (12, aPI 300 15), (15, aCS 3 C_X10_isWithin 18), (18, aIf (fun x => x = 0) 21 25), (21, aPL (-9000000000000000001) 24), (24, aRL), (25, aLA 0 26), (26, aGR 10 2 29), (29, aLA 0 30), (30, aGR 10 0 33), (33, aLA 0 34), (34, aGR 10 1 37), (37, aCV 3 2 C_X3_keep 40), (40, aLA 0 41), (41, aGR 10 5 44), (44, aLA 3 45), (45, aLI 2 46), (46, aCV 8 2 C_X8_settle 49), (49, aSI 4 51), (51, aLA 0 52), (52, aDup 53), (53, aGL 10 10 56), (56, aLI 4 58), (58, aI2L 59), (59, aBL (fun x y => x + y) 60), (60, aWL 10 10 63), (63, aLI 4 65), (65, aI2L 66), (66, aRL)]
theorem mt_X10_rest : mMT tb_X10_rest :=
  mF (mn_LA _ _) <|
  mF (mn_LI _ _) <|
  mF (mn_CV _ _ mc_X10_puppetOf _) <|
  mF (mn_SA _ _) <|
  mF (mn_LA _ _) <|
  mF (mn_Nu _ _) <|
  mF (mn_LI _ _) <|
  mF (mn_PI _ _) <|
  mF (mn_PI _ _) <|
  mF (mn_CS _ mc_X10_isWithin _) <|
  mF (mn_If _ _ _) <|
  mF (mn_PL _ _) <|
  mF (mn_RL) <|
  mF (mn_LA _ _) <|
  mF (mn_GR _ _ _) <|
  mF (mn_LA _ _) <|
  mF (mn_GR _ _ _) <|
  mF (mn_LA _ _) <|
  mF (mn_GR _ _ _) <|
  mF (mn_CV _ _ mc_X3_keep _) <|
  mF (mn_LA _ _) <|
  mF (mn_GR _ _ _) <|
  mF (mn_LA _ _) <|
  mF (mn_LI _ _) <|
  mF (mn_CV _ _ mc_X8_settle _) <|
  mF (mn_SI _ _) <|
  mF (mn_LA _ _) <|
  mF (mn_Dup _) <|
  mF (mn_GL _ _ _) <|
  mF (mn_LI _ _) <|
  mF (mn_I2L _) <|
  mF (mn_BL _ _) <|
  mF (mn_WL _ _ _) <|
  mF (mn_LI _ _) <|
  mF (mn_I2L _) <|
  mF (mn_RL) <|
  mF0
def C_X10_rest : mCo := mRun tb_X10_rest 5
theorem mc_X10_rest : mMC C_X10_rest := mRun_mn mt_X10_rest 5
theorem yi_X10_rest : mYin yX10_rest cX10_rest 5 (some .long) 2 := ⟨wd_49, wd_716, by decide +kernel, by decide⟩
set_option maxRecDepth 100000 in
set_option maxHeartbeats 4000000 in
theorem sd_X10_rest (l : Launch) (B : mBs) (p : Program) (e : Env) (s : State) (m : MethodId) (args : Array Value) (below : List Frame) (meth : Method) (c : Code) (Q : mQo) (X : mCx l B RX10 cX10_rest 5 p s m args c) (hr : meth.sig.returnType = (some .long)) (hk : meth.locks = false) (hn : meth.name = "rest") : ∀ q ∈ tb_X10_rest, mSnd l B 5 p e (mRm 7 0 0) s m args below meth c (MQ below (mPo B Q) args s 0 0 (mA B)) (fun r h' => (h'.1.2.1 ≤ 0 ∧ h'.1.2.2 ≤ 0) ∧ Q r h') q.2 q.1 :=
  mF (sn_aload_n (pc := 0) (j := 0) X (by decide +kernel) rfl) <|
  mF (sn_iload_n (pc := 1) (j := 1) X (by decide +kernel) rfl) <|
  mF (sn_callV (pc := 2) X mc_X10_puppetOf (me_X10_puppetOf l B) yi_X10_puppetOf wd_425 wd_427 wd_0 (T := TX10) (N := 11) rfl (by decide) (by decide +kernel)) <|
  mF (sn_astore_n (pc := 5) (j := 3) X (by decide +kernel) rfl (by decide)) <|
  mF (sn_aload_n (pc := 6) (j := 3) X (by decide +kernel) rfl) <|
  mF (sn_ifnull (pc := 7) (off := 14) X (by decide +kernel) (by decide)) <|
  mF (sn_iload_n (pc := 10) (j := 2) X (by decide +kernel) rfl) <|
  mF (sn_iconst (pc := 11) (n := 1) X (by decide +kernel) (by decide)) <|
  mF (sn_sipush (pc := 12) (n := 300) X (by decide +kernel) (by decide)) <|
  mF (sn_callS (pc := 15) X mc_X10_isWithin (me_X10_isWithin l B) yi_X10_isWithin wd_429 wd_430 (by decide) (by decide +kernel)) <|
  mF (sn_if_ne (pc := 18) (off := 7) X (by decide +kernel) (by decide)) <|
  mF (sn_ldc2 (pc := 21) X (by decide +kernel) wd_432) <|
  mF (sn_lret (pc := 24) X hr hk (by decide +kernel)) <|
  mF (sn_aload_n (pc := 25) (j := 0) X (by decide +kernel) rfl) <|
  mF (sn_getR (pc := 26) X fd_X10_22 (by decide +kernel)) <|
  mF (sn_aload_n (pc := 29) (j := 0) X (by decide +kernel) rfl) <|
  mF (sn_getR (pc := 30) X fd_X10_10 (by decide +kernel)) <|
  mF (sn_aload_n (pc := 33) (j := 0) X (by decide +kernel) rfl) <|
  mF (sn_getR (pc := 34) X fd_X10_16 (by decide +kernel)) <|
  mF (sn_callV (pc := 37) X mc_X3_keep (me_X3_keep l B) yi_X3_keep wd_451 wd_452 wd_453 (T := TX3) (N := 4) rfl (by decide) (by decide +kernel)) <|
  mF (sn_aload_n (pc := 40) (j := 0) X (by decide +kernel) rfl) <|
  mF (sn_getR (pc := 41) X fd_X10_39 (by decide +kernel)) <|
  mF (sn_aload_n (pc := 44) (j := 3) X (by decide +kernel) rfl) <|
  mF (sn_iload_n (pc := 45) (j := 2) X (by decide +kernel) rfl) <|
  mF (sn_callV (pc := 46) X mc_X8_settle (me_X8_settle l B) yi_X8_settle wd_717 wd_718 wd_719 (T := TX8) (N := 1) rfl (by decide) (by decide +kernel)) <|
  mF (sn_istore (pc := 49) X (by decide +kernel) (by decide)) <|
  mF (sn_aload_n (pc := 51) (j := 0) X (by decide +kernel) rfl) <|
  mF (sn_dup (pc := 52) X (by decide +kernel)) <|
  mF (sn_getL (pc := 53) X fd_X10_60 (by decide +kernel)) <|
  mF (sn_iload (pc := 56) X (by decide +kernel)) <|
  mF (sn_i2l (pc := 58) X (by decide +kernel)) <|
  mF (sn_ladd (pc := 59) X (by decide +kernel)) <|
  mF (sn_putL (pc := 60) X fd_X10_60 ⟨tyX10_ok, nmX10⟩ rfl rfl (by decide +kernel)) <|
  mF (sn_iload (pc := 63) X (by decide +kernel)) <|
  mF (sn_i2l (pc := 65) X (by decide +kernel)) <|
  mF (sn_lret (pc := 66) X hr hk (by decide +kernel)) <|
  mF0
theorem me_X10_rest (l : Launch) (B : mBs) : mMet l B yX10_rest cX10_rest 5 (some .long) 7 0 0 C_X10_rest := mMet_of (own := RX10) (by decide) rfl (fun p e s m args below meth c Q X hr hk hn => sd_X10_rest l B p e s m args below meth c Q X hr hk hn)
/-! PuppetStage.isStill(I)J: 32 instructions, depth 7, makes 0 cells of 0 slots -/
def tb_X10_isStill : mTb := [(0, aLA 0 1), (1, aLI 1 2), (2, aCV 10 1 C_X10_puppetOf 5), (5, aSA 2 6), (6, aLA 2 7), (7, aNn 14 10), (10, aPL (-9000000000000000001) 13), (13, aRL), (14, aLA 2 15), (15, aGR 7 0 18), (18, aGR 5 3 21), (21, aLA 0 22), (22, aGR 10 8 25), (25, aCS 2 C_X10_copyRow 28), (28, aLA 0 29), (29, aGR 10 5 32), (32, aLA 2 33), (33, aPI 1 34), (34, aCV 8 2 C_X8_settle 37), (37, aSI 3 38), (38, aLA 0 39), (39, aGR 10 8 42), (42, aLA 2 43), (43, aGR 7 0 46), (46, aGR 5 3 49), (49, aCS 2 C_X10_copyRow 52), (52, aLI 3 53), (53, aIf (fun x => x = 0) 56 60), (56, aPL 1 57), (57, aGo 61), (60, aPL 0 61), (61, aRL)]
theorem mt_X10_isStill : mMT tb_X10_isStill :=
  mF (mn_LA _ _) <|
  mF (mn_LI _ _) <|
  mF (mn_CV _ _ mc_X10_puppetOf _) <|
  mF (mn_SA _ _) <|
  mF (mn_LA _ _) <|
  mF (mn_Nn _ _) <|
  mF (mn_PL _ _) <|
  mF (mn_RL) <|
  mF (mn_LA _ _) <|
  mF (mn_GR _ _ _) <|
  mF (mn_GR _ _ _) <|
  mF (mn_LA _ _) <|
  mF (mn_GR _ _ _) <|
  mF (mn_CS _ mc_X10_copyRow _) <|
  mF (mn_LA _ _) <|
  mF (mn_GR _ _ _) <|
  mF (mn_LA _ _) <|
  mF (mn_PI _ _) <|
  mF (mn_CV _ _ mc_X8_settle _) <|
  mF (mn_SI _ _) <|
  mF (mn_LA _ _) <|
  mF (mn_GR _ _ _) <|
  mF (mn_LA _ _) <|
  mF (mn_GR _ _ _) <|
  mF (mn_GR _ _ _) <|
  mF (mn_CS _ mc_X10_copyRow _) <|
  mF (mn_LI _ _) <|
  mF (mn_If _ _ _) <|
  mF (mn_PL _ _) <|
  mF (mn_Go _) <|
  mF (mn_PL _ _) <|
  mF (mn_RL) <|
  mF0
def C_X10_isStill : mCo := mRun tb_X10_isStill 4
theorem mc_X10_isStill : mMC C_X10_isStill := mRun_mn mt_X10_isStill 4
theorem yi_X10_isStill : mYin yX10_isStill cX10_isStill 4 (some .long) 1 := ⟨wd_49, wd_748, by decide +kernel, by decide⟩
set_option maxRecDepth 100000 in
set_option maxHeartbeats 4000000 in
theorem sd_X10_isStill (l : Launch) (B : mBs) (p : Program) (e : Env) (s : State) (m : MethodId) (args : Array Value) (below : List Frame) (meth : Method) (c : Code) (Q : mQo) (X : mCx l B RX10 cX10_isStill 4 p s m args c) (hr : meth.sig.returnType = (some .long)) (hk : meth.locks = false) (hn : meth.name = "isStill") : ∀ q ∈ tb_X10_isStill, mSnd l B 4 p e (mRm 7 0 0) s m args below meth c (MQ below (mPo B Q) args s 0 0 (mA B)) (fun r h' => (h'.1.2.1 ≤ 0 ∧ h'.1.2.2 ≤ 0) ∧ Q r h') q.2 q.1 :=
  mF (sn_aload_n (pc := 0) (j := 0) X (by decide +kernel) rfl) <|
  mF (sn_iload_n (pc := 1) (j := 1) X (by decide +kernel) rfl) <|
  mF (sn_callV (pc := 2) X mc_X10_puppetOf (me_X10_puppetOf l B) yi_X10_puppetOf wd_425 wd_427 wd_0 (T := TX10) (N := 11) rfl (by decide) (by decide +kernel)) <|
  mF (sn_astore_n (pc := 5) (j := 2) X (by decide +kernel) rfl (by decide)) <|
  mF (sn_aload_n (pc := 6) (j := 2) X (by decide +kernel) rfl) <|
  mF (sn_ifnonnull (pc := 7) (off := 7) X (by decide +kernel) (by decide)) <|
  mF (sn_ldc2 (pc := 10) X (by decide +kernel) wd_432) <|
  mF (sn_lret (pc := 13) X hr hk (by decide +kernel)) <|
  mF (sn_aload_n (pc := 14) (j := 2) X (by decide +kernel) rfl) <|
  mF (sn_getR (pc := 15) X fd_X10_68 (by decide +kernel)) <|
  mF (sn_getR (pc := 18) X fd_X10_156 (by decide +kernel)) <|
  mF (sn_aload_n (pc := 21) (j := 0) X (by decide +kernel) rfl) <|
  mF (sn_getR (pc := 22) X fd_X10_53 (by decide +kernel)) <|
  mF (sn_callS (pc := 25) X mc_X10_copyRow (me_X10_copyRow l B) yi_X10_copyRow wd_749 wd_464 (by decide) (by decide +kernel)) <|
  mF (sn_aload_n (pc := 28) (j := 0) X (by decide +kernel) rfl) <|
  mF (sn_getR (pc := 29) X fd_X10_39 (by decide +kernel)) <|
  mF (sn_aload_n (pc := 32) (j := 2) X (by decide +kernel) rfl) <|
  mF (sn_iconst (pc := 33) (n := 1) X (by decide +kernel) (by decide)) <|
  mF (sn_callV (pc := 34) X mc_X8_settle (me_X8_settle l B) yi_X8_settle wd_717 wd_718 wd_719 (T := TX8) (N := 1) rfl (by decide) (by decide +kernel)) <|
  mF (sn_istore_n (pc := 37) (j := 3) X (by decide +kernel) rfl (by decide)) <|
  mF (sn_aload_n (pc := 38) (j := 0) X (by decide +kernel) rfl) <|
  mF (sn_getR (pc := 39) X fd_X10_53 (by decide +kernel)) <|
  mF (sn_aload_n (pc := 42) (j := 2) X (by decide +kernel) rfl) <|
  mF (sn_getR (pc := 43) X fd_X10_68 (by decide +kernel)) <|
  mF (sn_getR (pc := 46) X fd_X10_156 (by decide +kernel)) <|
  mF (sn_callS (pc := 49) X mc_X10_copyRow (me_X10_copyRow l B) yi_X10_copyRow wd_749 wd_464 (by decide) (by decide +kernel)) <|
  mF (sn_iload_n (pc := 52) (j := 3) X (by decide +kernel) rfl) <|
  mF (sn_if_ne (pc := 53) (off := 7) X (by decide +kernel) (by decide)) <|
  mF (sn_lconst (pc := 56) (n := 1) X (by decide +kernel) (by decide)) <|
  mF (sn_goto (pc := 57) (off := 4) X (by decide +kernel) (by decide)) <|
  mF (sn_lconst (pc := 60) (n := 0) X (by decide +kernel) (by decide)) <|
  mF (sn_lret (pc := 61) X hr hk (by decide +kernel)) <|
  mF0
theorem me_X10_isStill (l : Launch) (B : mBs) : mMet l B yX10_isStill cX10_isStill 4 (some .long) 7 0 0 C_X10_isStill := mMet_of (own := RX10) (by decide) rfl (fun p e s m args below meth c Q X hr hk hn => sd_X10_isStill l B p e s m args below meth c Q X hr hk hn)
/-! PuppetStage.lowest(I)J: 66 instructions, depth 5, makes 0 cells of 0 slots -/
def tb_X10_lowest : mTb := [(0, aLA 0 1), (1, aLI 1 2), (2, aCV 10 1 C_X10_puppetOf 5), (5, aSA 2 6), (6, aLA 2 7), (7, aNn 14 10), (10, aPL (-9000000000000000001) 13), (13, aRL), (14, aLA 2 15), (15, aGR 7 0 18), (18, aGI 5 4 21), (21, aPI 1 22), (22, aPI 2 23), (23, aCS 3 C_X10_isWithin 26), (26, aIf (fun x => x = 0) 29 33), (29, aPL (-9000000000000000002) 32), (32, aRL), (33, aLA 0 34), (34, aGR 10 2 37), (37, aLA 0 38), (38, aGR 10 0 41), (41, aLA 0 42), (42, aGR 10 1 45), (45, aCV 3 2 C_X3_keep 48), (48, aLA 2 49), (49, aGR 7 0 52), (52, aGR 5 3 55), (55, aLA 0 56), (56, aGR 10 8 59), (59, aCS 2 C_X10_copyRow 62), (62, aLA 0 63), (63, aGR 10 5 66), (66, aLA 2 67), (67, aLA 0 68), (68, aGR 10 9 71), (71, aCV 8 2 C_X8_findLowest 74), (74, aLA 0 75), (75, aGR 10 9 78), (78, aLA 2 79), (79, aGR 7 0 82), (82, aGR 5 3 85), (85, aCS 2 C_X10_copyRow 88), (88, aPI 0 89), (89, aSI 3 90), (90, aPI 0 91), (91, aSI 4 93), (93, aLI 4 95), (95, aLA 2 96), (96, aGR 7 0 99), (99, aGI 5 4 102), (102, aIc (fun x y => y ≤ x) 131 105), (105, aLA 0 106), (106, aGR 10 9 109), (109, aLI 4 111), (111, aIA 112), (112, aLA 0 113), (113, aGR 10 8 116), (116, aLI 4 118), (118, aIA 119), (119, aIc (fun x y => x = y) 125 122), (122, aInc 3 1 125), (125, aInc 4 1 128), (128, aGo 93), (131, aLI 3 132), (132, aI2L 133), (133, aRL)]
theorem mt_X10_lowest : mMT tb_X10_lowest :=
  mF (mn_LA _ _) <|
  mF (mn_LI _ _) <|
  mF (mn_CV _ _ mc_X10_puppetOf _) <|
  mF (mn_SA _ _) <|
  mF (mn_LA _ _) <|
  mF (mn_Nn _ _) <|
  mF (mn_PL _ _) <|
  mF (mn_RL) <|
  mF (mn_LA _ _) <|
  mF (mn_GR _ _ _) <|
  mF (mn_GI _ _ _) <|
  mF (mn_PI _ _) <|
  mF (mn_PI _ _) <|
  mF (mn_CS _ mc_X10_isWithin _) <|
  mF (mn_If _ _ _) <|
  mF (mn_PL _ _) <|
  mF (mn_RL) <|
  mF (mn_LA _ _) <|
  mF (mn_GR _ _ _) <|
  mF (mn_LA _ _) <|
  mF (mn_GR _ _ _) <|
  mF (mn_LA _ _) <|
  mF (mn_GR _ _ _) <|
  mF (mn_CV _ _ mc_X3_keep _) <|
  mF (mn_LA _ _) <|
  mF (mn_GR _ _ _) <|
  mF (mn_GR _ _ _) <|
  mF (mn_LA _ _) <|
  mF (mn_GR _ _ _) <|
  mF (mn_CS _ mc_X10_copyRow _) <|
  mF (mn_LA _ _) <|
  mF (mn_GR _ _ _) <|
  mF (mn_LA _ _) <|
  mF (mn_LA _ _) <|
  mF (mn_GR _ _ _) <|
  mF (mn_CV _ _ mc_X8_findLowest _) <|
  mF (mn_LA _ _) <|
  mF (mn_GR _ _ _) <|
  mF (mn_LA _ _) <|
  mF (mn_GR _ _ _) <|
  mF (mn_GR _ _ _) <|
  mF (mn_CS _ mc_X10_copyRow _) <|
  mF (mn_PI _ _) <|
  mF (mn_SI _ _) <|
  mF (mn_PI _ _) <|
  mF (mn_SI _ _) <|
  mF (mn_LI _ _) <|
  mF (mn_LA _ _) <|
  mF (mn_GR _ _ _) <|
  mF (mn_GI _ _ _) <|
  mF (mn_Ic _ _ _) <|
  mF (mn_LA _ _) <|
  mF (mn_GR _ _ _) <|
  mF (mn_LI _ _) <|
  mF (mn_IA _) <|
  mF (mn_LA _ _) <|
  mF (mn_GR _ _ _) <|
  mF (mn_LI _ _) <|
  mF (mn_IA _) <|
  mF (mn_Ic _ _ _) <|
  mF (mn_Inc _ _ _) <|
  mF (mn_Inc _ _ _) <|
  mF (mn_Go _) <|
  mF (mn_LI _ _) <|
  mF (mn_I2L _) <|
  mF (mn_RL) <|
  mF0
def C_X10_lowest : mCo := mRun tb_X10_lowest 5
theorem mc_X10_lowest : mMC C_X10_lowest := mRun_mn mt_X10_lowest 5
theorem yi_X10_lowest : mYin yX10_lowest cX10_lowest 5 (some .long) 1 := ⟨wd_49, wd_753, by decide +kernel, by decide⟩
set_option maxRecDepth 100000 in
set_option maxHeartbeats 4000000 in
theorem sd_X10_lowest (l : Launch) (B : mBs) (p : Program) (e : Env) (s : State) (m : MethodId) (args : Array Value) (below : List Frame) (meth : Method) (c : Code) (Q : mQo) (X : mCx l B RX10 cX10_lowest 5 p s m args c) (hr : meth.sig.returnType = (some .long)) (hk : meth.locks = false) (hn : meth.name = "lowest") : ∀ q ∈ tb_X10_lowest, mSnd l B 5 p e (mRm 5 0 0) s m args below meth c (MQ below (mPo B Q) args s 0 0 (mA B)) (fun r h' => (h'.1.2.1 ≤ 0 ∧ h'.1.2.2 ≤ 0) ∧ Q r h') q.2 q.1 :=
  mF (sn_aload_n (pc := 0) (j := 0) X (by decide +kernel) rfl) <|
  mF (sn_iload_n (pc := 1) (j := 1) X (by decide +kernel) rfl) <|
  mF (sn_callV (pc := 2) X mc_X10_puppetOf (me_X10_puppetOf l B) yi_X10_puppetOf wd_425 wd_427 wd_0 (T := TX10) (N := 11) rfl (by decide) (by decide +kernel)) <|
  mF (sn_astore_n (pc := 5) (j := 2) X (by decide +kernel) rfl (by decide)) <|
  mF (sn_aload_n (pc := 6) (j := 2) X (by decide +kernel) rfl) <|
  mF (sn_ifnonnull (pc := 7) (off := 7) X (by decide +kernel) (by decide)) <|
  mF (sn_ldc2 (pc := 10) X (by decide +kernel) wd_432) <|
  mF (sn_lret (pc := 13) X hr hk (by decide +kernel)) <|
  mF (sn_aload_n (pc := 14) (j := 2) X (by decide +kernel) rfl) <|
  mF (sn_getR (pc := 15) X fd_X10_68 (by decide +kernel)) <|
  mF (sn_getI (pc := 18) X fd_X10_72 (by decide +kernel)) <|
  mF (sn_iconst (pc := 21) (n := 1) X (by decide +kernel) (by decide)) <|
  mF (sn_iconst (pc := 22) (n := 2) X (by decide +kernel) (by decide)) <|
  mF (sn_callS (pc := 23) X mc_X10_isWithin (me_X10_isWithin l B) yi_X10_isWithin wd_429 wd_430 (by decide) (by decide +kernel)) <|
  mF (sn_if_ne (pc := 26) (off := 7) X (by decide +kernel) (by decide)) <|
  mF (sn_ldc2 (pc := 29) X (by decide +kernel) wd_449) <|
  mF (sn_lret (pc := 32) X hr hk (by decide +kernel)) <|
  mF (sn_aload_n (pc := 33) (j := 0) X (by decide +kernel) rfl) <|
  mF (sn_getR (pc := 34) X fd_X10_22 (by decide +kernel)) <|
  mF (sn_aload_n (pc := 37) (j := 0) X (by decide +kernel) rfl) <|
  mF (sn_getR (pc := 38) X fd_X10_10 (by decide +kernel)) <|
  mF (sn_aload_n (pc := 41) (j := 0) X (by decide +kernel) rfl) <|
  mF (sn_getR (pc := 42) X fd_X10_16 (by decide +kernel)) <|
  mF (sn_callV (pc := 45) X mc_X3_keep (me_X3_keep l B) yi_X3_keep wd_451 wd_452 wd_453 (T := TX3) (N := 4) rfl (by decide) (by decide +kernel)) <|
  mF (sn_aload_n (pc := 48) (j := 2) X (by decide +kernel) rfl) <|
  mF (sn_getR (pc := 49) X fd_X10_68 (by decide +kernel)) <|
  mF (sn_getR (pc := 52) X fd_X10_156 (by decide +kernel)) <|
  mF (sn_aload_n (pc := 55) (j := 0) X (by decide +kernel) rfl) <|
  mF (sn_getR (pc := 56) X fd_X10_53 (by decide +kernel)) <|
  mF (sn_callS (pc := 59) X mc_X10_copyRow (me_X10_copyRow l B) yi_X10_copyRow wd_749 wd_464 (by decide) (by decide +kernel)) <|
  mF (sn_aload_n (pc := 62) (j := 0) X (by decide +kernel) rfl) <|
  mF (sn_getR (pc := 63) X fd_X10_39 (by decide +kernel)) <|
  mF (sn_aload_n (pc := 66) (j := 2) X (by decide +kernel) rfl) <|
  mF (sn_aload_n (pc := 67) (j := 0) X (by decide +kernel) rfl) <|
  mF (sn_getR (pc := 68) X fd_X10_57 (by decide +kernel)) <|
  mF (sn_callV (pc := 71) X mc_X8_findLowest (me_X8_findLowest l B) yi_X8_findLowest wd_754 wd_755 wd_756 (T := TX8) (N := 1) rfl (by decide) (by decide +kernel)) <|
  mF (sn_aload_n (pc := 74) (j := 0) X (by decide +kernel) rfl) <|
  mF (sn_getR (pc := 75) X fd_X10_57 (by decide +kernel)) <|
  mF (sn_aload_n (pc := 78) (j := 2) X (by decide +kernel) rfl) <|
  mF (sn_getR (pc := 79) X fd_X10_68 (by decide +kernel)) <|
  mF (sn_getR (pc := 82) X fd_X10_156 (by decide +kernel)) <|
  mF (sn_callS (pc := 85) X mc_X10_copyRow (me_X10_copyRow l B) yi_X10_copyRow wd_749 wd_464 (by decide) (by decide +kernel)) <|
  mF (sn_iconst (pc := 88) (n := 0) X (by decide +kernel) (by decide)) <|
  mF (sn_istore_n (pc := 89) (j := 3) X (by decide +kernel) rfl (by decide)) <|
  mF (sn_iconst (pc := 90) (n := 0) X (by decide +kernel) (by decide)) <|
  mF (sn_istore (pc := 91) X (by decide +kernel) (by decide)) <|
  mF (sn_iload (pc := 93) X (by decide +kernel)) <|
  mF (sn_aload_n (pc := 95) (j := 2) X (by decide +kernel) rfl) <|
  mF (sn_getR (pc := 96) X fd_X10_68 (by decide +kernel)) <|
  mF (sn_getI (pc := 99) X fd_X10_72 (by decide +kernel)) <|
  mF (sn_icmp_ge (pc := 102) (off := 29) X (by decide +kernel) (by decide)) <|
  mF (sn_aload_n (pc := 105) (j := 0) X (by decide +kernel) rfl) <|
  mF (sn_getR (pc := 106) X fd_X10_57 (by decide +kernel)) <|
  mF (sn_iload (pc := 109) X (by decide +kernel)) <|
  mF (sn_iaload (pc := 111) X (by decide +kernel)) <|
  mF (sn_aload_n (pc := 112) (j := 0) X (by decide +kernel) rfl) <|
  mF (sn_getR (pc := 113) X fd_X10_53 (by decide +kernel)) <|
  mF (sn_iload (pc := 116) X (by decide +kernel)) <|
  mF (sn_iaload (pc := 118) X (by decide +kernel)) <|
  mF (sn_icmp_eq (pc := 119) (off := 6) X (by decide +kernel) (by decide)) <|
  mF (sn_iinc (pc := 122) (n := 1) X (by decide +kernel) (by decide) (by decide)) <|
  mF (sn_iinc (pc := 125) (n := 1) X (by decide +kernel) (by decide) (by decide)) <|
  mF (sn_goto (pc := 128) (off := (-35)) X (by decide +kernel) (by decide)) <|
  mF (sn_iload_n (pc := 131) (j := 3) X (by decide +kernel) rfl) <|
  mF (sn_i2l (pc := 132) X (by decide +kernel)) <|
  mF (sn_lret (pc := 133) X hr hk (by decide +kernel)) <|
  mF0
theorem me_X10_lowest (l : Launch) (B : mBs) : mMet l B yX10_lowest cX10_lowest 5 (some .long) 5 0 0 C_X10_lowest := mMet_of (own := RX10) (by decide) rfl (fun p e s m args below meth c Q X hr hk hn => sd_X10_lowest l B p e s m args below meth c Q X hr hk hn)
/-! PuppetStage.tick(IIII)J: 34 instructions, depth 2, makes 0 cells of 0 slots -/
def tb_X10_tick : mTb := [(0, aLA 0 1), (1, aLI 1 2), (2, aCV 10 1 C_X10_puppetOf 5), (5, aSA 5 7), (7, aLA 5 9), (9, aNu 28 12), (12, aLI 2 13), (13, aLI 3 14), (14, aCS 2 C_X10_isPlace 17), (17, aIf (fun x => x = 0) 28 20), (20, aLI 4 22), (22, aCS 1 C_X10_isStep 25), (25, aIf (fun x => x = 0) 28 32), (28, aPL (-9000000000000000001) 31), (31, aRL), (32, aLA 5 34), (34, aGR 7 4 37), (37, aGI 2 4 40), (40, aPI 12 42), (42, aIc (fun x y => x < y) 49 45), (45, aPL (-9000000000000000003) 48), (48, aRL), (49, aLA 5 51), (51, aGR 7 4 54), (54, aPI 0 55), (55, aWI 2 5 58), (58, aLA 5 60), (60, aGR 7 4 63), (63, aLI 2 64), (64, aLI 3 65), (65, aLI 4 67), (67, aCV 2 3 C_X2_add 70), (70, aI2L 71), (71, aRL)]
theorem mt_X10_tick : mMT tb_X10_tick :=
  mF (mn_LA _ _) <|
  mF (mn_LI _ _) <|
  mF (mn_CV _ _ mc_X10_puppetOf _) <|
  mF (mn_SA _ _) <|
  mF (mn_LA _ _) <|
  mF (mn_Nu _ _) <|
  mF (mn_LI _ _) <|
  mF (mn_LI _ _) <|
  mF (mn_CS _ mc_X10_isPlace _) <|
  mF (mn_If _ _ _) <|
  mF (mn_LI _ _) <|
  mF (mn_CS _ mc_X10_isStep _) <|
  mF (mn_If _ _ _) <|
  mF (mn_PL _ _) <|
  mF (mn_RL) <|
  mF (mn_LA _ _) <|
  mF (mn_GR _ _ _) <|
  mF (mn_GI _ _ _) <|
  mF (mn_PI _ _) <|
  mF (mn_Ic _ _ _) <|
  mF (mn_PL _ _) <|
  mF (mn_RL) <|
  mF (mn_LA _ _) <|
  mF (mn_GR _ _ _) <|
  mF (mn_PI _ _) <|
  mF (mn_WI _ _ _) <|
  mF (mn_LA _ _) <|
  mF (mn_GR _ _ _) <|
  mF (mn_LI _ _) <|
  mF (mn_LI _ _) <|
  mF (mn_LI _ _) <|
  mF (mn_CV _ _ mc_X2_add _) <|
  mF (mn_I2L _) <|
  mF (mn_RL) <|
  mF0
def C_X10_tick : mCo := mRun tb_X10_tick 6
theorem mc_X10_tick : mMC C_X10_tick := mRun_mn mt_X10_tick 6
theorem yi_X10_tick : mYin yX10_tick cX10_tick 6 (some .long) 4 := ⟨wd_49, wd_764, by decide +kernel, by decide⟩
set_option maxRecDepth 100000 in
set_option maxHeartbeats 4000000 in
theorem sd_X10_tick (l : Launch) (B : mBs) (p : Program) (e : Env) (s : State) (m : MethodId) (args : Array Value) (below : List Frame) (meth : Method) (c : Code) (Q : mQo) (X : mCx l B RX10 cX10_tick 6 p s m args c) (hr : meth.sig.returnType = (some .long)) (hk : meth.locks = false) (hn : meth.name = "tick") : ∀ q ∈ tb_X10_tick, mSnd l B 6 p e (mRm 2 0 0) s m args below meth c (MQ below (mPo B Q) args s 0 0 (mA B)) (fun r h' => (h'.1.2.1 ≤ 0 ∧ h'.1.2.2 ≤ 0) ∧ Q r h') q.2 q.1 :=
  mF (sn_aload_n (pc := 0) (j := 0) X (by decide +kernel) rfl) <|
  mF (sn_iload_n (pc := 1) (j := 1) X (by decide +kernel) rfl) <|
  mF (sn_callV (pc := 2) X mc_X10_puppetOf (me_X10_puppetOf l B) yi_X10_puppetOf wd_425 wd_427 wd_0 (T := TX10) (N := 11) rfl (by decide) (by decide +kernel)) <|
  mF (sn_astore (pc := 5) X (by decide +kernel) (by decide)) <|
  mF (sn_aload (pc := 7) X (by decide +kernel)) <|
  mF (sn_ifnull (pc := 9) (off := 19) X (by decide +kernel) (by decide)) <|
  mF (sn_iload_n (pc := 12) (j := 2) X (by decide +kernel) rfl) <|
  mF (sn_iload_n (pc := 13) (j := 3) X (by decide +kernel) rfl) <|
  mF (sn_callS (pc := 14) X mc_X10_isPlace (me_X10_isPlace l B) yi_X10_isPlace wd_525 wd_526 (by decide) (by decide +kernel)) <|
  mF (sn_if_eq (pc := 17) (off := 11) X (by decide +kernel) (by decide)) <|
  mF (sn_iload (pc := 20) X (by decide +kernel)) <|
  mF (sn_callS (pc := 22) X mc_X10_isStep (me_X10_isStep l B) yi_X10_isStep wd_540 wd_541 (by decide) (by decide +kernel)) <|
  mF (sn_if_ne (pc := 25) (off := 7) X (by decide +kernel) (by decide)) <|
  mF (sn_ldc2 (pc := 28) X (by decide +kernel) wd_432) <|
  mF (sn_lret (pc := 31) X hr hk (by decide +kernel)) <|
  mF (sn_aload (pc := 32) X (by decide +kernel)) <|
  mF (sn_getR (pc := 34) X fd_X10_102 (by decide +kernel)) <|
  mF (sn_getI (pc := 37) X fd_X10_197 (by decide +kernel)) <|
  mF (sn_bipush (pc := 40) (n := 12) X (by decide +kernel) (by decide)) <|
  mF (sn_icmp_lt (pc := 42) (off := 7) X (by decide +kernel) (by decide)) <|
  mF (sn_ldc2 (pc := 45) X (by decide +kernel) wd_450) <|
  mF (sn_lret (pc := 48) X hr hk (by decide +kernel)) <|
  mF (sn_aload (pc := 49) X (by decide +kernel)) <|
  mF (sn_getR (pc := 51) X fd_X10_102 (by decide +kernel)) <|
  mF (sn_iconst (pc := 54) (n := 0) X (by decide +kernel) (by decide)) <|
  mF (sn_putI (pc := 55) X fd_X10_106 ⟨tyX2_ok, nmX2⟩ rfl rfl (by decide +kernel)) <|
  mF (sn_aload (pc := 58) X (by decide +kernel)) <|
  mF (sn_getR (pc := 60) X fd_X10_102 (by decide +kernel)) <|
  mF (sn_iload_n (pc := 63) (j := 2) X (by decide +kernel) rfl) <|
  mF (sn_iload_n (pc := 64) (j := 3) X (by decide +kernel) rfl) <|
  mF (sn_iload (pc := 65) X (by decide +kernel)) <|
  mF (sn_callV (pc := 67) X mc_X2_add (me_X2_add l B) yi_X2_add wd_765 wd_766 wd_767 (T := TX2) (N := 6) rfl (by decide) (by decide +kernel)) <|
  mF (sn_i2l (pc := 70) X (by decide +kernel)) <|
  mF (sn_lret (pc := 71) X hr hk (by decide +kernel)) <|
  mF0
theorem me_X10_tick (l : Launch) (B : mBs) : mMet l B yX10_tick cX10_tick 6 (some .long) 2 0 0 C_X10_tick := mMet_of (own := RX10) (by decide) rfl (fun p e s m args below meth c Q X hr hk hn => sd_X10_tick l B p e s m args below meth c Q X hr hk hn)
/-! PuppetStage.calm(I)J: 23 instructions, depth 1, makes 0 cells of 0 slots -/
def tb_X10_calm : mTb := [(0, aLA 0 1), (1, aLI 1 2), (2, aCV 10 1 C_X10_puppetOf 5), (5, aSA 2 6), (6, aLA 2 7), (7, aNn 14 10), (10, aPL (-9000000000000000001) 13), (13, aRL), (14, aLA 2 15), (15, aGR 7 4 18), (18, aGI 2 4 21), (21, aSI 3 22), (22, aLA 2 23), (23, aGR 7 4 26), (26, aPI 0 27), (27, aWI 2 4 30), (30, aLA 2 31), (31, aGR 7 4 34), (34, aPI 0 35), (35, aWI 2 5 38), (38, aLI 3 39), (39, aI2L 40), (40, aRL)]
theorem mt_X10_calm : mMT tb_X10_calm :=
  mF (mn_LA _ _) <|
  mF (mn_LI _ _) <|
  mF (mn_CV _ _ mc_X10_puppetOf _) <|
  mF (mn_SA _ _) <|
  mF (mn_LA _ _) <|
  mF (mn_Nn _ _) <|
  mF (mn_PL _ _) <|
  mF (mn_RL) <|
  mF (mn_LA _ _) <|
  mF (mn_GR _ _ _) <|
  mF (mn_GI _ _ _) <|
  mF (mn_SI _ _) <|
  mF (mn_LA _ _) <|
  mF (mn_GR _ _ _) <|
  mF (mn_PI _ _) <|
  mF (mn_WI _ _ _) <|
  mF (mn_LA _ _) <|
  mF (mn_GR _ _ _) <|
  mF (mn_PI _ _) <|
  mF (mn_WI _ _ _) <|
  mF (mn_LI _ _) <|
  mF (mn_I2L _) <|
  mF (mn_RL) <|
  mF0
def C_X10_calm : mCo := mRun tb_X10_calm 4
theorem mc_X10_calm : mMC C_X10_calm := mRun_mn mt_X10_calm 4
theorem yi_X10_calm : mYin yX10_calm cX10_calm 4 (some .long) 1 := ⟨wd_49, wd_772, by decide +kernel, by decide⟩
set_option maxRecDepth 100000 in
set_option maxHeartbeats 4000000 in
theorem sd_X10_calm (l : Launch) (B : mBs) (p : Program) (e : Env) (s : State) (m : MethodId) (args : Array Value) (below : List Frame) (meth : Method) (c : Code) (Q : mQo) (X : mCx l B RX10 cX10_calm 4 p s m args c) (hr : meth.sig.returnType = (some .long)) (hk : meth.locks = false) (hn : meth.name = "calm") : ∀ q ∈ tb_X10_calm, mSnd l B 4 p e (mRm 1 0 0) s m args below meth c (MQ below (mPo B Q) args s 0 0 (mA B)) (fun r h' => (h'.1.2.1 ≤ 0 ∧ h'.1.2.2 ≤ 0) ∧ Q r h') q.2 q.1 :=
  mF (sn_aload_n (pc := 0) (j := 0) X (by decide +kernel) rfl) <|
  mF (sn_iload_n (pc := 1) (j := 1) X (by decide +kernel) rfl) <|
  mF (sn_callV (pc := 2) X mc_X10_puppetOf (me_X10_puppetOf l B) yi_X10_puppetOf wd_425 wd_427 wd_0 (T := TX10) (N := 11) rfl (by decide) (by decide +kernel)) <|
  mF (sn_astore_n (pc := 5) (j := 2) X (by decide +kernel) rfl (by decide)) <|
  mF (sn_aload_n (pc := 6) (j := 2) X (by decide +kernel) rfl) <|
  mF (sn_ifnonnull (pc := 7) (off := 7) X (by decide +kernel) (by decide)) <|
  mF (sn_ldc2 (pc := 10) X (by decide +kernel) wd_432) <|
  mF (sn_lret (pc := 13) X hr hk (by decide +kernel)) <|
  mF (sn_aload_n (pc := 14) (j := 2) X (by decide +kernel) rfl) <|
  mF (sn_getR (pc := 15) X fd_X10_102 (by decide +kernel)) <|
  mF (sn_getI (pc := 18) X fd_X10_197 (by decide +kernel)) <|
  mF (sn_istore_n (pc := 21) (j := 3) X (by decide +kernel) rfl (by decide)) <|
  mF (sn_aload_n (pc := 22) (j := 2) X (by decide +kernel) rfl) <|
  mF (sn_getR (pc := 23) X fd_X10_102 (by decide +kernel)) <|
  mF (sn_iconst (pc := 26) (n := 0) X (by decide +kernel) (by decide)) <|
  mF (sn_putI (pc := 27) X fd_X10_197 ⟨tyX2_ok, nmX2⟩ rfl rfl (by decide +kernel)) <|
  mF (sn_aload_n (pc := 30) (j := 2) X (by decide +kernel) rfl) <|
  mF (sn_getR (pc := 31) X fd_X10_102 (by decide +kernel)) <|
  mF (sn_iconst (pc := 34) (n := 0) X (by decide +kernel) (by decide)) <|
  mF (sn_putI (pc := 35) X fd_X10_106 ⟨tyX2_ok, nmX2⟩ rfl rfl (by decide +kernel)) <|
  mF (sn_iload_n (pc := 38) (j := 3) X (by decide +kernel) rfl) <|
  mF (sn_i2l (pc := 39) X (by decide +kernel)) <|
  mF (sn_lret (pc := 40) X hr hk (by decide +kernel)) <|
  mF0
theorem me_X10_calm (l : Launch) (B : mBs) : mMet l B yX10_calm cX10_calm 4 (some .long) 1 0 0 C_X10_calm := mMet_of (own := RX10) (by decide) rfl (fun p e s m args below meth c Q X hr hk hn => sd_X10_calm l B p e s m args below meth c Q X hr hk hn)
/-! PuppetStage.play(II)J: 82 instructions, depth 7, makes 0 cells of 0 slots -/
def tb_X10_play_c0 : mTb := [(0, aLA 0 1), (1, aLI 1 2), (2, aCV 10 1 C_X10_puppetOf 5), (5, aSA 3 6), (6, aLA 3 7), (7, aNu 20 10), (10, aLI 2 11), (11, aPI 1 12), (12, aPI 100 14), (14, aCS 3 C_X10_isWithin 17), (17, aIf (fun x => x = 0) 20 24), (20, aPL (-9000000000000000001) 23), (23, aRL), (24, aLA 3 25), (25, aGR 7 4 28), (28, aGI 2 4 31), (31, aIf (fun x => x ≤ 0) 44 34), (34, aLA 3 35), (35, aGR 7 0 38), (38, aGI 5 4 41), (41, aIf (fun x => 0 < x) 48 44), (44, aPL (-9000000000000000002) 47), (47, aRL), (48, aLA 0 49), (49, aGR 10 2 52), (52, aLA 0 53), (53, aGR 10 0 56), (56, aLA 0 57), (57, aGR 10 1 60), (60, aCV 3 2 C_X3_keep 63), (63, aPL 0 64), (64, aSL 4 66), (66, aPI 0 67), (67, aSI 6 69), (69, aLI 6 71), (71, aLA 3 72), (72, aGR 7 4 75), (75, aGI 2 4 78), (78, aIc (fun x y => y ≤ x) 152 81), (81, aLA 3 82), (82, aGR 7 2 85), (85, aLA 3 86), (86, aGR 7 4 89), (89, aGR 2 0 92), (92, aLI 6 94), (94, aIA 95), (95, aLA 3 96), (96, aGR 7 4 99), (99, aGR 2 1 102), (102, aLI 6 104), (104, aIA 105), (105, aLA 3 106), (106, aGR 7 4 109), (109, aGR 2 2 112), (112, aLI 6 114), (114, aIA 115), (115, aCV 0 3 C_X0_put 118), (118, aLL 4 120), (120, aLA 0 121), (121, aGR 10 5 124), (124, aLA 3 125), (125, aLI 2 126), (126, aCV 8 2 C_X8_settle 129), (129, aI2L 130), (130, aBL (fun x y => x + y) 131), (131, aSL 4 133), (133, aLA 3 134), (134, aGR 7 4 137), (137, aLI 6 139), (139, aLA 3 140)]
theorem mt_X10_play_c0 : mMT tb_X10_play_c0 :=
  mF (mn_LA _ _) <|
  mF (mn_LI _ _) <|
  mF (mn_CV _ _ mc_X10_puppetOf _) <|
  mF (mn_SA _ _) <|
  mF (mn_LA _ _) <|
  mF (mn_Nu _ _) <|
  mF (mn_LI _ _) <|
  mF (mn_PI _ _) <|
  mF (mn_PI _ _) <|
  mF (mn_CS _ mc_X10_isWithin _) <|
  mF (mn_If _ _ _) <|
  mF (mn_PL _ _) <|
  mF (mn_RL) <|
  mF (mn_LA _ _) <|
  mF (mn_GR _ _ _) <|
  mF (mn_GI _ _ _) <|
  mF (mn_If _ _ _) <|
  mF (mn_LA _ _) <|
  mF (mn_GR _ _ _) <|
  mF (mn_GI _ _ _) <|
  mF (mn_If _ _ _) <|
  mF (mn_PL _ _) <|
  mF (mn_RL) <|
  mF (mn_LA _ _) <|
  mF (mn_GR _ _ _) <|
  mF (mn_LA _ _) <|
  mF (mn_GR _ _ _) <|
  mF (mn_LA _ _) <|
  mF (mn_GR _ _ _) <|
  mF (mn_CV _ _ mc_X3_keep _) <|
  mF (mn_PL _ _) <|
  mF (mn_SL _ _) <|
  mF (mn_PI _ _) <|
  mF (mn_SI _ _) <|
  mF (mn_LI _ _) <|
  mF (mn_LA _ _) <|
  mF (mn_GR _ _ _) <|
  mF (mn_GI _ _ _) <|
  mF (mn_Ic _ _ _) <|
  mF (mn_LA _ _) <|
  mF (mn_GR _ _ _) <|
  mF (mn_LA _ _) <|
  mF (mn_GR _ _ _) <|
  mF (mn_GR _ _ _) <|
  mF (mn_LI _ _) <|
  mF (mn_IA _) <|
  mF (mn_LA _ _) <|
  mF (mn_GR _ _ _) <|
  mF (mn_GR _ _ _) <|
  mF (mn_LI _ _) <|
  mF (mn_IA _) <|
  mF (mn_LA _ _) <|
  mF (mn_GR _ _ _) <|
  mF (mn_GR _ _ _) <|
  mF (mn_LI _ _) <|
  mF (mn_IA _) <|
  mF (mn_CV _ _ mc_X0_put _) <|
  mF (mn_LL _ _) <|
  mF (mn_LA _ _) <|
  mF (mn_GR _ _ _) <|
  mF (mn_LA _ _) <|
  mF (mn_LI _ _) <|
  mF (mn_CV _ _ mc_X8_settle _) <|
  mF (mn_I2L _) <|
  mF (mn_BL _ _) <|
  mF (mn_SL _ _) <|
  mF (mn_LA _ _) <|
  mF (mn_GR _ _ _) <|
  mF (mn_LI _ _) <|
  mF (mn_LA _ _) <|
  mF0
def tb_X10_play_c1 : mTb := [(140, aGR 7 0 143), (143, aCV 2 2 C_X2_keepPose 146), (146, aInc 6 1 149), (149, aGo 69), (152, aLA 3 153), (153, aGR 7 4 156), (156, aLA 3 157), (157, aGR 7 4 160), (160, aGI 2 4 163), (163, aWI 2 5 166), (166, aLL 4 168), (168, aRL)]
theorem mt_X10_play_c1 : mMT tb_X10_play_c1 :=
  mF (mn_GR _ _ _) <|
  mF (mn_CV _ _ mc_X2_keepPose _) <|
  mF (mn_Inc _ _ _) <|
  mF (mn_Go _) <|
  mF (mn_LA _ _) <|
  mF (mn_GR _ _ _) <|
  mF (mn_LA _ _) <|
  mF (mn_GR _ _ _) <|
  mF (mn_GI _ _ _) <|
  mF (mn_WI _ _ _) <|
  mF (mn_LL _ _) <|
  mF (mn_RL) <|
  mF0
def tb_X10_play : mTb := tb_X10_play_c0 ++ (tb_X10_play_c1)
theorem mt_X10_play : mMT tb_X10_play := mFA mt_X10_play_c0 mt_X10_play_c1
def C_X10_play : mCo := mRun tb_X10_play 7
theorem mc_X10_play : mMC C_X10_play := mRun_mn mt_X10_play 7
theorem yi_X10_play : mYin yX10_play cX10_play 7 (some .long) 2 := ⟨wd_49, wd_776, by decide +kernel, by decide⟩
set_option maxRecDepth 100000 in
set_option maxHeartbeats 4000000 in
theorem sd_X10_play_c0 (l : Launch) (B : mBs) (p : Program) (e : Env) (s : State) (m : MethodId) (args : Array Value) (below : List Frame) (meth : Method) (c : Code) (Q : mQo) (X : mCx l B RX10 cX10_play 7 p s m args c) (hr : meth.sig.returnType = (some .long)) (hk : meth.locks = false) (hn : meth.name = "play") : ∀ q ∈ tb_X10_play_c0, mSnd l B 7 p e (mRm 7 0 0) s m args below meth c (MQ below (mPo B Q) args s 0 0 (mA B)) (fun r h' => (h'.1.2.1 ≤ 0 ∧ h'.1.2.2 ≤ 0) ∧ Q r h') q.2 q.1 :=
  mF (sn_aload_n (pc := 0) (j := 0) X (by decide +kernel) rfl) <|
  mF (sn_iload_n (pc := 1) (j := 1) X (by decide +kernel) rfl) <|
  mF (sn_callV (pc := 2) X mc_X10_puppetOf (me_X10_puppetOf l B) yi_X10_puppetOf wd_425 wd_427 wd_0 (T := TX10) (N := 11) rfl (by decide) (by decide +kernel)) <|
  mF (sn_astore_n (pc := 5) (j := 3) X (by decide +kernel) rfl (by decide)) <|
  mF (sn_aload_n (pc := 6) (j := 3) X (by decide +kernel) rfl) <|
  mF (sn_ifnull (pc := 7) (off := 13) X (by decide +kernel) (by decide)) <|
  mF (sn_iload_n (pc := 10) (j := 2) X (by decide +kernel) rfl) <|
  mF (sn_iconst (pc := 11) (n := 1) X (by decide +kernel) (by decide)) <|
  mF (sn_bipush (pc := 12) (n := 100) X (by decide +kernel) (by decide)) <|
  mF (sn_callS (pc := 14) X mc_X10_isWithin (me_X10_isWithin l B) yi_X10_isWithin wd_429 wd_430 (by decide) (by decide +kernel)) <|
  mF (sn_if_ne (pc := 17) (off := 7) X (by decide +kernel) (by decide)) <|
  mF (sn_ldc2 (pc := 20) X (by decide +kernel) wd_432) <|
  mF (sn_lret (pc := 23) X hr hk (by decide +kernel)) <|
  mF (sn_aload_n (pc := 24) (j := 3) X (by decide +kernel) rfl) <|
  mF (sn_getR (pc := 25) X fd_X10_102 (by decide +kernel)) <|
  mF (sn_getI (pc := 28) X fd_X10_197 (by decide +kernel)) <|
  mF (sn_if_le (pc := 31) (off := 13) X (by decide +kernel) (by decide)) <|
  mF (sn_aload_n (pc := 34) (j := 3) X (by decide +kernel) rfl) <|
  mF (sn_getR (pc := 35) X fd_X10_68 (by decide +kernel)) <|
  mF (sn_getI (pc := 38) X fd_X10_72 (by decide +kernel)) <|
  mF (sn_if_gt (pc := 41) (off := 7) X (by decide +kernel) (by decide)) <|
  mF (sn_ldc2 (pc := 44) X (by decide +kernel) wd_449) <|
  mF (sn_lret (pc := 47) X hr hk (by decide +kernel)) <|
  mF (sn_aload_n (pc := 48) (j := 0) X (by decide +kernel) rfl) <|
  mF (sn_getR (pc := 49) X fd_X10_22 (by decide +kernel)) <|
  mF (sn_aload_n (pc := 52) (j := 0) X (by decide +kernel) rfl) <|
  mF (sn_getR (pc := 53) X fd_X10_10 (by decide +kernel)) <|
  mF (sn_aload_n (pc := 56) (j := 0) X (by decide +kernel) rfl) <|
  mF (sn_getR (pc := 57) X fd_X10_16 (by decide +kernel)) <|
  mF (sn_callV (pc := 60) X mc_X3_keep (me_X3_keep l B) yi_X3_keep wd_451 wd_452 wd_453 (T := TX3) (N := 4) rfl (by decide) (by decide +kernel)) <|
  mF (sn_lconst (pc := 63) (n := 0) X (by decide +kernel) (by decide)) <|
  mF (sn_lstore (pc := 64) X (by decide +kernel) (by decide)) <|
  mF (sn_iconst (pc := 66) (n := 0) X (by decide +kernel) (by decide)) <|
  mF (sn_istore (pc := 67) X (by decide +kernel) (by decide)) <|
  mF (sn_iload (pc := 69) X (by decide +kernel)) <|
  mF (sn_aload_n (pc := 71) (j := 3) X (by decide +kernel) rfl) <|
  mF (sn_getR (pc := 72) X fd_X10_102 (by decide +kernel)) <|
  mF (sn_getI (pc := 75) X fd_X10_197 (by decide +kernel)) <|
  mF (sn_icmp_ge (pc := 78) (off := 74) X (by decide +kernel) (by decide)) <|
  mF (sn_aload_n (pc := 81) (j := 3) X (by decide +kernel) rfl) <|
  mF (sn_getR (pc := 82) X fd_X10_165 (by decide +kernel)) <|
  mF (sn_aload_n (pc := 85) (j := 3) X (by decide +kernel) rfl) <|
  mF (sn_getR (pc := 86) X fd_X10_102 (by decide +kernel)) <|
  mF (sn_getR (pc := 89) X fd_X10_312 (by decide +kernel)) <|
  mF (sn_iload (pc := 92) X (by decide +kernel)) <|
  mF (sn_iaload (pc := 94) X (by decide +kernel)) <|
  mF (sn_aload_n (pc := 95) (j := 3) X (by decide +kernel) rfl) <|
  mF (sn_getR (pc := 96) X fd_X10_102 (by decide +kernel)) <|
  mF (sn_getR (pc := 99) X fd_X10_314 (by decide +kernel)) <|
  mF (sn_iload (pc := 102) X (by decide +kernel)) <|
  mF (sn_iaload (pc := 104) X (by decide +kernel)) <|
  mF (sn_aload_n (pc := 105) (j := 3) X (by decide +kernel) rfl) <|
  mF (sn_getR (pc := 106) X fd_X10_102 (by decide +kernel)) <|
  mF (sn_getR (pc := 109) X fd_X10_316 (by decide +kernel)) <|
  mF (sn_iload (pc := 112) X (by decide +kernel)) <|
  mF (sn_iaload (pc := 114) X (by decide +kernel)) <|
  mF (sn_callV (pc := 115) X mc_X0_put (me_X0_put l B) yi_X0_put wd_554 wd_483 wd_484 (T := TX0) (N := 5) rfl (by decide) (by decide +kernel)) <|
  mF (sn_lload (pc := 118) X (by decide +kernel)) <|
  mF (sn_aload_n (pc := 120) (j := 0) X (by decide +kernel) rfl) <|
  mF (sn_getR (pc := 121) X fd_X10_39 (by decide +kernel)) <|
  mF (sn_aload_n (pc := 124) (j := 3) X (by decide +kernel) rfl) <|
  mF (sn_iload_n (pc := 125) (j := 2) X (by decide +kernel) rfl) <|
  mF (sn_callV (pc := 126) X mc_X8_settle (me_X8_settle l B) yi_X8_settle wd_717 wd_718 wd_719 (T := TX8) (N := 1) rfl (by decide) (by decide +kernel)) <|
  mF (sn_i2l (pc := 129) X (by decide +kernel)) <|
  mF (sn_ladd (pc := 130) X (by decide +kernel)) <|
  mF (sn_lstore (pc := 131) X (by decide +kernel) (by decide)) <|
  mF (sn_aload_n (pc := 133) (j := 3) X (by decide +kernel) rfl) <|
  mF (sn_getR (pc := 134) X fd_X10_102 (by decide +kernel)) <|
  mF (sn_iload (pc := 137) X (by decide +kernel)) <|
  mF (sn_aload_n (pc := 139) (j := 3) X (by decide +kernel) rfl) <|
  mF0
set_option maxRecDepth 100000 in
set_option maxHeartbeats 4000000 in
theorem sd_X10_play_c1 (l : Launch) (B : mBs) (p : Program) (e : Env) (s : State) (m : MethodId) (args : Array Value) (below : List Frame) (meth : Method) (c : Code) (Q : mQo) (X : mCx l B RX10 cX10_play 7 p s m args c) (hr : meth.sig.returnType = (some .long)) (hk : meth.locks = false) (hn : meth.name = "play") : ∀ q ∈ tb_X10_play_c1, mSnd l B 7 p e (mRm 7 0 0) s m args below meth c (MQ below (mPo B Q) args s 0 0 (mA B)) (fun r h' => (h'.1.2.1 ≤ 0 ∧ h'.1.2.2 ≤ 0) ∧ Q r h') q.2 q.1 :=
  mF (sn_getR (pc := 140) X fd_X10_68 (by decide +kernel)) <|
  mF (sn_callV (pc := 143) X mc_X2_keepPose (me_X2_keepPose l B) yi_X2_keepPose wd_777 wd_778 wd_779 (T := TX2) (N := 6) rfl (by decide) (by decide +kernel)) <|
  mF (sn_iinc (pc := 146) (n := 1) X (by decide +kernel) (by decide) (by decide)) <|
  mF (sn_goto (pc := 149) (off := (-80)) X (by decide +kernel) (by decide)) <|
  mF (sn_aload_n (pc := 152) (j := 3) X (by decide +kernel) rfl) <|
  mF (sn_getR (pc := 153) X fd_X10_102 (by decide +kernel)) <|
  mF (sn_aload_n (pc := 156) (j := 3) X (by decide +kernel) rfl) <|
  mF (sn_getR (pc := 157) X fd_X10_102 (by decide +kernel)) <|
  mF (sn_getI (pc := 160) X fd_X10_197 (by decide +kernel)) <|
  mF (sn_putI (pc := 163) X fd_X10_106 ⟨tyX2_ok, nmX2⟩ rfl rfl (by decide +kernel)) <|
  mF (sn_lload (pc := 166) X (by decide +kernel)) <|
  mF (sn_lret (pc := 168) X hr hk (by decide +kernel)) <|
  mF0
theorem sd_X10_play (l : Launch) (B : mBs) (p : Program) (e : Env) (s : State) (m : MethodId) (args : Array Value) (below : List Frame) (meth : Method) (c : Code) (Q : mQo) (X : mCx l B RX10 cX10_play 7 p s m args c) (hr : meth.sig.returnType = (some .long)) (hk : meth.locks = false) (hn : meth.name = "play") : ∀ q ∈ tb_X10_play, mSnd l B 7 p e (mRm 7 0 0) s m args below meth c (MQ below (mPo B Q) args s 0 0 (mA B)) (fun r h' => (h'.1.2.1 ≤ 0 ∧ h'.1.2.2 ≤ 0) ∧ Q r h') q.2 q.1 := mFA (sd_X10_play_c0 l B p e s m args below meth c Q X hr hk hn) (sd_X10_play_c1 l B p e s m args below meth c Q X hr hk hn)
theorem me_X10_play (l : Launch) (B : mBs) : mMet l B yX10_play cX10_play 7 (some .long) 7 0 0 C_X10_play := mMet_of (own := RX10) (by decide) rfl (fun p e s m args below meth c Q X hr hk hn => sd_X10_play l B p e s m args below meth c Q X hr hk hn)
/-! PuppetStage.pose(III)J: 29 instructions, depth 1, makes 0 cells of 0 slots -/
def tb_X10_pose : mTb := [(0, aLA 0 1), (1, aLI 1 2), (2, aCV 10 1 C_X10_puppetOf 5), (5, aSA 4 7), (7, aLA 4 9), (9, aNu 24 12), (12, aLA 4 14), (14, aGR 7 0 17), (17, aLI 3 18), (18, aCV 5 1 C_X5_has 21), (21, aIf (fun x => x = 0) 24 28), (24, aPL (-9000000000000000001) 27), (27, aRL), (28, aLI 2 29), (29, aIf (fun x => x < 0) 44 32), (32, aLI 2 33), (33, aLA 4 35), (35, aGR 7 4 38), (38, aGI 2 5 41), (41, aIc (fun x y => x < y) 48 44), (44, aPL (-9000000000000000005) 47), (47, aRL), (48, aLA 4 50), (50, aGR 7 4 53), (53, aLI 2 54), (54, aLI 3 55), (55, aCV 2 2 C_X2_bendOf 58), (58, aI2L 59), (59, aRL)]
theorem mt_X10_pose : mMT tb_X10_pose :=
  mF (mn_LA _ _) <|
  mF (mn_LI _ _) <|
  mF (mn_CV _ _ mc_X10_puppetOf _) <|
  mF (mn_SA _ _) <|
  mF (mn_LA _ _) <|
  mF (mn_Nu _ _) <|
  mF (mn_LA _ _) <|
  mF (mn_GR _ _ _) <|
  mF (mn_LI _ _) <|
  mF (mn_CV _ _ mc_X5_has _) <|
  mF (mn_If _ _ _) <|
  mF (mn_PL _ _) <|
  mF (mn_RL) <|
  mF (mn_LI _ _) <|
  mF (mn_If _ _ _) <|
  mF (mn_LI _ _) <|
  mF (mn_LA _ _) <|
  mF (mn_GR _ _ _) <|
  mF (mn_GI _ _ _) <|
  mF (mn_Ic _ _ _) <|
  mF (mn_PL _ _) <|
  mF (mn_RL) <|
  mF (mn_LA _ _) <|
  mF (mn_GR _ _ _) <|
  mF (mn_LI _ _) <|
  mF (mn_LI _ _) <|
  mF (mn_CV _ _ mc_X2_bendOf _) <|
  mF (mn_I2L _) <|
  mF (mn_RL) <|
  mF0
def C_X10_pose : mCo := mRun tb_X10_pose 5
theorem mc_X10_pose : mMC C_X10_pose := mRun_mn mt_X10_pose 5
theorem yi_X10_pose : mYin yX10_pose cX10_pose 5 (some .long) 3 := ⟨wd_49, wd_784, by decide +kernel, by decide⟩
set_option maxRecDepth 100000 in
set_option maxHeartbeats 4000000 in
theorem sd_X10_pose (l : Launch) (B : mBs) (p : Program) (e : Env) (s : State) (m : MethodId) (args : Array Value) (below : List Frame) (meth : Method) (c : Code) (Q : mQo) (X : mCx l B RX10 cX10_pose 5 p s m args c) (hr : meth.sig.returnType = (some .long)) (hk : meth.locks = false) (hn : meth.name = "pose") : ∀ q ∈ tb_X10_pose, mSnd l B 5 p e (mRm 1 0 0) s m args below meth c (MQ below (mPo B Q) args s 0 0 (mA B)) (fun r h' => (h'.1.2.1 ≤ 0 ∧ h'.1.2.2 ≤ 0) ∧ Q r h') q.2 q.1 :=
  mF (sn_aload_n (pc := 0) (j := 0) X (by decide +kernel) rfl) <|
  mF (sn_iload_n (pc := 1) (j := 1) X (by decide +kernel) rfl) <|
  mF (sn_callV (pc := 2) X mc_X10_puppetOf (me_X10_puppetOf l B) yi_X10_puppetOf wd_425 wd_427 wd_0 (T := TX10) (N := 11) rfl (by decide) (by decide +kernel)) <|
  mF (sn_astore (pc := 5) X (by decide +kernel) (by decide)) <|
  mF (sn_aload (pc := 7) X (by decide +kernel)) <|
  mF (sn_ifnull (pc := 9) (off := 15) X (by decide +kernel) (by decide)) <|
  mF (sn_aload (pc := 12) X (by decide +kernel)) <|
  mF (sn_getR (pc := 14) X fd_X10_68 (by decide +kernel)) <|
  mF (sn_iload_n (pc := 17) (j := 3) X (by decide +kernel) rfl) <|
  mF (sn_callV (pc := 18) X mc_X5_has (me_X5_has l B) yi_X5_has wd_546 wd_547 wd_548 (T := TX5) (N := 7) rfl (by decide) (by decide +kernel)) <|
  mF (sn_if_ne (pc := 21) (off := 7) X (by decide +kernel) (by decide)) <|
  mF (sn_ldc2 (pc := 24) X (by decide +kernel) wd_432) <|
  mF (sn_lret (pc := 27) X hr hk (by decide +kernel)) <|
  mF (sn_iload_n (pc := 28) (j := 2) X (by decide +kernel) rfl) <|
  mF (sn_if_lt (pc := 29) (off := 15) X (by decide +kernel) (by decide)) <|
  mF (sn_iload_n (pc := 32) (j := 2) X (by decide +kernel) rfl) <|
  mF (sn_aload (pc := 33) X (by decide +kernel)) <|
  mF (sn_getR (pc := 35) X fd_X10_102 (by decide +kernel)) <|
  mF (sn_getI (pc := 38) X fd_X10_106 (by decide +kernel)) <|
  mF (sn_icmp_lt (pc := 41) (off := 7) X (by decide +kernel) (by decide)) <|
  mF (sn_ldc2 (pc := 44) X (by decide +kernel) wd_574) <|
  mF (sn_lret (pc := 47) X hr hk (by decide +kernel)) <|
  mF (sn_aload (pc := 48) X (by decide +kernel)) <|
  mF (sn_getR (pc := 50) X fd_X10_102 (by decide +kernel)) <|
  mF (sn_iload_n (pc := 53) (j := 2) X (by decide +kernel) rfl) <|
  mF (sn_iload_n (pc := 54) (j := 3) X (by decide +kernel) rfl) <|
  mF (sn_callV (pc := 55) X mc_X2_bendOf (me_X2_bendOf l B) yi_X2_bendOf wd_785 wd_786 wd_787 (T := TX2) (N := 6) rfl (by decide) (by decide +kernel)) <|
  mF (sn_i2l (pc := 58) X (by decide +kernel)) <|
  mF (sn_lret (pc := 59) X hr hk (by decide +kernel)) <|
  mF0
theorem me_X10_pose (l : Launch) (B : mBs) : mMet l B yX10_pose cX10_pose 5 (some .long) 1 0 0 C_X10_pose := mMet_of (own := RX10) (by decide) rfl (fun p e s m args below meth c Q X hr hk hn => sd_X10_pose l B p e s m args below meth c Q X hr hk hn)
/-! PuppetStage.round(I)J: 25 instructions, depth 2, makes 0 cells of 0 slots -/
def tb_X10_round : mTb := [(0, aLA 0 1), (1, aLI 1 2), (2, aCV 10 1 C_X10_puppetOf 5), (5, aSA 2 6), (6, aLA 2 7), (7, aNn 14 10), (10, aPL (-9000000000000000001) 13), (13, aRL), (14, aLA 2 15), (15, aGR 7 4 18), (18, aGI 2 5 21), (21, aIf (fun x => 0 < x) 28 24), (24, aPL (-9000000000000000002) 27), (27, aRL), (28, aLA 2 29), (29, aGR 7 4 32), (32, aLA 2 33), (33, aGR 7 0 36), (36, aGI 5 4 39), (39, aCV 2 1 C_X2_comesRound 42), (42, aIf (fun x => x = 0) 49 45), (45, aPL 1 46), (46, aGo 50), (49, aPL 0 50), (50, aRL)]
theorem mt_X10_round : mMT tb_X10_round :=
  mF (mn_LA _ _) <|
  mF (mn_LI _ _) <|
  mF (mn_CV _ _ mc_X10_puppetOf _) <|
  mF (mn_SA _ _) <|
  mF (mn_LA _ _) <|
  mF (mn_Nn _ _) <|
  mF (mn_PL _ _) <|
  mF (mn_RL) <|
  mF (mn_LA _ _) <|
  mF (mn_GR _ _ _) <|
  mF (mn_GI _ _ _) <|
  mF (mn_If _ _ _) <|
  mF (mn_PL _ _) <|
  mF (mn_RL) <|
  mF (mn_LA _ _) <|
  mF (mn_GR _ _ _) <|
  mF (mn_LA _ _) <|
  mF (mn_GR _ _ _) <|
  mF (mn_GI _ _ _) <|
  mF (mn_CV _ _ mc_X2_comesRound _) <|
  mF (mn_If _ _ _) <|
  mF (mn_PL _ _) <|
  mF (mn_Go _) <|
  mF (mn_PL _ _) <|
  mF (mn_RL) <|
  mF0
def C_X10_round : mCo := mRun tb_X10_round 3
theorem mc_X10_round : mMC C_X10_round := mRun_mn mt_X10_round 3
theorem yi_X10_round : mYin yX10_round cX10_round 3 (some .long) 1 := ⟨wd_49, wd_792, by decide +kernel, by decide⟩
set_option maxRecDepth 100000 in
set_option maxHeartbeats 4000000 in
theorem sd_X10_round (l : Launch) (B : mBs) (p : Program) (e : Env) (s : State) (m : MethodId) (args : Array Value) (below : List Frame) (meth : Method) (c : Code) (Q : mQo) (X : mCx l B RX10 cX10_round 3 p s m args c) (hr : meth.sig.returnType = (some .long)) (hk : meth.locks = false) (hn : meth.name = "round") : ∀ q ∈ tb_X10_round, mSnd l B 3 p e (mRm 2 0 0) s m args below meth c (MQ below (mPo B Q) args s 0 0 (mA B)) (fun r h' => (h'.1.2.1 ≤ 0 ∧ h'.1.2.2 ≤ 0) ∧ Q r h') q.2 q.1 :=
  mF (sn_aload_n (pc := 0) (j := 0) X (by decide +kernel) rfl) <|
  mF (sn_iload_n (pc := 1) (j := 1) X (by decide +kernel) rfl) <|
  mF (sn_callV (pc := 2) X mc_X10_puppetOf (me_X10_puppetOf l B) yi_X10_puppetOf wd_425 wd_427 wd_0 (T := TX10) (N := 11) rfl (by decide) (by decide +kernel)) <|
  mF (sn_astore_n (pc := 5) (j := 2) X (by decide +kernel) rfl (by decide)) <|
  mF (sn_aload_n (pc := 6) (j := 2) X (by decide +kernel) rfl) <|
  mF (sn_ifnonnull (pc := 7) (off := 7) X (by decide +kernel) (by decide)) <|
  mF (sn_ldc2 (pc := 10) X (by decide +kernel) wd_432) <|
  mF (sn_lret (pc := 13) X hr hk (by decide +kernel)) <|
  mF (sn_aload_n (pc := 14) (j := 2) X (by decide +kernel) rfl) <|
  mF (sn_getR (pc := 15) X fd_X10_102 (by decide +kernel)) <|
  mF (sn_getI (pc := 18) X fd_X10_106 (by decide +kernel)) <|
  mF (sn_if_gt (pc := 21) (off := 7) X (by decide +kernel) (by decide)) <|
  mF (sn_ldc2 (pc := 24) X (by decide +kernel) wd_449) <|
  mF (sn_lret (pc := 27) X hr hk (by decide +kernel)) <|
  mF (sn_aload_n (pc := 28) (j := 2) X (by decide +kernel) rfl) <|
  mF (sn_getR (pc := 29) X fd_X10_102 (by decide +kernel)) <|
  mF (sn_aload_n (pc := 32) (j := 2) X (by decide +kernel) rfl) <|
  mF (sn_getR (pc := 33) X fd_X10_68 (by decide +kernel)) <|
  mF (sn_getI (pc := 36) X fd_X10_72 (by decide +kernel)) <|
  mF (sn_callV (pc := 39) X mc_X2_comesRound (me_X2_comesRound l B) yi_X2_comesRound wd_793 wd_794 wd_795 (T := TX2) (N := 6) rfl (by decide) (by decide +kernel)) <|
  mF (sn_if_eq (pc := 42) (off := 7) X (by decide +kernel) (by decide)) <|
  mF (sn_lconst (pc := 45) (n := 1) X (by decide +kernel) (by decide)) <|
  mF (sn_goto (pc := 46) (off := 4) X (by decide +kernel) (by decide)) <|
  mF (sn_lconst (pc := 49) (n := 0) X (by decide +kernel) (by decide)) <|
  mF (sn_lret (pc := 50) X hr hk (by decide +kernel)) <|
  mF0
theorem me_X10_round (l : Launch) (B : mBs) : mMet l B yX10_round cX10_round 3 (some .long) 2 0 0 C_X10_round := mMet_of (own := RX10) (by decide) rfl (fun p e s m args below meth c Q X hr hk hn => sd_X10_round l B p e s m args below meth c Q X hr hk hn)
