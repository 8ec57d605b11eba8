/-! PuppetStageModel.barY(II)J: 49 instructions, depth 1, makes 0 cells of 0 slots -/
def tb_X11_barY : mTb := [(0, aLA 0 1), (1, aLI 1 2), (2, aPI 42 4), (4, aCV 11 2 C_X11_get 7), (7, aSI 3 8), (8, aPL 1024 11), (11, aLA 0 12), (12, aLI 1 13), (13, aPI 41 15), (15, aCV 11 2 C_X11_get 18), (18, aI2L 19), (19, aBL (fun x y => x * y) 20), (20, aLA 0 21), (21, aLI 1 22), (22, aPI 43 24), (24, aPI 2 25), (25, aLI 2 26), (26, aB (fun x y => x * y) 27), (27, aB (fun x y => x + y) 28), (28, aCV 11 2 C_X11_get 31), (31, aI2L 32), (32, aLA 0 33), (33, aLI 3 34), (34, aPI 16 36), (36, aB (fun x y => x + y) 37), (37, aCV 11 1 C_X11_cos 40), (40, aI2L 41), (41, aBL (fun x y => x * y) 42), (42, aBL (fun x y => x - y) 43), (43, aLA 0 44), (44, aLI 1 45), (45, aPI 43 47), (47, aPI 2 48), (48, aLI 2 49), (49, aB (fun x y => x * y) 50), (50, aB (fun x y => x + y) 51), (51, aPI 1 52), (52, aB (fun x y => x + y) 53), (53, aCV 11 2 C_X11_get 56), (56, aI2L 57), (57, aLA 0 58), (58, aLI 3 59), (59, aPI 32 61), (61, aB (fun x y => x + y) 62), (62, aCV 11 1 C_X11_cos 65), (65, aI2L 66), (66, aBL (fun x y => x * y) 67), (67, aBL (fun x y => x - y) 68), (68, aRL)]
theorem mt_X11_barY : mMT tb_X11_barY :=
  mF (mn_LA _ _) <|
  mF (mn_LI _ _) <|
  mF (mn_PI _ _) <|
  mF (mn_CV _ _ mc_X11_get _) <|
  mF (mn_SI _ _) <|
  mF (mn_PL _ _) <|
  mF (mn_LA _ _) <|
  mF (mn_LI _ _) <|
  mF (mn_PI _ _) <|
  mF (mn_CV _ _ mc_X11_get _) <|
  mF (mn_I2L _) <|
  mF (mn_BL _ _) <|
  mF (mn_LA _ _) <|
  mF (mn_LI _ _) <|
  mF (mn_PI _ _) <|
  mF (mn_PI _ _) <|
  mF (mn_LI _ _) <|
  mF (mn_B _ _) <|
  mF (mn_B _ _) <|
  mF (mn_CV _ _ mc_X11_get _) <|
  mF (mn_I2L _) <|
  mF (mn_LA _ _) <|
  mF (mn_LI _ _) <|
  mF (mn_PI _ _) <|
  mF (mn_B _ _) <|
  mF (mn_CV _ _ mc_X11_cos _) <|
  mF (mn_I2L _) <|
  mF (mn_BL _ _) <|
  mF (mn_BL _ _) <|
  mF (mn_LA _ _) <|
  mF (mn_LI _ _) <|
  mF (mn_PI _ _) <|
  mF (mn_PI _ _) <|
  mF (mn_LI _ _) <|
  mF (mn_B _ _) <|
  mF (mn_B _ _) <|
  mF (mn_PI _ _) <|
  mF (mn_B _ _) <|
  mF (mn_CV _ _ mc_X11_get _) <|
  mF (mn_I2L _) <|
  mF (mn_LA _ _) <|
  mF (mn_LI _ _) <|
  mF (mn_PI _ _) <|
  mF (mn_B _ _) <|
  mF (mn_CV _ _ mc_X11_cos _) <|
  mF (mn_I2L _) <|
  mF (mn_BL _ _) <|
  mF (mn_BL _ _) <|
  mF (mn_RL) <|
  mF0
def C_X11_barY : mCo := mRun tb_X11_barY 4
theorem mc_X11_barY : mMC C_X11_barY := mRun_mn mt_X11_barY 4
theorem yi_X11_barY : mYin yX11_barY cX11_barY 4 (some .long) 2 := ⟨wd_60, wd_1119, by decide +kernel, by decide⟩
set_option maxRecDepth 100000 in
set_option maxHeartbeats 4000000 in
theorem sd_X11_barY (l : Launch) (B : mBs) (p : Program) (e : Env) (s : State) (m : MethodId) (args : Array Value) (below : List Frame) (meth : Method) (c : Code) (Q : mQo) (X : mCx l B RX11 cX11_barY 4 p s m args c) (hr : meth.sig.returnType = (some .long)) (hk : meth.locks = false) (hn : meth.name = "barY") : ∀ q ∈ tb_X11_barY, mSnd l B 4 p e (mRm 1 0 0) s m args below meth c (MQ below (mPo B Q) args s 0 0 (mA B)) (fun r h' => (h'.1.2.1 ≤ 0 ∧ h'.1.2.2 ≤ 0) ∧ Q r h') q.2 q.1 :=
  mF (sn_aload_n (pc := 0) (j := 0) X (by decide +kernel) rfl) <|
  mF (sn_iload_n (pc := 1) (j := 1) X (by decide +kernel) rfl) <|
  mF (sn_bipush (pc := 2) (n := 42) X (by decide +kernel) (by decide)) <|
  mF (sn_callV (pc := 4) X mc_X11_get (me_X11_get l B) yi_X11_get wd_995 wd_997 wd_12 (T := TX11) (N := 22) rfl (by decide) (by decide +kernel)) <|
  mF (sn_istore_n (pc := 7) (j := 3) X (by decide +kernel) rfl (by decide)) <|
  mF (sn_ldc2 (pc := 8) X (by decide +kernel) wd_1087) <|
  mF (sn_aload_n (pc := 11) (j := 0) X (by decide +kernel) rfl) <|
  mF (sn_iload_n (pc := 12) (j := 1) X (by decide +kernel) rfl) <|
  mF (sn_bipush (pc := 13) (n := 41) X (by decide +kernel) (by decide)) <|
  mF (sn_callV (pc := 15) X mc_X11_get (me_X11_get l B) yi_X11_get wd_995 wd_997 wd_12 (T := TX11) (N := 22) rfl (by decide) (by decide +kernel)) <|
  mF (sn_i2l (pc := 18) X (by decide +kernel)) <|
  mF (sn_lmul (pc := 19) X (by decide +kernel)) <|
  mF (sn_aload_n (pc := 20) (j := 0) X (by decide +kernel) rfl) <|
  mF (sn_iload_n (pc := 21) (j := 1) X (by decide +kernel) rfl) <|
  mF (sn_bipush (pc := 22) (n := 43) X (by decide +kernel) (by decide)) <|
  mF (sn_iconst (pc := 24) (n := 2) X (by decide +kernel) (by decide)) <|
  mF (sn_iload_n (pc := 25) (j := 2) X (by decide +kernel) rfl) <|
  mF (sn_imul (pc := 26) X (by decide +kernel)) <|
  mF (sn_iadd (pc := 27) X (by decide +kernel)) <|
  mF (sn_callV (pc := 28) X mc_X11_get (me_X11_get l B) yi_X11_get wd_995 wd_997 wd_12 (T := TX11) (N := 22) rfl (by decide) (by decide +kernel)) <|
  mF (sn_i2l (pc := 31) X (by decide +kernel)) <|
  mF (sn_aload_n (pc := 32) (j := 0) X (by decide +kernel) rfl) <|
  mF (sn_iload_n (pc := 33) (j := 3) X (by decide +kernel) rfl) <|
  mF (sn_bipush (pc := 34) (n := 16) X (by decide +kernel) (by decide)) <|
  mF (sn_iadd (pc := 36) X (by decide +kernel)) <|
  mF (sn_callV (pc := 37) X mc_X11_cos (me_X11_cos l B) yi_X11_cos wd_1100 wd_1102 wd_26 (T := TX11) (N := 22) rfl (by decide) (by decide +kernel)) <|
  mF (sn_i2l (pc := 40) X (by decide +kernel)) <|
  mF (sn_lmul (pc := 41) X (by decide +kernel)) <|
  mF (sn_lsub (pc := 42) X (by decide +kernel)) <|
  mF (sn_aload_n (pc := 43) (j := 0) X (by decide +kernel) rfl) <|
  mF (sn_iload_n (pc := 44) (j := 1) X (by decide +kernel) rfl) <|
  mF (sn_bipush (pc := 45) (n := 43) X (by decide +kernel) (by decide)) <|
  mF (sn_iconst (pc := 47) (n := 2) X (by decide +kernel) (by decide)) <|
  mF (sn_iload_n (pc := 48) (j := 2) X (by decide +kernel) rfl) <|
  mF (sn_imul (pc := 49) X (by decide +kernel)) <|
  mF (sn_iadd (pc := 50) X (by decide +kernel)) <|
  mF (sn_iconst (pc := 51) (n := 1) X (by decide +kernel) (by decide)) <|
  mF (sn_iadd (pc := 52) X (by decide +kernel)) <|
  mF (sn_callV (pc := 53) X mc_X11_get (me_X11_get l B) yi_X11_get wd_995 wd_997 wd_12 (T := TX11) (N := 22) rfl (by decide) (by decide +kernel)) <|
  mF (sn_i2l (pc := 56) X (by decide +kernel)) <|
  mF (sn_aload_n (pc := 57) (j := 0) X (by decide +kernel) rfl) <|
  mF (sn_iload_n (pc := 58) (j := 3) X (by decide +kernel) rfl) <|
  mF (sn_bipush (pc := 59) (n := 32) X (by decide +kernel) (by decide)) <|
  mF (sn_iadd (pc := 61) X (by decide +kernel)) <|
  mF (sn_callV (pc := 62) X mc_X11_cos (me_X11_cos l B) yi_X11_cos wd_1100 wd_1102 wd_26 (T := TX11) (N := 22) rfl (by decide) (by decide +kernel)) <|
  mF (sn_i2l (pc := 65) X (by decide +kernel)) <|
  mF (sn_lmul (pc := 66) X (by decide +kernel)) <|
  mF (sn_lsub (pc := 67) X (by decide +kernel)) <|
  mF (sn_lret (pc := 68) X hr hk (by decide +kernel)) <|
  mF0
theorem me_X11_barY (l : Launch) (B : mBs) : mMet l B yX11_barY cX11_barY 4 (some .long) 1 0 0 C_X11_barY := mMet_of (own := RX11) (by decide) rfl (fun p e s m args below meth c Q X hr hk hn => sd_X11_barY l B p e s m args below meth c Q X hr hk hn)
/-! PuppetStageModel.square(JJ)J: 8 instructions, depth 0, makes 0 cells of 0 slots -/
def tb_X11_square : mTb := [(0, aLL 0 1), (1, aLL 0 2), (2, aBL (fun x y => x * y) 3), (3, aLL 2 4), (4, aLL 2 5), (5, aBL (fun x y => x * y) 6), (6, aBL (fun x y => x + y) 7), (7, aRL)]
theorem mt_X11_square : mMT tb_X11_square :=
  mF (mn_LL _ _) <|
  mF (mn_LL _ _) <|
  mF (mn_BL _ _) <|
  mF (mn_LL _ _) <|
  mF (mn_LL _ _) <|
  mF (mn_BL _ _) <|
  mF (mn_BL _ _) <|
  mF (mn_RL) <|
  mF0
def C_X11_square : mCo := mRun tb_X11_square 4
theorem mc_X11_square : mMC C_X11_square := mRun_mn mt_X11_square 4
theorem yi_X11_square : mYin yX11_square cX11_square 4 (some .long) 2 := ⟨wd_60, wd_1146, by decide +kernel, by decide⟩
set_option maxRecDepth 100000 in
set_option maxHeartbeats 4000000 in
theorem sd_X11_square (l : Launch) (B : mBs) (p : Program) (e : Env) (s : State) (m : MethodId) (args : Array Value) (below : List Frame) (meth : Method) (c : Code) (Q : mQo) (X : mCx l B RX11 cX11_square 4 p s m args c) (hr : meth.sig.returnType = (some .long)) (hk : meth.locks = false) (hn : meth.name = "square") : ∀ q ∈ tb_X11_square, mSnd l B 4 p e (mRm 0 0 0) s m args below meth c (MQ below (mPo B Q) args s 0 0 (mA B)) (fun r h' => (h'.1.2.1 ≤ 0 ∧ h'.1.2.2 ≤ 0) ∧ Q r h') q.2 q.1 :=
  mF (sn_lload_n (pc := 0) (j := 0) X (by decide +kernel) rfl) <|
  mF (sn_lload_n (pc := 1) (j := 0) X (by decide +kernel) rfl) <|
  mF (sn_lmul (pc := 2) X (by decide +kernel)) <|
  mF (sn_lload_n (pc := 3) (j := 2) X (by decide +kernel) rfl) <|
  mF (sn_lload_n (pc := 4) (j := 2) X (by decide +kernel) rfl) <|
  mF (sn_lmul (pc := 5) X (by decide +kernel)) <|
  mF (sn_ladd (pc := 6) X (by decide +kernel)) <|
  mF (sn_lret (pc := 7) X hr hk (by decide +kernel)) <|
  mF0
theorem me_X11_square (l : Launch) (B : mBs) : mMet l B yX11_square cX11_square 4 (some .long) 0 0 0 C_X11_square := mMet_of (own := RX11) (by decide) rfl (fun p e s m args below meth c Q X hr hk hn => sd_X11_square l B p e s m args below meth c Q X hr hk hn)
/-! PuppetStageModel.root(J)J: 30 instructions, depth 0, makes 0 cells of 0 slots -/
def tb_X11_root : mTb := [(0, aPL 0 1), (1, aSL 2 2), (2, aPL 2000000000 5), (5, aSL 4 7), (7, aLL 2 8), (8, aLL 4 10), (10, aCmp 11), (11, aIf (fun x => 0 ≤ x) 49 14), (14, aLL 2 15), (15, aLL 4 17), (17, aBL (fun x y => x + y) 18), (18, aPL 2 21), (21, aDL (fun x y => x / y) 22), (22, aSL 6 24), (24, aLL 6 26), (26, aLL 6 28), (28, aBL (fun x y => x * y) 29), (29, aLL 0 30), (30, aCmp 31), (31, aIf (fun x => x < 0) 41 34), (34, aLL 6 36), (36, aSL 4 38), (38, aGo 46), (41, aLL 6 43), (43, aPL 1 44), (44, aBL (fun x y => x + y) 45), (45, aSL 2 46), (46, aGo 7), (49, aLL 2 50), (50, aRL)]
theorem mt_X11_root : mMT tb_X11_root :=
  mF (mn_PL _ _) <|
  mF (mn_SL _ _) <|
  mF (mn_PL _ _) <|
  mF (mn_SL _ _) <|
  mF (mn_LL _ _) <|
  mF (mn_LL _ _) <|
  mF (mn_Cmp _) <|
  mF (mn_If _ _ _) <|
  mF (mn_LL _ _) <|
  mF (mn_LL _ _) <|
  mF (mn_BL _ _) <|
  mF (mn_PL _ _) <|
  mF (mn_DL _ _) <|
  mF (mn_SL _ _) <|
  mF (mn_LL _ _) <|
  mF (mn_LL _ _) <|
  mF (mn_BL _ _) <|
  mF (mn_LL _ _) <|
  mF (mn_Cmp _) <|
  mF (mn_If _ _ _) <|
  mF (mn_LL _ _) <|
  mF (mn_SL _ _) <|
  mF (mn_Go _) <|
  mF (mn_LL _ _) <|
  mF (mn_PL _ _) <|
  mF (mn_BL _ _) <|
  mF (mn_SL _ _) <|
  mF (mn_Go _) <|
  mF (mn_LL _ _) <|
  mF (mn_RL) <|
  mF0
def C_X11_root : mCo := mRun tb_X11_root 8
theorem mc_X11_root : mMC C_X11_root := mRun_mn mt_X11_root 8
theorem yi_X11_root : mYin yX11_root cX11_root 8 (some .long) 1 := ⟨wd_60, wd_1149, by decide +kernel, by decide⟩
set_option maxRecDepth 100000 in
set_option maxHeartbeats 4000000 in
theorem sd_X11_root (l : Launch) (B : mBs) (p : Program) (e : Env) (s : State) (m : MethodId) (args : Array Value) (below : List Frame) (meth : Method) (c : Code) (Q : mQo) (X : mCx l B RX11 cX11_root 8 p s m args c) (hr : meth.sig.returnType = (some .long)) (hk : meth.locks = false) (hn : meth.name = "root") : ∀ q ∈ tb_X11_root, mSnd l B 8 p e (mRm 0 0 0) s m args below meth c (MQ below (mPo B Q) args s 0 0 (mA B)) (fun r h' => (h'.1.2.1 ≤ 0 ∧ h'.1.2.2 ≤ 0) ∧ Q r h') q.2 q.1 :=
  mF (sn_lconst (pc := 0) (n := 0) X (by decide +kernel) (by decide)) <|
  mF (sn_lstore_n (pc := 1) (j := 2) X (by decide +kernel) rfl (by decide)) <|
  mF (sn_ldc2 (pc := 2) X (by decide +kernel) wd_1150) <|
  mF (sn_lstore (pc := 5) X (by decide +kernel) (by decide)) <|
  mF (sn_lload_n (pc := 7) (j := 2) X (by decide +kernel) rfl) <|
  mF (sn_lload (pc := 8) X (by decide +kernel)) <|
  mF (sn_lcmp (pc := 10) X (by decide +kernel)) <|
  mF (sn_if_ge (pc := 11) (off := 38) X (by decide +kernel) (by decide)) <|
  mF (sn_lload_n (pc := 14) (j := 2) X (by decide +kernel) rfl) <|
  mF (sn_lload (pc := 15) X (by decide +kernel)) <|
  mF (sn_ladd (pc := 17) X (by decide +kernel)) <|
  mF (sn_ldc2 (pc := 18) X (by decide +kernel) wd_1151) <|
  mF (sn_ldiv (pc := 21) X (by decide +kernel)) <|
  mF (sn_lstore (pc := 22) X (by decide +kernel) (by decide)) <|
  mF (sn_lload (pc := 24) X (by decide +kernel)) <|
  mF (sn_lload (pc := 26) X (by decide +kernel)) <|
  mF (sn_lmul (pc := 28) X (by decide +kernel)) <|
  mF (sn_lload_n (pc := 29) (j := 0) X (by decide +kernel) rfl) <|
  mF (sn_lcmp (pc := 30) X (by decide +kernel)) <|
  mF (sn_if_lt (pc := 31) (off := 10) X (by decide +kernel) (by decide)) <|
  mF (sn_lload (pc := 34) X (by decide +kernel)) <|
  mF (sn_lstore (pc := 36) X (by decide +kernel) (by decide)) <|
  mF (sn_goto (pc := 38) (off := 8) X (by decide +kernel) (by decide)) <|
  mF (sn_lload (pc := 41) X (by decide +kernel)) <|
  mF (sn_lconst (pc := 43) (n := 1) X (by decide +kernel) (by decide)) <|
  mF (sn_ladd (pc := 44) X (by decide +kernel)) <|
  mF (sn_lstore_n (pc := 45) (j := 2) X (by decide +kernel) rfl (by decide)) <|
  mF (sn_goto (pc := 46) (off := (-39)) X (by decide +kernel) (by decide)) <|
  mF (sn_lload_n (pc := 49) (j := 2) X (by decide +kernel) rfl) <|
  mF (sn_lret (pc := 50) X hr hk (by decide +kernel)) <|
  mF0
theorem me_X11_root (l : Launch) (B : mBs) : mMet l B yX11_root cX11_root 8 (some .long) 0 0 0 C_X11_root := mMet_of (own := RX11) (by decide) rfl (fun p e s m args below meth c Q X hr hk hn => sd_X11_root l B p e s m args below meth c Q X hr hk hn)
/-! PuppetStageModel.far(II)J: 80 instructions, depth 2, makes 0 cells of 0 slots -/
def tb_X11_far_c0 : mTb := [(0, aLA 0 1), (1, aLI 1 2), (2, aLI 2 3), (3, aPI 0 4), (4, aCV 11 3 C_X11_of 7), (7, aSI 3 8), (8, aLI 3 9), (9, aPI 4 10), (10, aIc (fun x y => x = y) 13 15), (13, aPL 0 14), (14, aRL), (15, aLA 0 16), (16, aLI 1 17), (17, aLI 2 18), (18, aPI 1 19), (19, aCV 11 3 C_X11_of 22), (22, aSI 4 24), (24, aLA 0 25), (25, aLI 1 26), (26, aLI 2 27), (27, aPI 3 28), (28, aCV 11 3 C_X11_of 31), (31, aSI 5 33), (33, aLA 0 34), (34, aLI 1 35), (35, aLI 5 37), (37, aCV 11 2 C_X11_barX 40), (40, aSL 6 42), (42, aLA 0 43), (43, aLI 1 44), (44, aLI 5 46), (46, aCV 11 2 C_X11_barY 49), (49, aSL 8 51), (51, aLA 0 52), (52, aLI 1 53), (53, aLI 4 55), (55, aLA 0 56), (56, aLI 1 57), (57, aLI 2 58), (58, aPI 2 59), (59, aCV 11 3 C_X11_of 62), (62, aCV 11 3 C_X11_spotX 65), (65, aLL 6 67), (67, aBL (fun x y => x - y) 68), (68, aLA 0 69), (69, aLI 1 70), (70, aLI 4 72), (72, aLA 0 73), (73, aLI 1 74), (74, aLI 2 75), (75, aPI 2 76), (76, aCV 11 3 C_X11_of 79), (79, aCV 11 3 C_X11_spotY 82), (82, aLL 8 84), (84, aBL (fun x y => x - y) 85), (85, aCS 2 C_X11_square 88), (88, aCS 1 C_X11_root 91), (91, aSL 10 93), (93, aLI 3 94), (94, aPI 1 95), (95, aIc (fun x y => x = y) 98 128), (98, aLL 10 100), (100, aLA 0 101), (101, aGR 11 7 104), (104, aPI 0 105), (105, aJA 106), (106, aLL 6 108), (108, aBL (fun x y => x - y) 109), (109, aLA 0 110), (110, aGR 11 8 113)]
theorem mt_X11_far_c0 : mMT tb_X11_far_c0 :=
  mF (mn_LA _ _) <|
  mF (mn_LI _ _) <|
  mF (mn_LI _ _) <|
  mF (mn_PI _ _) <|
  mF (mn_CV _ _ mc_X11_of _) <|
  mF (mn_SI _ _) <|
  mF (mn_LI _ _) <|
  mF (mn_PI _ _) <|
  mF (mn_Ic _ _ _) <|
  mF (mn_PL _ _) <|
  mF (mn_RL) <|
  mF (mn_LA _ _) <|
  mF (mn_LI _ _) <|
  mF (mn_LI _ _) <|
  mF (mn_PI _ _) <|
  mF (mn_CV _ _ mc_X11_of _) <|
  mF (mn_SI _ _) <|
  mF (mn_LA _ _) <|
  mF (mn_LI _ _) <|
  mF (mn_LI _ _) <|
  mF (mn_PI _ _) <|
  mF (mn_CV _ _ mc_X11_of _) <|
  mF (mn_SI _ _) <|
  mF (mn_LA _ _) <|
  mF (mn_LI _ _) <|
  mF (mn_LI _ _) <|
  mF (mn_CV _ _ mc_X11_barX _) <|
  mF (mn_SL _ _) <|
  mF (mn_LA _ _) <|
  mF (mn_LI _ _) <|
  mF (mn_LI _ _) <|
  mF (mn_CV _ _ mc_X11_barY _) <|
  mF (mn_SL _ _) <|
  mF (mn_LA _ _) <|
  mF (mn_LI _ _) <|
  mF (mn_LI _ _) <|
  mF (mn_LA _ _) <|
  mF (mn_LI _ _) <|
  mF (mn_LI _ _) <|
  mF (mn_PI _ _) <|
  mF (mn_CV _ _ mc_X11_of _) <|
  mF (mn_CV _ _ mc_X11_spotX _) <|
  mF (mn_LL _ _) <|
  mF (mn_BL _ _) <|
  mF (mn_LA _ _) <|
  mF (mn_LI _ _) <|
  mF (mn_LI _ _) <|
  mF (mn_LA _ _) <|
  mF (mn_LI _ _) <|
  mF (mn_LI _ _) <|
  mF (mn_PI _ _) <|
  mF (mn_CV _ _ mc_X11_of _) <|
  mF (mn_CV _ _ mc_X11_spotY _) <|
  mF (mn_LL _ _) <|
  mF (mn_BL _ _) <|
  mF (mn_CS _ mc_X11_square _) <|
  mF (mn_CS _ mc_X11_root _) <|
  mF (mn_SL _ _) <|
  mF (mn_LI _ _) <|
  mF (mn_PI _ _) <|
  mF (mn_Ic _ _ _) <|
  mF (mn_LL _ _) <|
  mF (mn_LA _ _) <|
  mF (mn_GR _ _ _) <|
  mF (mn_PI _ _) <|
  mF (mn_JA _) <|
  mF (mn_LL _ _) <|
  mF (mn_BL _ _) <|
  mF (mn_LA _ _) <|
  mF (mn_GR _ _ _) <|
  mF0
def tb_X11_far_c1 : mTb := [(113, aPI 0 114), (114, aJA 115), (115, aLL 8 117), (117, aBL (fun x y => x - y) 118), (118, aCS 2 C_X11_square 121), (121, aCS 1 C_X11_root 124), (124, aBL (fun x y => x + y) 125), (125, aGo 130), (128, aLL 10 130), (130, aRL)]
theorem mt_X11_far_c1 : mMT tb_X11_far_c1 :=
  mF (mn_PI _ _) <|
  mF (mn_JA _) <|
  mF (mn_LL _ _) <|
  mF (mn_BL _ _) <|
  mF (mn_CS _ mc_X11_square _) <|
  mF (mn_CS _ mc_X11_root _) <|
  mF (mn_BL _ _) <|
  mF (mn_Go _) <|
  mF (mn_LL _ _) <|
  mF (mn_RL) <|
  mF0
def tb_X11_far : mTb := tb_X11_far_c0 ++ (tb_X11_far_c1)
theorem mt_X11_far : mMT tb_X11_far := mFA mt_X11_far_c0 mt_X11_far_c1
def C_X11_far : mCo := mRun tb_X11_far 12
theorem mc_X11_far : mMC C_X11_far := mRun_mn mt_X11_far 12
theorem yi_X11_far : mYin yX11_far cX11_far 12 (some .long) 2 := ⟨wd_60, wd_1143, by decide +kernel, by decide⟩
set_option maxRecDepth 100000 in
set_option maxHeartbeats 4000000 in
theorem sd_X11_far_c0 (l : Launch) (B : mBs) (p : Program) (e : Env) (s : State) (m : MethodId) (args : Array Value) (below : List Frame) (meth : Method) (c : Code) (Q : mQo) (X : mCx l B RX11 cX11_far 12 p s m args c) (hr : meth.sig.returnType = (some .long)) (hk : meth.locks = false) (hn : meth.name = "far") : ∀ q ∈ tb_X11_far_c0, mSnd l B 12 p e (mRm 2 0 0) s m args below meth c (MQ below (mPo B Q) args s 0 0 (mA B)) (fun r h' => (h'.1.2.1 ≤ 0 ∧ h'.1.2.2 ≤ 0) ∧ Q r h') q.2 q.1 :=
  mF (sn_aload_n (pc := 0) (j := 0) X (by decide +kernel) rfl) <|
  mF (sn_iload_n (pc := 1) (j := 1) X (by decide +kernel) rfl) <|
  mF (sn_iload_n (pc := 2) (j := 2) X (by decide +kernel) rfl) <|
  mF (sn_iconst (pc := 3) (n := 0) X (by decide +kernel) (by decide)) <|
  mF (sn_callV (pc := 4) X mc_X11_of (me_X11_of l B) yi_X11_of wd_1021 wd_1023 wd_17 (T := TX11) (N := 22) rfl (by decide) (by decide +kernel)) <|
  mF (sn_istore_n (pc := 7) (j := 3) X (by decide +kernel) rfl (by decide)) <|
  mF (sn_iload_n (pc := 8) (j := 3) X (by decide +kernel) rfl) <|
  mF (sn_iconst (pc := 9) (n := 4) X (by decide +kernel) (by decide)) <|
  mF (sn_icmp_ne (pc := 10) (off := 5) X (by decide +kernel) (by decide)) <|
  mF (sn_lconst (pc := 13) (n := 0) X (by decide +kernel) (by decide)) <|
  mF (sn_lret (pc := 14) X hr hk (by decide +kernel)) <|
  mF (sn_aload_n (pc := 15) (j := 0) X (by decide +kernel) rfl) <|
  mF (sn_iload_n (pc := 16) (j := 1) X (by decide +kernel) rfl) <|
  mF (sn_iload_n (pc := 17) (j := 2) X (by decide +kernel) rfl) <|
  mF (sn_iconst (pc := 18) (n := 1) X (by decide +kernel) (by decide)) <|
  mF (sn_callV (pc := 19) X mc_X11_of (me_X11_of l B) yi_X11_of wd_1021 wd_1023 wd_17 (T := TX11) (N := 22) rfl (by decide) (by decide +kernel)) <|
  mF (sn_istore (pc := 22) X (by decide +kernel) (by decide)) <|
  mF (sn_aload_n (pc := 24) (j := 0) X (by decide +kernel) rfl) <|
  mF (sn_iload_n (pc := 25) (j := 1) X (by decide +kernel) rfl) <|
  mF (sn_iload_n (pc := 26) (j := 2) X (by decide +kernel) rfl) <|
  mF (sn_iconst (pc := 27) (n := 3) X (by decide +kernel) (by decide)) <|
  mF (sn_callV (pc := 28) X mc_X11_of (me_X11_of l B) yi_X11_of wd_1021 wd_1023 wd_17 (T := TX11) (N := 22) rfl (by decide) (by decide +kernel)) <|
  mF (sn_istore (pc := 31) X (by decide +kernel) (by decide)) <|
  mF (sn_aload_n (pc := 33) (j := 0) X (by decide +kernel) rfl) <|
  mF (sn_iload_n (pc := 34) (j := 1) X (by decide +kernel) rfl) <|
  mF (sn_iload (pc := 35) X (by decide +kernel)) <|
  mF (sn_callV (pc := 37) X mc_X11_barX (me_X11_barX l B) yi_X11_barX wd_1112 wd_1114 wd_27 (T := TX11) (N := 22) rfl (by decide) (by decide +kernel)) <|
  mF (sn_lstore (pc := 40) X (by decide +kernel) (by decide)) <|
  mF (sn_aload_n (pc := 42) (j := 0) X (by decide +kernel) rfl) <|
  mF (sn_iload_n (pc := 43) (j := 1) X (by decide +kernel) rfl) <|
  mF (sn_iload (pc := 44) X (by decide +kernel)) <|
  mF (sn_callV (pc := 46) X mc_X11_barY (me_X11_barY l B) yi_X11_barY wd_1116 wd_1118 wd_28 (T := TX11) (N := 22) rfl (by decide) (by decide +kernel)) <|
  mF (sn_lstore (pc := 49) X (by decide +kernel) (by decide)) <|
  mF (sn_aload_n (pc := 51) (j := 0) X (by decide +kernel) rfl) <|
  mF (sn_iload_n (pc := 52) (j := 1) X (by decide +kernel) rfl) <|
  mF (sn_iload (pc := 53) X (by decide +kernel)) <|
  mF (sn_aload_n (pc := 55) (j := 0) X (by decide +kernel) rfl) <|
  mF (sn_iload_n (pc := 56) (j := 1) X (by decide +kernel) rfl) <|
  mF (sn_iload_n (pc := 57) (j := 2) X (by decide +kernel) rfl) <|
  mF (sn_iconst (pc := 58) (n := 2) X (by decide +kernel) (by decide)) <|
  mF (sn_callV (pc := 59) X mc_X11_of (me_X11_of l B) yi_X11_of wd_1021 wd_1023 wd_17 (T := TX11) (N := 22) rfl (by decide) (by decide +kernel)) <|
  mF (sn_callV (pc := 62) X mc_X11_spotX (me_X11_spotX l B) yi_X11_spotX wd_1088 wd_1090 wd_23 (T := TX11) (N := 22) rfl (by decide) (by decide +kernel)) <|
  mF (sn_lload (pc := 65) X (by decide +kernel)) <|
  mF (sn_lsub (pc := 67) X (by decide +kernel)) <|
  mF (sn_aload_n (pc := 68) (j := 0) X (by decide +kernel) rfl) <|
  mF (sn_iload_n (pc := 69) (j := 1) X (by decide +kernel) rfl) <|
  mF (sn_iload (pc := 70) X (by decide +kernel)) <|
  mF (sn_aload_n (pc := 72) (j := 0) X (by decide +kernel) rfl) <|
  mF (sn_iload_n (pc := 73) (j := 1) X (by decide +kernel) rfl) <|
  mF (sn_iload_n (pc := 74) (j := 2) X (by decide +kernel) rfl) <|
  mF (sn_iconst (pc := 75) (n := 2) X (by decide +kernel) (by decide)) <|
  mF (sn_callV (pc := 76) X mc_X11_of (me_X11_of l B) yi_X11_of wd_1021 wd_1023 wd_17 (T := TX11) (N := 22) rfl (by decide) (by decide +kernel)) <|
  mF (sn_callV (pc := 79) X mc_X11_spotY (me_X11_spotY l B) yi_X11_spotY wd_1096 wd_1098 wd_25 (T := TX11) (N := 22) rfl (by decide) (by decide +kernel)) <|
  mF (sn_lload (pc := 82) X (by decide +kernel)) <|
  mF (sn_lsub (pc := 84) X (by decide +kernel)) <|
  mF (sn_callS (pc := 85) X mc_X11_square (me_X11_square l B) yi_X11_square wd_1144 wd_1145 (by decide) (by decide +kernel)) <|
  mF (sn_callS (pc := 88) X mc_X11_root (me_X11_root l B) yi_X11_root wd_1147 wd_1148 (by decide) (by decide +kernel)) <|
  mF (sn_lstore (pc := 91) X (by decide +kernel) (by decide)) <|
  mF (sn_iload_n (pc := 93) (j := 3) X (by decide +kernel) rfl) <|
  mF (sn_iconst (pc := 94) (n := 1) X (by decide +kernel) (by decide)) <|
  mF (sn_icmp_ne (pc := 95) (off := 33) X (by decide +kernel) (by decide)) <|
  mF (sn_lload (pc := 98) X (by decide +kernel)) <|
  mF (sn_aload_n (pc := 100) (j := 0) X (by decide +kernel) rfl) <|
  mF (sn_getR (pc := 101) X fd_X11_26 (by decide +kernel)) <|
  mF (sn_iconst (pc := 104) (n := 0) X (by decide +kernel) (by decide)) <|
  mF (sn_laload (pc := 105) X (by decide +kernel)) <|
  mF (sn_lload (pc := 106) X (by decide +kernel)) <|
  mF (sn_lsub (pc := 108) X (by decide +kernel)) <|
  mF (sn_aload_n (pc := 109) (j := 0) X (by decide +kernel) rfl) <|
  mF (sn_getR (pc := 110) X fd_X11_29 (by decide +kernel)) <|
  mF0
set_option maxRecDepth 100000 in
set_option maxHeartbeats 4000000 in
theorem sd_X11_far_c1 (l : Launch) (B : mBs) (p : Program) (e : Env) (s : State) (m : MethodId) (args : Array Value) (below : List Frame) (meth : Method) (c : Code) (Q : mQo) (X : mCx l B RX11 cX11_far 12 p s m args c) (hr : meth.sig.returnType = (some .long)) (hk : meth.locks = false) (hn : meth.name = "far") : ∀ q ∈ tb_X11_far_c1, mSnd l B 12 p e (mRm 2 0 0) s m args below meth c (MQ below (mPo B Q) args s 0 0 (mA B)) (fun r h' => (h'.1.2.1 ≤ 0 ∧ h'.1.2.2 ≤ 0) ∧ Q r h') q.2 q.1 :=
  mF (sn_iconst (pc := 113) (n := 0) X (by decide +kernel) (by decide)) <|
  mF (sn_laload (pc := 114) X (by decide +kernel)) <|
  mF (sn_lload (pc := 115) X (by decide +kernel)) <|
  mF (sn_lsub (pc := 117) X (by decide +kernel)) <|
  mF (sn_callS (pc := 118) X mc_X11_square (me_X11_square l B) yi_X11_square wd_1144 wd_1145 (by decide) (by decide +kernel)) <|
  mF (sn_callS (pc := 121) X mc_X11_root (me_X11_root l B) yi_X11_root wd_1147 wd_1148 (by decide) (by decide +kernel)) <|
  mF (sn_ladd (pc := 124) X (by decide +kernel)) <|
  mF (sn_goto (pc := 125) (off := 5) X (by decide +kernel) (by decide)) <|
  mF (sn_lload (pc := 128) X (by decide +kernel)) <|
  mF (sn_lret (pc := 130) X hr hk (by decide +kernel)) <|
  mF0
theorem sd_X11_far (l : Launch) (B : mBs) (p : Program) (e : Env) (s : State) (m : MethodId) (args : Array Value) (below : List Frame) (meth : Method) (c : Code) (Q : mQo) (X : mCx l B RX11 cX11_far 12 p s m args c) (hr : meth.sig.returnType = (some .long)) (hk : meth.locks = false) (hn : meth.name = "far") : ∀ q ∈ tb_X11_far, mSnd l B 12 p e (mRm 2 0 0) s m args below meth c (MQ below (mPo B Q) args s 0 0 (mA B)) (fun r h' => (h'.1.2.1 ≤ 0 ∧ h'.1.2.2 ≤ 0) ∧ Q r h') q.2 q.1 := mFA (sd_X11_far_c0 l B p e s m args below meth c Q X hr hk hn) (sd_X11_far_c1 l B p e s m args below meth c Q X hr hk hn)
theorem me_X11_far (l : Launch) (B : mBs) : mMet l B yX11_far cX11_far 12 (some .long) 2 0 0 C_X11_far := mMet_of (own := RX11) (by decide) rfl (fun p e s m args below meth c Q X hr hk hn => sd_X11_far l B p e s m args below meth c Q X hr hk hn)
/-! PuppetStageModel.longOf(II)J: 15 instructions, depth 2, makes 0 cells of 0 slots -/
def tb_X11_longOf : mTb := [(0, aPL 1024 3), (3, aLA 0 4), (4, aLI 1 5), (5, aLI 2 6), (6, aPI 4 7), (7, aCV 11 3 C_X11_of 10), (10, aLA 0 11), (11, aLI 1 12), (12, aLI 2 13), (13, aPI 5 14), (14, aCV 11 3 C_X11_of 17), (17, aB (fun x y => x - y) 18), (18, aI2L 19), (19, aBL (fun x y => x * y) 20), (20, aRL)]
theorem mt_X11_longOf : mMT tb_X11_longOf :=
  mF (mn_PL _ _) <|
  mF (mn_LA _ _) <|
  mF (mn_LI _ _) <|
  mF (mn_LI _ _) <|
  mF (mn_PI _ _) <|
  mF (mn_CV _ _ mc_X11_of _) <|
  mF (mn_LA _ _) <|
  mF (mn_LI _ _) <|
  mF (mn_LI _ _) <|
  mF (mn_PI _ _) <|
  mF (mn_CV _ _ mc_X11_of _) <|
  mF (mn_B _ _) <|
  mF (mn_I2L _) <|
  mF (mn_BL _ _) <|
  mF (mn_RL) <|
  mF0
def C_X11_longOf : mCo := mRun tb_X11_longOf 3
theorem mc_X11_longOf : mMC C_X11_longOf := mRun_mn mt_X11_longOf 3
theorem yi_X11_longOf : mYin yX11_longOf cX11_longOf 3 (some .long) 2 := ⟨wd_60, wd_1159, by decide +kernel, by decide⟩
set_option maxRecDepth 100000 in
set_option maxHeartbeats 4000000 in
theorem sd_X11_longOf (l : Launch) (B : mBs) (p : Program) (e : Env) (s : State) (m : MethodId) (args : Array Value) (below : List Frame) (meth : Method) (c : Code) (Q : mQo) (X : mCx l B RX11 cX11_longOf 3 p s m args c) (hr : meth.sig.returnType = (some .long)) (hk : meth.locks = false) (hn : meth.name = "longOf") : ∀ q ∈ tb_X11_longOf, mSnd l B 3 p e (mRm 2 0 0) s m args below meth c (MQ below (mPo B Q) args s 0 0 (mA B)) (fun r h' => (h'.1.2.1 ≤ 0 ∧ h'.1.2.2 ≤ 0) ∧ Q r h') q.2 q.1 :=
  mF (sn_ldc2 (pc := 0) X (by decide +kernel) wd_1087) <|
  mF (sn_aload_n (pc := 3) (j := 0) X (by decide +kernel) rfl) <|
  mF (sn_iload_n (pc := 4) (j := 1) X (by decide +kernel) rfl) <|
  mF (sn_iload_n (pc := 5) (j := 2) X (by decide +kernel) rfl) <|
  mF (sn_iconst (pc := 6) (n := 4) X (by decide +kernel) (by decide)) <|
  mF (sn_callV (pc := 7) X mc_X11_of (me_X11_of l B) yi_X11_of wd_1021 wd_1023 wd_17 (T := TX11) (N := 22) rfl (by decide) (by decide +kernel)) <|
  mF (sn_aload_n (pc := 10) (j := 0) X (by decide +kernel) rfl) <|
  mF (sn_iload_n (pc := 11) (j := 1) X (by decide +kernel) rfl) <|
  mF (sn_iload_n (pc := 12) (j := 2) X (by decide +kernel) rfl) <|
  mF (sn_iconst (pc := 13) (n := 5) X (by decide +kernel) (by decide)) <|
  mF (sn_callV (pc := 14) X mc_X11_of (me_X11_of l B) yi_X11_of wd_1021 wd_1023 wd_17 (T := TX11) (N := 22) rfl (by decide) (by decide +kernel)) <|
  mF (sn_isub (pc := 17) X (by decide +kernel)) <|
  mF (sn_i2l (pc := 18) X (by decide +kernel)) <|
  mF (sn_lmul (pc := 19) X (by decide +kernel)) <|
  mF (sn_lret (pc := 20) X hr hk (by decide +kernel)) <|
  mF0
theorem me_X11_longOf (l : Launch) (B : mBs) : mMet l B yX11_longOf cX11_longOf 3 (some .long) 2 0 0 C_X11_longOf := mMet_of (own := RX11) (by decide) rfl (fun p e s m args below meth c Q X hr hk hn => sd_X11_longOf l B p e s m args below meth c Q X hr hk hn)
/-! PuppetStageModel.excess(II)J: 57 instructions, depth 3, makes 0 cells of 0 slots -/
def tb_X11_excess : mTb := [(0, aLA 0 1), (1, aLI 1 2), (2, aLI 2 3), (3, aPI 0 4), (4, aCV 11 3 C_X11_of 7), (7, aSI 3 8), (8, aLI 3 9), (9, aPI 4 10), (10, aIc (fun x y => x = y) 13 38), (13, aLA 0 14), (14, aLI 1 15), (15, aLA 0 16), (16, aLI 1 17), (17, aLI 2 18), (18, aPI 1 19), (19, aCV 11 3 C_X11_of 22), (22, aLA 0 23), (23, aLI 1 24), (24, aLI 2 25), (25, aPI 2 26), (26, aCV 11 3 C_X11_of 29), (29, aCV 11 3 C_X11_spotY 32), (32, aUL (fun x => -x) 33), (33, aSL 4 35), (35, aGo 79), (38, aLA 0 39), (39, aLI 1 40), (40, aLI 2 41), (41, aCV 11 2 C_X11_far 44), (44, aLA 0 45), (45, aLI 1 46), (46, aLI 2 47), (47, aCV 11 2 C_X11_longOf 50), (50, aBL (fun x y => x - y) 51), (51, aSL 4 53), (53, aLI 3 54), (54, aPI 3 55), (55, aIc (fun x y => x = y) 58 79), (58, aLL 4 60), (60, aPL 0 61), (61, aCmp 62), (62, aIf (fun x => 0 ≤ x) 71 65), (65, aLL 4 67), (67, aUL (fun x => -x) 68), (68, aGo 73), (71, aLL 4 73), (73, aPL 1024 76), (76, aBL (fun x y => x - y) 77), (77, aSL 4 79), (79, aLL 4 81), (81, aPL 0 82), (82, aCmp 83), (83, aIf (fun x => 0 ≤ x) 90 86), (86, aPL 0 87), (87, aGo 92), (90, aLL 4 92), (92, aRL)]
theorem mt_X11_excess : mMT tb_X11_excess :=
  mF (mn_LA _ _) <|
  mF (mn_LI _ _) <|
  mF (mn_LI _ _) <|
  mF (mn_PI _ _) <|
  mF (mn_CV _ _ mc_X11_of _) <|
  mF (mn_SI _ _) <|
  mF (mn_LI _ _) <|
  mF (mn_PI _ _) <|
  mF (mn_Ic _ _ _) <|
  mF (mn_LA _ _) <|
  mF (mn_LI _ _) <|
  mF (mn_LA _ _) <|
  mF (mn_LI _ _) <|
  mF (mn_LI _ _) <|
  mF (mn_PI _ _) <|
  mF (mn_CV _ _ mc_X11_of _) <|
  mF (mn_LA _ _) <|
  mF (mn_LI _ _) <|
  mF (mn_LI _ _) <|
  mF (mn_PI _ _) <|
  mF (mn_CV _ _ mc_X11_of _) <|
  mF (mn_CV _ _ mc_X11_spotY _) <|
  mF (mn_UL _ _) <|
  mF (mn_SL _ _) <|
  mF (mn_Go _) <|
  mF (mn_LA _ _) <|
  mF (mn_LI _ _) <|
  mF (mn_LI _ _) <|
  mF (mn_CV _ _ mc_X11_far _) <|
  mF (mn_LA _ _) <|
  mF (mn_LI _ _) <|
  mF (mn_LI _ _) <|
  mF (mn_CV _ _ mc_X11_longOf _) <|
  mF (mn_BL _ _) <|
  mF (mn_SL _ _) <|
  mF (mn_LI _ _) <|
  mF (mn_PI _ _) <|
  mF (mn_Ic _ _ _) <|
  mF (mn_LL _ _) <|
  mF (mn_PL _ _) <|
  mF (mn_Cmp _) <|
  mF (mn_If _ _ _) <|
  mF (mn_LL _ _) <|
  mF (mn_UL _ _) <|
  mF (mn_Go _) <|
  mF (mn_LL _ _) <|
  mF (mn_PL _ _) <|
  mF (mn_BL _ _) <|
  mF (mn_SL _ _) <|
  mF (mn_LL _ _) <|
  mF (mn_PL _ _) <|
  mF (mn_Cmp _) <|
  mF (mn_If _ _ _) <|
  mF (mn_PL _ _) <|
  mF (mn_Go _) <|
  mF (mn_LL _ _) <|
  mF (mn_RL) <|
  mF0
def C_X11_excess : mCo := mRun tb_X11_excess 6
theorem mc_X11_excess : mMC C_X11_excess := mRun_mn mt_X11_excess 6
theorem yi_X11_excess : mYin yX11_excess cX11_excess 6 (some .long) 2 := ⟨wd_60, wd_1155, by decide +kernel, by decide⟩
set_option maxRecDepth 100000 in
set_option maxHeartbeats 4000000 in
theorem sd_X11_excess (l : Launch) (B : mBs) (p : Program) (e : Env) (s : State) (m : MethodId) (args : Array Value) (below : List Frame) (meth : Method) (c : Code) (Q : mQo) (X : mCx l B RX11 cX11_excess 6 p s m args c) (hr : meth.sig.returnType = (some .long)) (hk : meth.locks = false) (hn : meth.name = "excess") : ∀ q ∈ tb_X11_excess, mSnd l B 6 p e (mRm 3 0 0) s m args below meth c (MQ below (mPo B Q) args s 0 0 (mA B)) (fun r h' => (h'.1.2.1 ≤ 0 ∧ h'.1.2.2 ≤ 0) ∧ Q r h') q.2 q.1 :=
  mF (sn_aload_n (pc := 0) (j := 0) X (by decide +kernel) rfl) <|
  mF (sn_iload_n (pc := 1) (j := 1) X (by decide +kernel) rfl) <|
  mF (sn_iload_n (pc := 2) (j := 2) X (by decide +kernel) rfl) <|
  mF (sn_iconst (pc := 3) (n := 0) X (by decide +kernel) (by decide)) <|
  mF (sn_callV (pc := 4) X mc_X11_of (me_X11_of l B) yi_X11_of wd_1021 wd_1023 wd_17 (T := TX11) (N := 22) rfl (by decide) (by decide +kernel)) <|
  mF (sn_istore_n (pc := 7) (j := 3) X (by decide +kernel) rfl (by decide)) <|
  mF (sn_iload_n (pc := 8) (j := 3) X (by decide +kernel) rfl) <|
  mF (sn_iconst (pc := 9) (n := 4) X (by decide +kernel) (by decide)) <|
  mF (sn_icmp_ne (pc := 10) (off := 28) X (by decide +kernel) (by decide)) <|
  mF (sn_aload_n (pc := 13) (j := 0) X (by decide +kernel) rfl) <|
  mF (sn_iload_n (pc := 14) (j := 1) X (by decide +kernel) rfl) <|
  mF (sn_aload_n (pc := 15) (j := 0) X (by decide +kernel) rfl) <|
  mF (sn_iload_n (pc := 16) (j := 1) X (by decide +kernel) rfl) <|
  mF (sn_iload_n (pc := 17) (j := 2) X (by decide +kernel) rfl) <|
  mF (sn_iconst (pc := 18) (n := 1) X (by decide +kernel) (by decide)) <|
  mF (sn_callV (pc := 19) X mc_X11_of (me_X11_of l B) yi_X11_of wd_1021 wd_1023 wd_17 (T := TX11) (N := 22) rfl (by decide) (by decide +kernel)) <|
  mF (sn_aload_n (pc := 22) (j := 0) X (by decide +kernel) rfl) <|
  mF (sn_iload_n (pc := 23) (j := 1) X (by decide +kernel) rfl) <|
  mF (sn_iload_n (pc := 24) (j := 2) X (by decide +kernel) rfl) <|
  mF (sn_iconst (pc := 25) (n := 2) X (by decide +kernel) (by decide)) <|
  mF (sn_callV (pc := 26) X mc_X11_of (me_X11_of l B) yi_X11_of wd_1021 wd_1023 wd_17 (T := TX11) (N := 22) rfl (by decide) (by decide +kernel)) <|
  mF (sn_callV (pc := 29) X mc_X11_spotY (me_X11_spotY l B) yi_X11_spotY wd_1096 wd_1098 wd_25 (T := TX11) (N := 22) rfl (by decide) (by decide +kernel)) <|
  mF (sn_lneg (pc := 32) X (by decide +kernel)) <|
  mF (sn_lstore (pc := 33) X (by decide +kernel) (by decide)) <|
  mF (sn_goto (pc := 35) (off := 44) X (by decide +kernel) (by decide)) <|
  mF (sn_aload_n (pc := 38) (j := 0) X (by decide +kernel) rfl) <|
  mF (sn_iload_n (pc := 39) (j := 1) X (by decide +kernel) rfl) <|
  mF (sn_iload_n (pc := 40) (j := 2) X (by decide +kernel) rfl) <|
  mF (sn_callV (pc := 41) X mc_X11_far (me_X11_far l B) yi_X11_far wd_1140 wd_1142 wd_30 (T := TX11) (N := 22) rfl (by decide) (by decide +kernel)) <|
  mF (sn_aload_n (pc := 44) (j := 0) X (by decide +kernel) rfl) <|
  mF (sn_iload_n (pc := 45) (j := 1) X (by decide +kernel) rfl) <|
  mF (sn_iload_n (pc := 46) (j := 2) X (by decide +kernel) rfl) <|
  mF (sn_callV (pc := 47) X mc_X11_longOf (me_X11_longOf l B) yi_X11_longOf wd_1156 wd_1158 wd_32 (T := TX11) (N := 22) rfl (by decide) (by decide +kernel)) <|
  mF (sn_lsub (pc := 50) X (by decide +kernel)) <|
  mF (sn_lstore (pc := 51) X (by decide +kernel) (by decide)) <|
  mF (sn_iload_n (pc := 53) (j := 3) X (by decide +kernel) rfl) <|
  mF (sn_iconst (pc := 54) (n := 3) X (by decide +kernel) (by decide)) <|
  mF (sn_icmp_ne (pc := 55) (off := 24) X (by decide +kernel) (by decide)) <|
  mF (sn_lload (pc := 58) X (by decide +kernel)) <|
  mF (sn_lconst (pc := 60) (n := 0) X (by decide +kernel) (by decide)) <|
  mF (sn_lcmp (pc := 61) X (by decide +kernel)) <|
  mF (sn_if_ge (pc := 62) (off := 9) X (by decide +kernel) (by decide)) <|
  mF (sn_lload (pc := 65) X (by decide +kernel)) <|
  mF (sn_lneg (pc := 67) X (by decide +kernel)) <|
  mF (sn_goto (pc := 68) (off := 5) X (by decide +kernel) (by decide)) <|
  mF (sn_lload (pc := 71) X (by decide +kernel)) <|
  mF (sn_ldc2 (pc := 73) X (by decide +kernel) wd_1087) <|
  mF (sn_lsub (pc := 76) X (by decide +kernel)) <|
  mF (sn_lstore (pc := 77) X (by decide +kernel) (by decide)) <|
  mF (sn_lload (pc := 79) X (by decide +kernel)) <|
  mF (sn_lconst (pc := 81) (n := 0) X (by decide +kernel) (by decide)) <|
  mF (sn_lcmp (pc := 82) X (by decide +kernel)) <|
  mF (sn_if_ge (pc := 83) (off := 7) X (by decide +kernel) (by decide)) <|
  mF (sn_lconst (pc := 86) (n := 0) X (by decide +kernel) (by decide)) <|
  mF (sn_goto (pc := 87) (off := 5) X (by decide +kernel) (by decide)) <|
  mF (sn_lload (pc := 90) X (by decide +kernel)) <|
  mF (sn_lret (pc := 92) X hr hk (by decide +kernel)) <|
  mF0
theorem me_X11_excess (l : Launch) (B : mBs) : mMet l B yX11_excess cX11_excess 6 (some .long) 3 0 0 C_X11_excess := mMet_of (own := RX11) (by decide) rfl (fun p e s m args below meth c Q X hr hk hn => sd_X11_excess l B p e s m args below meth c Q X hr hk hn)
/-! PuppetStageModel.isTaut(II)Z: 23 instructions, depth 3, makes 0 cells of 0 slots -/
def tb_X11_isTaut : mTb := [(0, aLA 0 1), (1, aLI 1 2), (2, aLI 2 3), (3, aPI 0 4), (4, aCV 11 3 C_X11_of 7), (7, aPI 4 8), (8, aIc (fun x y => x = y) 35 11), (11, aLA 0 12), (12, aLI 1 13), (13, aLI 2 14), (14, aCV 11 2 C_X11_far 17), (17, aLA 0 18), (18, aLI 1 19), (19, aLI 2 20), (20, aCV 11 2 C_X11_longOf 23), (23, aPL 512 26), (26, aBL (fun x y => x - y) 27), (27, aCmp 28), (28, aIf (fun x => x < 0) 35 31), (31, aPI 1 32), (32, aGo 36), (35, aPI 0 36), (36, aRZ)]
theorem mt_X11_isTaut : mMT tb_X11_isTaut :=
  mF (mn_LA _ _) <|
  mF (mn_LI _ _) <|
  mF (mn_LI _ _) <|
  mF (mn_PI _ _) <|
  mF (mn_CV _ _ mc_X11_of _) <|
  mF (mn_PI _ _) <|
  mF (mn_Ic _ _ _) <|
  mF (mn_LA _ _) <|
  mF (mn_LI _ _) <|
  mF (mn_LI _ _) <|
  mF (mn_CV _ _ mc_X11_far _) <|
  mF (mn_LA _ _) <|
  mF (mn_LI _ _) <|
  mF (mn_LI _ _) <|
  mF (mn_CV _ _ mc_X11_longOf _) <|
  mF (mn_PL _ _) <|
  mF (mn_BL _ _) <|
  mF (mn_Cmp _) <|
  mF (mn_If _ _ _) <|
  mF (mn_PI _ _) <|
  mF (mn_Go _) <|
  mF (mn_PI _ _) <|
  mF (mn_RZ) <|
  mF0
def C_X11_isTaut : mCo := mRun tb_X11_isTaut 3
theorem mc_X11_isTaut : mMC C_X11_isTaut := mRun_mn mt_X11_isTaut 3
theorem yi_X11_isTaut : mYin yX11_isTaut cX11_isTaut 3 (some .boolean) 2 := ⟨wd_60, wd_1163, by decide +kernel, by decide⟩
set_option maxRecDepth 100000 in
set_option maxHeartbeats 4000000 in
theorem sd_X11_isTaut (l : Launch) (B : mBs) (p : Program) (e : Env) (s : State) (m : MethodId) (args : Array Value) (below : List Frame) (meth : Method) (c : Code) (Q : mQo) (X : mCx l B RX11 cX11_isTaut 3 p s m args c) (hr : meth.sig.returnType = (some .boolean)) (hk : meth.locks = false) (hn : meth.name = "isTaut") : ∀ q ∈ tb_X11_isTaut, mSnd l B 3 p e (mRm 3 0 0) s m args below meth c (MQ below (mPo B Q) args s 0 0 (mA B)) (fun r h' => (h'.1.2.1 ≤ 0 ∧ h'.1.2.2 ≤ 0) ∧ Q r h') q.2 q.1 :=
  mF (sn_aload_n (pc := 0) (j := 0) X (by decide +kernel) rfl) <|
  mF (sn_iload_n (pc := 1) (j := 1) X (by decide +kernel) rfl) <|
  mF (sn_iload_n (pc := 2) (j := 2) X (by decide +kernel) rfl) <|
  mF (sn_iconst (pc := 3) (n := 0) X (by decide +kernel) (by decide)) <|
  mF (sn_callV (pc := 4) X mc_X11_of (me_X11_of l B) yi_X11_of wd_1021 wd_1023 wd_17 (T := TX11) (N := 22) rfl (by decide) (by decide +kernel)) <|
  mF (sn_iconst (pc := 7) (n := 4) X (by decide +kernel) (by decide)) <|
  mF (sn_icmp_eq (pc := 8) (off := 27) X (by decide +kernel) (by decide)) <|
  mF (sn_aload_n (pc := 11) (j := 0) X (by decide +kernel) rfl) <|
  mF (sn_iload_n (pc := 12) (j := 1) X (by decide +kernel) rfl) <|
  mF (sn_iload_n (pc := 13) (j := 2) X (by decide +kernel) rfl) <|
  mF (sn_callV (pc := 14) X mc_X11_far (me_X11_far l B) yi_X11_far wd_1140 wd_1142 wd_30 (T := TX11) (N := 22) rfl (by decide) (by decide +kernel)) <|
  mF (sn_aload_n (pc := 17) (j := 0) X (by decide +kernel) rfl) <|
  mF (sn_iload_n (pc := 18) (j := 1) X (by decide +kernel) rfl) <|
  mF (sn_iload_n (pc := 19) (j := 2) X (by decide +kernel) rfl) <|
  mF (sn_callV (pc := 20) X mc_X11_longOf (me_X11_longOf l B) yi_X11_longOf wd_1156 wd_1158 wd_32 (T := TX11) (N := 22) rfl (by decide) (by decide +kernel)) <|
  mF (sn_ldc2 (pc := 23) X (by decide +kernel) wd_1164) <|
  mF (sn_lsub (pc := 26) X (by decide +kernel)) <|
  mF (sn_lcmp (pc := 27) X (by decide +kernel)) <|
  mF (sn_if_lt (pc := 28) (off := 7) X (by decide +kernel) (by decide)) <|
  mF (sn_iconst (pc := 31) (n := 1) X (by decide +kernel) (by decide)) <|
  mF (sn_goto (pc := 32) (off := 4) X (by decide +kernel) (by decide)) <|
  mF (sn_iconst (pc := 35) (n := 0) X (by decide +kernel) (by decide)) <|
  mF (sn_zret (pc := 36) X hr hk (by decide +kernel)) <|
  mF0
theorem me_X11_isTaut (l : Launch) (B : mBs) : mMet l B yX11_isTaut cX11_isTaut 3 (some .boolean) 3 0 0 C_X11_isTaut := mMet_of (own := RX11) (by decide) rfl (fun p e s m args below meth c Q X hr hk hn => sd_X11_isTaut l B p e s m args below meth c Q X hr hk hn)
/-! PuppetStageModel.allExcess(I)J: 21 instructions, depth 4, makes 0 cells of 0 slots -/
def tb_X11_allExcess : mTb := [(0, aPL 0 1), (1, aSL 2 2), (2, aPI 0 3), (3, aSI 4 5), (5, aLI 4 7), (7, aLA 0 8), (8, aLI 1 9), (9, aPI 55 11), (11, aCV 11 2 C_X11_get 14), (14, aIc (fun x y => y ≤ x) 33 17), (17, aLL 2 18), (18, aLA 0 19), (19, aLI 1 20), (20, aLI 4 22), (22, aCV 11 2 C_X11_excess 25), (25, aBL (fun x y => x + y) 26), (26, aSL 2 27), (27, aInc 4 1 30), (30, aGo 5), (33, aLL 2 34), (34, aRL)]
theorem mt_X11_allExcess : mMT tb_X11_allExcess :=
  mF (mn_PL _ _) <|
  mF (mn_SL _ _) <|
  mF (mn_PI _ _) <|
  mF (mn_SI _ _) <|
  mF (mn_LI _ _) <|
  mF (mn_LA _ _) <|
  mF (mn_LI _ _) <|
  mF (mn_PI _ _) <|
  mF (mn_CV _ _ mc_X11_get _) <|
  mF (mn_Ic _ _ _) <|
  mF (mn_LL _ _) <|
  mF (mn_LA _ _) <|
  mF (mn_LI _ _) <|
  mF (mn_LI _ _) <|
  mF (mn_CV _ _ mc_X11_excess _) <|
  mF (mn_BL _ _) <|
  mF (mn_SL _ _) <|
  mF (mn_Inc _ _ _) <|
  mF (mn_Go _) <|
  mF (mn_LL _ _) <|
  mF (mn_RL) <|
  mF0
def C_X11_allExcess : mCo := mRun tb_X11_allExcess 5
theorem mc_X11_allExcess : mMC C_X11_allExcess := mRun_mn mt_X11_allExcess 5
theorem yi_X11_allExcess : mYin yX11_allExcess cX11_allExcess 5 (some .long) 1 := ⟨wd_60, wd_1176, by decide +kernel, by decide⟩
set_option maxRecDepth 100000 in
set_option maxHeartbeats 4000000 in
theorem sd_X11_allExcess (l : Launch) (B : mBs) (p : Program) (e : Env) (s : State) (m : MethodId) (args : Array Value) (below : List Frame) (meth : Method) (c : Code) (Q : mQo) (X : mCx l B RX11 cX11_allExcess 5 p s m args c) (hr : meth.sig.returnType = (some .long)) (hk : meth.locks = false) (hn : meth.name = "allExcess") : ∀ q ∈ tb_X11_allExcess, mSnd l B 5 p e (mRm 4 0 0) s m args below meth c (MQ below (mPo B Q) args s 0 0 (mA B)) (fun r h' => (h'.1.2.1 ≤ 0 ∧ h'.1.2.2 ≤ 0) ∧ Q r h') q.2 q.1 :=
  mF (sn_lconst (pc := 0) (n := 0) X (by decide +kernel) (by decide)) <|
  mF (sn_lstore_n (pc := 1) (j := 2) X (by decide +kernel) rfl (by decide)) <|
  mF (sn_iconst (pc := 2) (n := 0) X (by decide +kernel) (by decide)) <|
  mF (sn_istore (pc := 3) X (by decide +kernel) (by decide)) <|
  mF (sn_iload (pc := 5) X (by decide +kernel)) <|
  mF (sn_aload_n (pc := 7) (j := 0) X (by decide +kernel) rfl) <|
  mF (sn_iload_n (pc := 8) (j := 1) X (by decide +kernel) rfl) <|
  mF (sn_bipush (pc := 9) (n := 55) X (by decide +kernel) (by decide)) <|
  mF (sn_callV (pc := 11) X mc_X11_get (me_X11_get l B) yi_X11_get wd_995 wd_997 wd_12 (T := TX11) (N := 22) rfl (by decide) (by decide +kernel)) <|
  mF (sn_icmp_ge (pc := 14) (off := 19) X (by decide +kernel) (by decide)) <|
  mF (sn_lload_n (pc := 17) (j := 2) X (by decide +kernel) rfl) <|
  mF (sn_aload_n (pc := 18) (j := 0) X (by decide +kernel) rfl) <|
  mF (sn_iload_n (pc := 19) (j := 1) X (by decide +kernel) rfl) <|
  mF (sn_iload (pc := 20) X (by decide +kernel)) <|
  mF (sn_callV (pc := 22) X mc_X11_excess (me_X11_excess l B) yi_X11_excess wd_1152 wd_1154 wd_31 (T := TX11) (N := 22) rfl (by decide) (by decide +kernel)) <|
  mF (sn_ladd (pc := 25) X (by decide +kernel)) <|
  mF (sn_lstore_n (pc := 26) (j := 2) X (by decide +kernel) rfl (by decide)) <|
  mF (sn_iinc (pc := 27) (n := 1) X (by decide +kernel) (by decide) (by decide)) <|
  mF (sn_goto (pc := 30) (off := (-25)) X (by decide +kernel) (by decide)) <|
  mF (sn_lload_n (pc := 33) (j := 2) X (by decide +kernel) rfl) <|
  mF (sn_lret (pc := 34) X hr hk (by decide +kernel)) <|
  mF0
theorem me_X11_allExcess (l : Launch) (B : mBs) : mMet l B yX11_allExcess cX11_allExcess 5 (some .long) 4 0 0 C_X11_allExcess := mMet_of (own := RX11) (by decide) rfl (fun p e s m args below meth c Q X hr hk hn => sd_X11_allExcess l B p e s m args below meth c Q X hr hk hn)
/-! PuppetStageModel.depth(I)J: 34 instructions, depth 1, makes 0 cells of 0 slots -/
def tb_X11_depth : mTb := [(0, aPL 0 1), (1, aSL 2 2), (2, aPI 0 3), (3, aSI 4 5), (5, aLI 4 7), (7, aLA 0 8), (8, aLI 1 9), (9, aPI 0 10), (10, aCV 11 2 C_X11_get 13), (13, aIc (fun x y => y ≤ x) 52 16), (16, aLL 2 17), (17, aLA 0 18), (18, aLI 1 19), (19, aPI 7 21), (21, aLI 4 23), (23, aB (fun x y => x + y) 24), (24, aCV 11 2 C_X11_get 27), (27, aI2L 28), (28, aLA 0 29), (29, aGR 11 6 32), (32, aLI 4 34), (34, aJA 35), (35, aLA 0 36), (36, aGR 11 8 39), (39, aLI 4 41), (41, aJA 42), (42, aBL (fun x y => x + y) 43), (43, aBL (fun x y => x * y) 44), (44, aBL (fun x y => x + y) 45), (45, aSL 2 46), (46, aInc 4 1 49), (49, aGo 5), (52, aLL 2 53), (53, aRL)]
theorem mt_X11_depth : mMT tb_X11_depth :=
  mF (mn_PL _ _) <|
  mF (mn_SL _ _) <|
  mF (mn_PI _ _) <|
  mF (mn_SI _ _) <|
  mF (mn_LI _ _) <|
  mF (mn_LA _ _) <|
  mF (mn_LI _ _) <|
  mF (mn_PI _ _) <|
  mF (mn_CV _ _ mc_X11_get _) <|
  mF (mn_Ic _ _ _) <|
  mF (mn_LL _ _) <|
  mF (mn_LA _ _) <|
  mF (mn_LI _ _) <|
  mF (mn_PI _ _) <|
  mF (mn_LI _ _) <|
  mF (mn_B _ _) <|
  mF (mn_CV _ _ mc_X11_get _) <|
  mF (mn_I2L _) <|
  mF (mn_LA _ _) <|
  mF (mn_GR _ _ _) <|
  mF (mn_LI _ _) <|
  mF (mn_JA _) <|
  mF (mn_LA _ _) <|
  mF (mn_GR _ _ _) <|
  mF (mn_LI _ _) <|
  mF (mn_JA _) <|
  mF (mn_BL _ _) <|
  mF (mn_BL _ _) <|
  mF (mn_BL _ _) <|
  mF (mn_SL _ _) <|
  mF (mn_Inc _ _ _) <|
  mF (mn_Go _) <|
  mF (mn_LL _ _) <|
  mF (mn_RL) <|
  mF0
def C_X11_depth : mCo := mRun tb_X11_depth 5
theorem mc_X11_depth : mMC C_X11_depth := mRun_mn mt_X11_depth 5
theorem yi_X11_depth : mYin yX11_depth cX11_depth 5 (some .long) 1 := ⟨wd_60, wd_1180, by decide +kernel, by decide⟩
set_option maxRecDepth 100000 in
set_option maxHeartbeats 4000000 in
theorem sd_X11_depth (l : Launch) (B : mBs) (p : Program) (e : Env) (s : State) (m : MethodId) (args : Array Value) (below : List Frame) (meth : Method) (c : Code) (Q : mQo) (X : mCx l B RX11 cX11_depth 5 p s m args c) (hr : meth.sig.returnType = (some .long)) (hk : meth.locks = false) (hn : meth.name = "depth") : ∀ q ∈ tb_X11_depth, mSnd l B 5 p e (mRm 1 0 0) s m args below meth c (MQ below (mPo B Q) args s 0 0 (mA B)) (fun r h' => (h'.1.2.1 ≤ 0 ∧ h'.1.2.2 ≤ 0) ∧ Q r h') q.2 q.1 :=
  mF (sn_lconst (pc := 0) (n := 0) X (by decide +kernel) (by decide)) <|
  mF (sn_lstore_n (pc := 1) (j := 2) X (by decide +kernel) rfl (by decide)) <|
  mF (sn_iconst (pc := 2) (n := 0) X (by decide +kernel) (by decide)) <|
  mF (sn_istore (pc := 3) X (by decide +kernel) (by decide)) <|
  mF (sn_iload (pc := 5) X (by decide +kernel)) <|
  mF (sn_aload_n (pc := 7) (j := 0) X (by decide +kernel) rfl) <|
  mF (sn_iload_n (pc := 8) (j := 1) X (by decide +kernel) rfl) <|
  mF (sn_iconst (pc := 9) (n := 0) X (by decide +kernel) (by decide)) <|
  mF (sn_callV (pc := 10) X mc_X11_get (me_X11_get l B) yi_X11_get wd_995 wd_997 wd_12 (T := TX11) (N := 22) rfl (by decide) (by decide +kernel)) <|
  mF (sn_icmp_ge (pc := 13) (off := 39) X (by decide +kernel) (by decide)) <|
  mF (sn_lload_n (pc := 16) (j := 2) X (by decide +kernel) rfl) <|
  mF (sn_aload_n (pc := 17) (j := 0) X (by decide +kernel) rfl) <|
  mF (sn_iload_n (pc := 18) (j := 1) X (by decide +kernel) rfl) <|
  mF (sn_bipush (pc := 19) (n := 7) X (by decide +kernel) (by decide)) <|
  mF (sn_iload (pc := 21) X (by decide +kernel)) <|
  mF (sn_iadd (pc := 23) X (by decide +kernel)) <|
  mF (sn_callV (pc := 24) X mc_X11_get (me_X11_get l B) yi_X11_get wd_995 wd_997 wd_12 (T := TX11) (N := 22) rfl (by decide) (by decide +kernel)) <|
  mF (sn_i2l (pc := 27) X (by decide +kernel)) <|
  mF (sn_aload_n (pc := 28) (j := 0) X (by decide +kernel) rfl) <|
  mF (sn_getR (pc := 29) X fd_X11_23 (by decide +kernel)) <|
  mF (sn_iload (pc := 32) X (by decide +kernel)) <|
  mF (sn_laload (pc := 34) X (by decide +kernel)) <|
  mF (sn_aload_n (pc := 35) (j := 0) X (by decide +kernel) rfl) <|
  mF (sn_getR (pc := 36) X fd_X11_29 (by decide +kernel)) <|
  mF (sn_iload (pc := 39) X (by decide +kernel)) <|
  mF (sn_laload (pc := 41) X (by decide +kernel)) <|
  mF (sn_ladd (pc := 42) X (by decide +kernel)) <|
  mF (sn_lmul (pc := 43) X (by decide +kernel)) <|
  mF (sn_ladd (pc := 44) X (by decide +kernel)) <|
  mF (sn_lstore_n (pc := 45) (j := 2) X (by decide +kernel) rfl (by decide)) <|
  mF (sn_iinc (pc := 46) (n := 1) X (by decide +kernel) (by decide) (by decide)) <|
  mF (sn_goto (pc := 49) (off := (-44)) X (by decide +kernel) (by decide)) <|
  mF (sn_lload_n (pc := 52) (j := 2) X (by decide +kernel) rfl) <|
  mF (sn_lret (pc := 53) X hr hk (by decide +kernel)) <|
  mF0
theorem me_X11_depth (l : Launch) (B : mBs) : mMet l B yX11_depth cX11_depth 5 (some .long) 1 0 0 C_X11_depth := mMet_of (own := RX11) (by decide) rfl (fun p e s m args below meth c Q X hr hk hn => sd_X11_depth l B p e s m args below meth c Q X hr hk hn)
/-! PuppetStageModel.least(II)I: 17 instructions, depth 1, makes 0 cells of 0 slots -/
def tb_X11_least : mTb := [(0, aLI 2 1), (1, aLA 0 2), (2, aLI 1 3), (3, aPI 27 5), (5, aCV 11 2 C_X11_get 8), (8, aIc (fun x y => y ≤ x) 25 11), (11, aLA 0 12), (12, aLI 1 13), (13, aPI 28 15), (15, aPI 2 16), (16, aLI 2 17), (17, aB (fun x y => x * y) 18), (18, aB (fun x y => x + y) 19), (19, aCV 11 2 C_X11_get 22), (22, aGo 27), (25, aPI (-32) 27), (27, aRI)]
theorem mt_X11_least : mMT tb_X11_least :=
  mF (mn_LI _ _) <|
  mF (mn_LA _ _) <|
  mF (mn_LI _ _) <|
  mF (mn_PI _ _) <|
  mF (mn_CV _ _ mc_X11_get _) <|
  mF (mn_Ic _ _ _) <|
  mF (mn_LA _ _) <|
  mF (mn_LI _ _) <|
  mF (mn_PI _ _) <|
  mF (mn_PI _ _) <|
  mF (mn_LI _ _) <|
  mF (mn_B _ _) <|
  mF (mn_B _ _) <|
  mF (mn_CV _ _ mc_X11_get _) <|
  mF (mn_Go _) <|
  mF (mn_PI _ _) <|
  mF (mn_RI) <|
  mF0
def C_X11_least : mCo := mRun tb_X11_least 3
theorem mc_X11_least : mMC C_X11_least := mRun_mn mt_X11_least 3
theorem yi_X11_least : mYin yX11_least cX11_least 3 (some .int) 2 := ⟨wd_60, wd_1003, by decide +kernel, by decide⟩
set_option maxRecDepth 100000 in
set_option maxHeartbeats 4000000 in
theorem sd_X11_least (l : Launch) (B : mBs) (p : Program) (e : Env) (s : State) (m : MethodId) (args : Array Value) (below : List Frame) (meth : Method) (c : Code) (Q : mQo) (X : mCx l B RX11 cX11_least 3 p s m args c) (hr : meth.sig.returnType = (some .int)) (hk : meth.locks = false) (hn : meth.name = "least") : ∀ q ∈ tb_X11_least, mSnd l B 3 p e (mRm 1 0 0) s m args below meth c (MQ below (mPo B Q) args s 0 0 (mA B)) (fun r h' => (h'.1.2.1 ≤ 0 ∧ h'.1.2.2 ≤ 0) ∧ Q r h') q.2 q.1 :=
  mF (sn_iload_n (pc := 0) (j := 2) X (by decide +kernel) rfl) <|
  mF (sn_aload_n (pc := 1) (j := 0) X (by decide +kernel) rfl) <|
  mF (sn_iload_n (pc := 2) (j := 1) X (by decide +kernel) rfl) <|
  mF (sn_bipush (pc := 3) (n := 27) X (by decide +kernel) (by decide)) <|
  mF (sn_callV (pc := 5) X mc_X11_get (me_X11_get l B) yi_X11_get wd_995 wd_997 wd_12 (T := TX11) (N := 22) rfl (by decide) (by decide +kernel)) <|
  mF (sn_icmp_ge (pc := 8) (off := 17) X (by decide +kernel) (by decide)) <|
  mF (sn_aload_n (pc := 11) (j := 0) X (by decide +kernel) rfl) <|
  mF (sn_iload_n (pc := 12) (j := 1) X (by decide +kernel) rfl) <|
  mF (sn_bipush (pc := 13) (n := 28) X (by decide +kernel) (by decide)) <|
  mF (sn_iconst (pc := 15) (n := 2) X (by decide +kernel) (by decide)) <|
  mF (sn_iload_n (pc := 16) (j := 2) X (by decide +kernel) rfl) <|
  mF (sn_imul (pc := 17) X (by decide +kernel)) <|
  mF (sn_iadd (pc := 18) X (by decide +kernel)) <|
  mF (sn_callV (pc := 19) X mc_X11_get (me_X11_get l B) yi_X11_get wd_995 wd_997 wd_12 (T := TX11) (N := 22) rfl (by decide) (by decide +kernel)) <|
  mF (sn_goto (pc := 22) (off := 5) X (by decide +kernel) (by decide)) <|
  mF (sn_bipush (pc := 25) (n := (-32)) X (by decide +kernel) (by decide)) <|
  mF (sn_iret (pc := 27) X hr hk (by decide +kernel)) <|
  mF0
theorem me_X11_least (l : Launch) (B : mBs) : mMet l B yX11_least cX11_least 3 (some .int) 1 0 0 C_X11_least := mMet_of (own := RX11) (by decide) rfl (fun p e s m args below meth c Q X hr hk hn => sd_X11_least l B p e s m args below meth c Q X hr hk hn)
/-! PuppetStageModel.greatest(II)I: 19 instructions, depth 1, makes 0 cells of 0 slots -/
def tb_X11_greatest : mTb := [(0, aLI 2 1), (1, aLA 0 2), (2, aLI 1 3), (3, aPI 27 5), (5, aCV 11 2 C_X11_get 8), (8, aIc (fun x y => y ≤ x) 27 11), (11, aLA 0 12), (12, aLI 1 13), (13, aPI 28 15), (15, aPI 2 16), (16, aLI 2 17), (17, aB (fun x y => x * y) 18), (18, aB (fun x y => x + y) 19), (19, aPI 1 20), (20, aB (fun x y => x + y) 21), (21, aCV 11 2 C_X11_get 24), (24, aGo 29), (27, aPI 31 29), (29, aRI)]
theorem mt_X11_greatest : mMT tb_X11_greatest :=
  mF (mn_LI _ _) <|
  mF (mn_LA _ _) <|
  mF (mn_LI _ _) <|
  mF (mn_PI _ _) <|
  mF (mn_CV _ _ mc_X11_get _) <|
  mF (mn_Ic _ _ _) <|
  mF (mn_LA _ _) <|
  mF (mn_LI _ _) <|
  mF (mn_PI _ _) <|
  mF (mn_PI _ _) <|
  mF (mn_LI _ _) <|
  mF (mn_B _ _) <|
  mF (mn_B _ _) <|
  mF (mn_PI _ _) <|
  mF (mn_B _ _) <|
  mF (mn_CV _ _ mc_X11_get _) <|
  mF (mn_Go _) <|
  mF (mn_PI _ _) <|
  mF (mn_RI) <|
  mF0
def C_X11_greatest : mCo := mRun tb_X11_greatest 3
theorem mc_X11_greatest : mMC C_X11_greatest := mRun_mn mt_X11_greatest 3
theorem yi_X11_greatest : mYin yX11_greatest cX11_greatest 3 (some .int) 2 := ⟨wd_60, wd_1007, by decide +kernel, by decide⟩
set_option maxRecDepth 100000 in
set_option maxHeartbeats 4000000 in
theorem sd_X11_greatest (l : Launch) (B : mBs) (p : Program) (e : Env) (s : State) (m : MethodId) (args : Array Value) (below : List Frame) (meth : Method) (c : Code) (Q : mQo) (X : mCx l B RX11 cX11_greatest 3 p s m args c) (hr : meth.sig.returnType = (some .int)) (hk : meth.locks = false) (hn : meth.name = "greatest") : ∀ q ∈ tb_X11_greatest, mSnd l B 3 p e (mRm 1 0 0) s m args below meth c (MQ below (mPo B Q) args s 0 0 (mA B)) (fun r h' => (h'.1.2.1 ≤ 0 ∧ h'.1.2.2 ≤ 0) ∧ Q r h') q.2 q.1 :=
  mF (sn_iload_n (pc := 0) (j := 2) X (by decide +kernel) rfl) <|
  mF (sn_aload_n (pc := 1) (j := 0) X (by decide +kernel) rfl) <|
  mF (sn_iload_n (pc := 2) (j := 1) X (by decide +kernel) rfl) <|
  mF (sn_bipush (pc := 3) (n := 27) X (by decide +kernel) (by decide)) <|
  mF (sn_callV (pc := 5) X mc_X11_get (me_X11_get l B) yi_X11_get wd_995 wd_997 wd_12 (T := TX11) (N := 22) rfl (by decide) (by decide +kernel)) <|
  mF (sn_icmp_ge (pc := 8) (off := 19) X (by decide +kernel) (by decide)) <|
  mF (sn_aload_n (pc := 11) (j := 0) X (by decide +kernel) rfl) <|
  mF (sn_iload_n (pc := 12) (j := 1) X (by decide +kernel) rfl) <|
  mF (sn_bipush (pc := 13) (n := 28) X (by decide +kernel) (by decide)) <|
  mF (sn_iconst (pc := 15) (n := 2) X (by decide +kernel) (by decide)) <|
  mF (sn_iload_n (pc := 16) (j := 2) X (by decide +kernel) rfl) <|
  mF (sn_imul (pc := 17) X (by decide +kernel)) <|
  mF (sn_iadd (pc := 18) X (by decide +kernel)) <|
  mF (sn_iconst (pc := 19) (n := 1) X (by decide +kernel) (by decide)) <|
  mF (sn_iadd (pc := 20) X (by decide +kernel)) <|
  mF (sn_callV (pc := 21) X mc_X11_get (me_X11_get l B) yi_X11_get wd_995 wd_997 wd_12 (T := TX11) (N := 22) rfl (by decide) (by decide +kernel)) <|
  mF (sn_goto (pc := 24) (off := 5) X (by decide +kernel) (by decide)) <|
  mF (sn_bipush (pc := 27) (n := 31) X (by decide +kernel) (by decide)) <|
  mF (sn_iret (pc := 29) X hr hk (by decide +kernel)) <|
  mF0
theorem me_X11_greatest (l : Launch) (B : mBs) : mMet l B yX11_greatest cX11_greatest 3 (some .int) 1 0 0 C_X11_greatest := mMet_of (own := RX11) (by decide) rfl (fun p e s m args below meth c Q X hr hk hn => sd_X11_greatest l B p e s m args below meth c Q X hr hk hn)
/-! PuppetStageModel.limb(IIII)J: 96 instructions, depth 2, makes 0 cells of 0 slots -/
def tb_X11_limb_c0 : mTb := [(0, aLI 1 1), (1, aCS 1 C_X11_isPuppet 4), (4, aIf (fun x => x = 0) 44 7), (7, aLI 2 8), (8, aPI (-1) 9), (9, aLA 0 10), (10, aLI 1 11), (11, aPI 0 12), (12, aCV 11 2 C_X11_get 15), (15, aPI 1 16), (16, aB (fun x y => x - y) 17), (17, aCS 3 C_X11_isIn 20), (20, aIf (fun x => x = 0) 44 23), (23, aLI 3 24), (24, aPI 1 25), (25, aPI 100 27), (27, aCS 3 C_X11_isIn 30), (30, aIf (fun x => x = 0) 44 33), (33, aLI 4 35), (35, aPI 0 36), (36, aPI 50 38), (38, aCS 3 C_X11_isIn 41), (41, aIf (fun x => x = 0) 44 48), (44, aPL (-9000000000000000001) 47), (47, aRL), (48, aLA 0 49), (49, aLI 1 50), (50, aPI 0 51), (51, aCV 11 2 C_X11_get 54), (54, aSI 5 56), (56, aLI 5 58), (58, aPI 6 60), (60, aIc (fun x y => y ≤ x) 88 63), (63, aPI 0 64), (64, aLA 0 65), (65, aLI 1 66), (66, aLI 5 68), (68, aCV 11 2 C_X11_least 71), (71, aLA 0 72), (72, aLI 1 73), (73, aLI 5 75), (75, aCV 11 2 C_X11_greatest 78), (78, aCS 3 C_X11_isIn 81), (81, aIf (fun x => x = 0) 84 88), (84, aPL (-9000000000000000002) 87), (87, aRL), (88, aLI 5 90), (90, aPI 6 92), (92, aIc (fun x y => x = y) 95 99), (95, aPL (-9000000000000000003) 98), (98, aRL), (99, aLA 0 100), (100, aCV 11 0 C_X11_keep 103), (103, aLA 0 104), (104, aLI 1 105), (105, aPI 0 106), (106, aLI 5 108), (108, aPI 1 109), (109, aB (fun x y => x + y) 110), (110, aCV 11 3 C_X11_put 113), (113, aLA 0 114), (114, aLI 1 115), (115, aPI 1 116), (116, aLI 5 118), (118, aB (fun x y => x + y) 119), (119, aLI 3 120), (120, aCV 11 3 C_X11_put 123), (123, aLA 0 124), (124, aLI 1 125), (125, aPI 7 127)]
theorem mt_X11_limb_c0 : mMT tb_X11_limb_c0 :=
  mF (mn_LI _ _) <|
  mF (mn_CS _ mc_X11_isPuppet _) <|
  mF (mn_If _ _ _) <|
  mF (mn_LI _ _) <|
  mF (mn_PI _ _) <|
  mF (mn_LA _ _) <|
  mF (mn_LI _ _) <|
  mF (mn_PI _ _) <|
  mF (mn_CV _ _ mc_X11_get _) <|
  mF (mn_PI _ _) <|
  mF (mn_B _ _) <|
  mF (mn_CS _ mc_X11_isIn _) <|
  mF (mn_If _ _ _) <|
  mF (mn_LI _ _) <|
  mF (mn_PI _ _) <|
  mF (mn_PI _ _) <|
  mF (mn_CS _ mc_X11_isIn _) <|
  mF (mn_If _ _ _) <|
  mF (mn_LI _ _) <|
  mF (mn_PI _ _) <|
  mF (mn_PI _ _) <|
  mF (mn_CS _ mc_X11_isIn _) <|
  mF (mn_If _ _ _) <|
  mF (mn_PL _ _) <|
  mF (mn_RL) <|
  mF (mn_LA _ _) <|
  mF (mn_LI _ _) <|
  mF (mn_PI _ _) <|
  mF (mn_CV _ _ mc_X11_get _) <|
  mF (mn_SI _ _) <|
  mF (mn_LI _ _) <|
  mF (mn_PI _ _) <|
  mF (mn_Ic _ _ _) <|
  mF (mn_PI _ _) <|
  mF (mn_LA _ _) <|
  mF (mn_LI _ _) <|
  mF (mn_LI _ _) <|
  mF (mn_CV _ _ mc_X11_least _) <|
  mF (mn_LA _ _) <|
  mF (mn_LI _ _) <|
  mF (mn_LI _ _) <|
  mF (mn_CV _ _ mc_X11_greatest _) <|
  mF (mn_CS _ mc_X11_isIn _) <|
  mF (mn_If _ _ _) <|
  mF (mn_PL _ _) <|
  mF (mn_RL) <|
  mF (mn_LI _ _) <|
  mF (mn_PI _ _) <|
  mF (mn_Ic _ _ _) <|
  mF (mn_PL _ _) <|
  mF (mn_RL) <|
  mF (mn_LA _ _) <|
  mF (mn_CV _ _ mc_X11_keep _) <|
  mF (mn_LA _ _) <|
  mF (mn_LI _ _) <|
  mF (mn_PI _ _) <|
  mF (mn_LI _ _) <|
  mF (mn_PI _ _) <|
  mF (mn_B _ _) <|
  mF (mn_CV _ _ mc_X11_put _) <|
  mF (mn_LA _ _) <|
  mF (mn_LI _ _) <|
  mF (mn_PI _ _) <|
  mF (mn_LI _ _) <|
  mF (mn_B _ _) <|
  mF (mn_LI _ _) <|
  mF (mn_CV _ _ mc_X11_put _) <|
  mF (mn_LA _ _) <|
  mF (mn_LI _ _) <|
  mF (mn_PI _ _) <|
  mF0
def tb_X11_limb_c1 : mTb := [(127, aLI 5 129), (129, aB (fun x y => x + y) 130), (130, aLI 4 132), (132, aCV 11 3 C_X11_put 135), (135, aLA 0 136), (136, aLI 1 137), (137, aPI 13 139), (139, aLI 5 141), (141, aB (fun x y => x + y) 142), (142, aLI 2 143), (143, aCV 11 3 C_X11_put 146), (146, aLA 0 147), (147, aLI 1 148), (148, aPI 19 150), (150, aLI 5 152), (152, aB (fun x y => x + y) 153), (153, aPI 0 154), (154, aCV 11 3 C_X11_put 157), (157, aLA 0 158), (158, aLI 1 159), (159, aPI 166 162), (162, aPI 0 163), (163, aCV 11 3 C_X11_put 166), (166, aLI 5 168), (168, aI2L 169), (169, aRL)]
theorem mt_X11_limb_c1 : mMT tb_X11_limb_c1 :=
  mF (mn_LI _ _) <|
  mF (mn_B _ _) <|
  mF (mn_LI _ _) <|
  mF (mn_CV _ _ mc_X11_put _) <|
  mF (mn_LA _ _) <|
  mF (mn_LI _ _) <|
  mF (mn_PI _ _) <|
  mF (mn_LI _ _) <|
  mF (mn_B _ _) <|
  mF (mn_LI _ _) <|
  mF (mn_CV _ _ mc_X11_put _) <|
  mF (mn_LA _ _) <|
  mF (mn_LI _ _) <|
  mF (mn_PI _ _) <|
  mF (mn_LI _ _) <|
  mF (mn_B _ _) <|
  mF (mn_PI _ _) <|
  mF (mn_CV _ _ mc_X11_put _) <|
  mF (mn_LA _ _) <|
  mF (mn_LI _ _) <|
  mF (mn_PI _ _) <|
  mF (mn_PI _ _) <|
  mF (mn_CV _ _ mc_X11_put _) <|
  mF (mn_LI _ _) <|
  mF (mn_I2L _) <|
  mF (mn_RL) <|
  mF0
def tb_X11_limb : mTb := tb_X11_limb_c0 ++ (tb_X11_limb_c1)
theorem mt_X11_limb : mMT tb_X11_limb := mFA mt_X11_limb_c0 mt_X11_limb_c1
def C_X11_limb : mCo := mRun tb_X11_limb 6
theorem mc_X11_limb : mMC C_X11_limb := mRun_mn mt_X11_limb 6
theorem yi_X11_limb : mYin yX11_limb cX11_limb 6 (some .long) 4 := ⟨wd_60, wd_988, by decide +kernel, by decide⟩
set_option maxRecDepth 100000 in
set_option maxHeartbeats 4000000 in
theorem sd_X11_limb_c0 (l : Launch) (B : mBs) (p : Program) (e : Env) (s : State) (m : MethodId) (args : Array Value) (below : List Frame) (meth : Method) (c : Code) (Q : mQo) (X : mCx l B RX11 cX11_limb 6 p s m args c) (hr : meth.sig.returnType = (some .long)) (hk : meth.locks = false) (hn : meth.name = "limb") : ∀ q ∈ tb_X11_limb_c0, mSnd l B 6 p e (mRm 2 0 0) s m args below meth c (MQ below (mPo B Q) args s 0 0 (mA B)) (fun r h' => (h'.1.2.1 ≤ 0 ∧ h'.1.2.2 ≤ 0) ∧ Q r h') q.2 q.1 :=
  mF (sn_iload_n (pc := 0) (j := 1) X (by decide +kernel) rfl) <|
  mF (sn_callS (pc := 1) X mc_X11_isPuppet (me_X11_isPuppet l B) yi_X11_isPuppet wd_989 wd_990 (by decide) (by decide +kernel)) <|
  mF (sn_if_eq (pc := 4) (off := 40) X (by decide +kernel) (by decide)) <|
  mF (sn_iload_n (pc := 7) (j := 2) X (by decide +kernel) rfl) <|
  mF (sn_iconst (pc := 8) (n := (-1)) X (by decide +kernel) (by decide)) <|
  mF (sn_aload_n (pc := 9) (j := 0) X (by decide +kernel) rfl) <|
  mF (sn_iload_n (pc := 10) (j := 1) X (by decide +kernel) rfl) <|
  mF (sn_iconst (pc := 11) (n := 0) X (by decide +kernel) (by decide)) <|
  mF (sn_callV (pc := 12) X mc_X11_get (me_X11_get l B) yi_X11_get wd_995 wd_997 wd_12 (T := TX11) (N := 22) rfl (by decide) (by decide +kernel)) <|
  mF (sn_iconst (pc := 15) (n := 1) X (by decide +kernel) (by decide)) <|
  mF (sn_isub (pc := 16) X (by decide +kernel)) <|
  mF (sn_callS (pc := 17) X mc_X11_isIn (me_X11_isIn l B) yi_X11_isIn wd_992 wd_993 (by decide) (by decide +kernel)) <|
  mF (sn_if_eq (pc := 20) (off := 24) X (by decide +kernel) (by decide)) <|
  mF (sn_iload_n (pc := 23) (j := 3) X (by decide +kernel) rfl) <|
  mF (sn_iconst (pc := 24) (n := 1) X (by decide +kernel) (by decide)) <|
  mF (sn_bipush (pc := 25) (n := 100) X (by decide +kernel) (by decide)) <|
  mF (sn_callS (pc := 27) X mc_X11_isIn (me_X11_isIn l B) yi_X11_isIn wd_992 wd_993 (by decide) (by decide +kernel)) <|
  mF (sn_if_eq (pc := 30) (off := 14) X (by decide +kernel) (by decide)) <|
  mF (sn_iload (pc := 33) X (by decide +kernel)) <|
  mF (sn_iconst (pc := 35) (n := 0) X (by decide +kernel) (by decide)) <|
  mF (sn_bipush (pc := 36) (n := 50) X (by decide +kernel) (by decide)) <|
  mF (sn_callS (pc := 38) X mc_X11_isIn (me_X11_isIn l B) yi_X11_isIn wd_992 wd_993 (by decide) (by decide +kernel)) <|
  mF (sn_if_ne (pc := 41) (off := 7) X (by decide +kernel) (by decide)) <|
  mF (sn_ldc2 (pc := 44) X (by decide +kernel) wd_999) <|
  mF (sn_lret (pc := 47) X hr hk (by decide +kernel)) <|
  mF (sn_aload_n (pc := 48) (j := 0) X (by decide +kernel) rfl) <|
  mF (sn_iload_n (pc := 49) (j := 1) X (by decide +kernel) rfl) <|
  mF (sn_iconst (pc := 50) (n := 0) X (by decide +kernel) (by decide)) <|
  mF (sn_callV (pc := 51) X mc_X11_get (me_X11_get l B) yi_X11_get wd_995 wd_997 wd_12 (T := TX11) (N := 22) rfl (by decide) (by decide +kernel)) <|
  mF (sn_istore (pc := 54) X (by decide +kernel) (by decide)) <|
  mF (sn_iload (pc := 56) X (by decide +kernel)) <|
  mF (sn_bipush (pc := 58) (n := 6) X (by decide +kernel) (by decide)) <|
  mF (sn_icmp_ge (pc := 60) (off := 28) X (by decide +kernel) (by decide)) <|
  mF (sn_iconst (pc := 63) (n := 0) X (by decide +kernel) (by decide)) <|
  mF (sn_aload_n (pc := 64) (j := 0) X (by decide +kernel) rfl) <|
  mF (sn_iload_n (pc := 65) (j := 1) X (by decide +kernel) rfl) <|
  mF (sn_iload (pc := 66) X (by decide +kernel)) <|
  mF (sn_callV (pc := 68) X mc_X11_least (me_X11_least l B) yi_X11_least wd_1000 wd_1002 wd_13 (T := TX11) (N := 22) rfl (by decide) (by decide +kernel)) <|
  mF (sn_aload_n (pc := 71) (j := 0) X (by decide +kernel) rfl) <|
  mF (sn_iload_n (pc := 72) (j := 1) X (by decide +kernel) rfl) <|
  mF (sn_iload (pc := 73) X (by decide +kernel)) <|
  mF (sn_callV (pc := 75) X mc_X11_greatest (me_X11_greatest l B) yi_X11_greatest wd_1004 wd_1006 wd_14 (T := TX11) (N := 22) rfl (by decide) (by decide +kernel)) <|
  mF (sn_callS (pc := 78) X mc_X11_isIn (me_X11_isIn l B) yi_X11_isIn wd_992 wd_993 (by decide) (by decide +kernel)) <|
  mF (sn_if_ne (pc := 81) (off := 7) X (by decide +kernel) (by decide)) <|
  mF (sn_ldc2 (pc := 84) X (by decide +kernel) wd_984) <|
  mF (sn_lret (pc := 87) X hr hk (by decide +kernel)) <|
  mF (sn_iload (pc := 88) X (by decide +kernel)) <|
  mF (sn_bipush (pc := 90) (n := 6) X (by decide +kernel) (by decide)) <|
  mF (sn_icmp_ne (pc := 92) (off := 7) X (by decide +kernel) (by decide)) <|
  mF (sn_ldc2 (pc := 95) X (by decide +kernel) wd_1008) <|
  mF (sn_lret (pc := 98) X hr hk (by decide +kernel)) <|
  mF (sn_aload_n (pc := 99) (j := 0) X (by decide +kernel) rfl) <|
  mF (sn_callV (pc := 100) X mc_X11_keep (me_X11_keep l B) yi_X11_keep wd_1009 wd_1011 wd_15 (T := TX11) (N := 22) rfl (by decide) (by decide +kernel)) <|
  mF (sn_aload_n (pc := 103) (j := 0) X (by decide +kernel) rfl) <|
  mF (sn_iload_n (pc := 104) (j := 1) X (by decide +kernel) rfl) <|
  mF (sn_iconst (pc := 105) (n := 0) X (by decide +kernel) (by decide)) <|
  mF (sn_iload (pc := 106) X (by decide +kernel)) <|
  mF (sn_iconst (pc := 108) (n := 1) X (by decide +kernel) (by decide)) <|
  mF (sn_iadd (pc := 109) X (by decide +kernel)) <|
  mF (sn_callV (pc := 110) X mc_X11_put (me_X11_put l B) yi_X11_put wd_1013 wd_1015 wd_16 (T := TX11) (N := 22) rfl (by decide) (by decide +kernel)) <|
  mF (sn_aload_n (pc := 113) (j := 0) X (by decide +kernel) rfl) <|
  mF (sn_iload_n (pc := 114) (j := 1) X (by decide +kernel) rfl) <|
  mF (sn_iconst (pc := 115) (n := 1) X (by decide +kernel) (by decide)) <|
  mF (sn_iload (pc := 116) X (by decide +kernel)) <|
  mF (sn_iadd (pc := 118) X (by decide +kernel)) <|
  mF (sn_iload_n (pc := 119) (j := 3) X (by decide +kernel) rfl) <|
  mF (sn_callV (pc := 120) X mc_X11_put (me_X11_put l B) yi_X11_put wd_1013 wd_1015 wd_16 (T := TX11) (N := 22) rfl (by decide) (by decide +kernel)) <|
  mF (sn_aload_n (pc := 123) (j := 0) X (by decide +kernel) rfl) <|
  mF (sn_iload_n (pc := 124) (j := 1) X (by decide +kernel) rfl) <|
  mF (sn_bipush (pc := 125) (n := 7) X (by decide +kernel) (by decide)) <|
  mF0
set_option maxRecDepth 100000 in
set_option maxHeartbeats 4000000 in
theorem sd_X11_limb_c1 (l : Launch) (B : mBs) (p : Program) (e : Env) (s : State) (m : MethodId) (args : Array Value) (below : List Frame) (meth : Method) (c : Code) (Q : mQo) (X : mCx l B RX11 cX11_limb 6 p s m args c) (hr : meth.sig.returnType = (some .long)) (hk : meth.locks = false) (hn : meth.name = "limb") : ∀ q ∈ tb_X11_limb_c1, mSnd l B 6 p e (mRm 2 0 0) s m args below meth c (MQ below (mPo B Q) args s 0 0 (mA B)) (fun r h' => (h'.1.2.1 ≤ 0 ∧ h'.1.2.2 ≤ 0) ∧ Q r h') q.2 q.1 :=
  mF (sn_iload (pc := 127) X (by decide +kernel)) <|
  mF (sn_iadd (pc := 129) X (by decide +kernel)) <|
  mF (sn_iload (pc := 130) X (by decide +kernel)) <|
  mF (sn_callV (pc := 132) X mc_X11_put (me_X11_put l B) yi_X11_put wd_1013 wd_1015 wd_16 (T := TX11) (N := 22) rfl (by decide) (by decide +kernel)) <|
  mF (sn_aload_n (pc := 135) (j := 0) X (by decide +kernel) rfl) <|
  mF (sn_iload_n (pc := 136) (j := 1) X (by decide +kernel) rfl) <|
  mF (sn_bipush (pc := 137) (n := 13) X (by decide +kernel) (by decide)) <|
  mF (sn_iload (pc := 139) X (by decide +kernel)) <|
  mF (sn_iadd (pc := 141) X (by decide +kernel)) <|
  mF (sn_iload_n (pc := 142) (j := 2) X (by decide +kernel) rfl) <|
  mF (sn_callV (pc := 143) X mc_X11_put (me_X11_put l B) yi_X11_put wd_1013 wd_1015 wd_16 (T := TX11) (N := 22) rfl (by decide) (by decide +kernel)) <|
  mF (sn_aload_n (pc := 146) (j := 0) X (by decide +kernel) rfl) <|
  mF (sn_iload_n (pc := 147) (j := 1) X (by decide +kernel) rfl) <|
  mF (sn_bipush (pc := 148) (n := 19) X (by decide +kernel) (by decide)) <|
  mF (sn_iload (pc := 150) X (by decide +kernel)) <|
  mF (sn_iadd (pc := 152) X (by decide +kernel)) <|
  mF (sn_iconst (pc := 153) (n := 0) X (by decide +kernel) (by decide)) <|
  mF (sn_callV (pc := 154) X mc_X11_put (me_X11_put l B) yi_X11_put wd_1013 wd_1015 wd_16 (T := TX11) (N := 22) rfl (by decide) (by decide +kernel)) <|
  mF (sn_aload_n (pc := 157) (j := 0) X (by decide +kernel) rfl) <|
  mF (sn_iload_n (pc := 158) (j := 1) X (by decide +kernel) rfl) <|
  mF (sn_sipush (pc := 159) (n := 166) X (by decide +kernel) (by decide)) <|
  mF (sn_iconst (pc := 162) (n := 0) X (by decide +kernel) (by decide)) <|
  mF (sn_callV (pc := 163) X mc_X11_put (me_X11_put l B) yi_X11_put wd_1013 wd_1015 wd_16 (T := TX11) (N := 22) rfl (by decide) (by decide +kernel)) <|
  mF (sn_iload (pc := 166) X (by decide +kernel)) <|
  mF (sn_i2l (pc := 168) X (by decide +kernel)) <|
  mF (sn_lret (pc := 169) X hr hk (by decide +kernel)) <|
  mF0
theorem sd_X11_limb (l : Launch) (B : mBs) (p : Program) (e : Env) (s : State) (m : MethodId) (args : Array Value) (below : List Frame) (meth : Method) (c : Code) (Q : mQo) (X : mCx l B RX11 cX11_limb 6 p s m args c) (hr : meth.sig.returnType = (some .long)) (hk : meth.locks = false) (hn : meth.name = "limb") : ∀ q ∈ tb_X11_limb, mSnd l B 6 p e (mRm 2 0 0) s m args below meth c (MQ below (mPo B Q) args s 0 0 (mA B)) (fun r h' => (h'.1.2.1 ≤ 0 ∧ h'.1.2.2 ≤ 0) ∧ Q r h') q.2 q.1 := mFA (sd_X11_limb_c0 l B p e s m args below meth c Q X hr hk hn) (sd_X11_limb_c1 l B p e s m args below meth c Q X hr hk hn)
theorem me_X11_limb (l : Launch) (B : mBs) : mMet l B yX11_limb cX11_limb 6 (some .long) 2 0 0 C_X11_limb := mMet_of (own := RX11) (by decide) rfl (fun p e s m args below meth c Q X hr hk hn => sd_X11_limb l B p e s m args below meth c Q X hr hk hn)
/-! PuppetStageModel.dropHold(II)V: 32 instructions, depth 1, makes 0 cells of 0 slots -/
def tb_X11_dropHold : mTb := [(0, aPI 56 2), (2, aPI 6 4), (4, aLI 2 5), (5, aB (fun x y => x * y) 6), (6, aB (fun x y => x + y) 7), (7, aSI 3 8), (8, aLI 3 9), (9, aPI 122 11), (11, aIc (fun x y => y ≤ x) 35 14), (14, aLA 0 15), (15, aLI 1 16), (16, aLI 3 17), (17, aLA 0 18), (18, aLI 1 19), (19, aLI 3 20), (20, aPI 6 22), (22, aB (fun x y => x + y) 23), (23, aCV 11 2 C_X11_get 26), (26, aCV 11 3 C_X11_put 29), (29, aInc 3 1 32), (32, aGo 8), (35, aLA 0 36), (36, aLI 1 37), (37, aPI 55 39), (39, aLA 0 40), (40, aLI 1 41), (41, aPI 55 43), (43, aCV 11 2 C_X11_get 46), (46, aPI 1 47), (47, aB (fun x y => x - y) 48), (48, aCV 11 3 C_X11_put 51), (51, aRV)]
theorem mt_X11_dropHold : mMT tb_X11_dropHold :=
  mF (mn_PI _ _) <|
  mF (mn_PI _ _) <|
  mF (mn_LI _ _) <|
  mF (mn_B _ _) <|
  mF (mn_B _ _) <|
  mF (mn_SI _ _) <|
  mF (mn_LI _ _) <|
  mF (mn_PI _ _) <|
  mF (mn_Ic _ _ _) <|
  mF (mn_LA _ _) <|
  mF (mn_LI _ _) <|
  mF (mn_LI _ _) <|
  mF (mn_LA _ _) <|
  mF (mn_LI _ _) <|
  mF (mn_LI _ _) <|
  mF (mn_PI _ _) <|
  mF (mn_B _ _) <|
  mF (mn_CV _ _ mc_X11_get _) <|
  mF (mn_CV _ _ mc_X11_put _) <|
  mF (mn_Inc _ _ _) <|
  mF (mn_Go _) <|
  mF (mn_LA _ _) <|
  mF (mn_LI _ _) <|
  mF (mn_PI _ _) <|
  mF (mn_LA _ _) <|
  mF (mn_LI _ _) <|
  mF (mn_PI _ _) <|
  mF (mn_CV _ _ mc_X11_get _) <|
  mF (mn_PI _ _) <|
  mF (mn_B _ _) <|
  mF (mn_CV _ _ mc_X11_put _) <|
  mF (mn_RV) <|
  mF0
def C_X11_dropHold : mCo := mRun tb_X11_dropHold 4
theorem mc_X11_dropHold : mMC C_X11_dropHold := mRun_mn mt_X11_dropHold 4
theorem yi_X11_dropHold : mYin yX11_dropHold cX11_dropHold 4 none 2 := ⟨wd_60, wd_1028, by decide +kernel, by decide⟩
set_option maxRecDepth 100000 in
set_option maxHeartbeats 4000000 in
theorem sd_X11_dropHold (l : Launch) (B : mBs) (p : Program) (e : Env) (s : State) (m : MethodId) (args : Array Value) (below : List Frame) (meth : Method) (c : Code) (Q : mQo) (X : mCx l B RX11 cX11_dropHold 4 p s m args c) (hr : meth.sig.returnType = none) (hk : meth.locks = false) (hn : meth.name = "dropHold") : ∀ q ∈ tb_X11_dropHold, mSnd l B 4 p e (mRm 1 0 0) s m args below meth c (MQ below (mPo B Q) args s 0 0 (mA B)) (fun r h' => (h'.1.2.1 ≤ 0 ∧ h'.1.2.2 ≤ 0) ∧ Q r h') q.2 q.1 :=
  mF (sn_bipush (pc := 0) (n := 56) X (by decide +kernel) (by decide)) <|
  mF (sn_bipush (pc := 2) (n := 6) X (by decide +kernel) (by decide)) <|
  mF (sn_iload_n (pc := 4) (j := 2) X (by decide +kernel) rfl) <|
  mF (sn_imul (pc := 5) X (by decide +kernel)) <|
  mF (sn_iadd (pc := 6) X (by decide +kernel)) <|
  mF (sn_istore_n (pc := 7) (j := 3) X (by decide +kernel) rfl (by decide)) <|
  mF (sn_iload_n (pc := 8) (j := 3) X (by decide +kernel) rfl) <|
  mF (sn_bipush (pc := 9) (n := 122) X (by decide +kernel) (by decide)) <|
  mF (sn_icmp_ge (pc := 11) (off := 24) X (by decide +kernel) (by decide)) <|
  mF (sn_aload_n (pc := 14) (j := 0) X (by decide +kernel) rfl) <|
  mF (sn_iload_n (pc := 15) (j := 1) X (by decide +kernel) rfl) <|
  mF (sn_iload_n (pc := 16) (j := 3) X (by decide +kernel) rfl) <|
  mF (sn_aload_n (pc := 17) (j := 0) X (by decide +kernel) rfl) <|
  mF (sn_iload_n (pc := 18) (j := 1) X (by decide +kernel) rfl) <|
  mF (sn_iload_n (pc := 19) (j := 3) X (by decide +kernel) rfl) <|
  mF (sn_bipush (pc := 20) (n := 6) X (by decide +kernel) (by decide)) <|
  mF (sn_iadd (pc := 22) X (by decide +kernel)) <|
  mF (sn_callV (pc := 23) X mc_X11_get (me_X11_get l B) yi_X11_get wd_995 wd_997 wd_12 (T := TX11) (N := 22) rfl (by decide) (by decide +kernel)) <|
  mF (sn_callV (pc := 26) X mc_X11_put (me_X11_put l B) yi_X11_put wd_1013 wd_1015 wd_16 (T := TX11) (N := 22) rfl (by decide) (by decide +kernel)) <|
  mF (sn_iinc (pc := 29) (n := 1) X (by decide +kernel) (by decide) (by decide)) <|
  mF (sn_goto (pc := 32) (off := (-24)) X (by decide +kernel) (by decide)) <|
  mF (sn_aload_n (pc := 35) (j := 0) X (by decide +kernel) rfl) <|
  mF (sn_iload_n (pc := 36) (j := 1) X (by decide +kernel) rfl) <|
  mF (sn_bipush (pc := 37) (n := 55) X (by decide +kernel) (by decide)) <|
  mF (sn_aload_n (pc := 39) (j := 0) X (by decide +kernel) rfl) <|
  mF (sn_iload_n (pc := 40) (j := 1) X (by decide +kernel) rfl) <|
  mF (sn_bipush (pc := 41) (n := 55) X (by decide +kernel) (by decide)) <|
  mF (sn_callV (pc := 43) X mc_X11_get (me_X11_get l B) yi_X11_get wd_995 wd_997 wd_12 (T := TX11) (N := 22) rfl (by decide) (by decide +kernel)) <|
  mF (sn_iconst (pc := 46) (n := 1) X (by decide +kernel) (by decide)) <|
  mF (sn_isub (pc := 47) X (by decide +kernel)) <|
  mF (sn_callV (pc := 48) X mc_X11_put (me_X11_put l B) yi_X11_put wd_1013 wd_1015 wd_16 (T := TX11) (N := 22) rfl (by decide) (by decide +kernel)) <|
  mF (sn_vret (pc := 51) X hr hk (by decide +kernel)) <|
  mF0
theorem me_X11_dropHold (l : Launch) (B : mBs) : mMet l B yX11_dropHold cX11_dropHold 4 none 1 0 0 C_X11_dropHold := mMet_of (own := RX11) (by decide) rfl (fun p e s m args below meth c Q X hr hk hn => sd_X11_dropHold l B p e s m args below meth c Q X hr hk hn)
/-! PuppetStageModel.lose(I)J: 58 instructions, depth 2, makes 0 cells of 0 slots -/
def tb_X11_lose : mTb := [(0, aLI 1 1), (1, aCS 1 C_X11_isPuppet 4), (4, aIf (fun x => x = 0) 7 11), (7, aPL (-9000000000000000001) 10), (10, aRL), (11, aLA 0 12), (12, aLI 1 13), (13, aPI 0 14), (14, aCV 11 2 C_X11_get 17), (17, aPI 1 18), (18, aB (fun x y => x - y) 19), (19, aSI 2 20), (20, aLI 2 21), (21, aIf (fun x => 0 ≤ x) 28 24), (24, aPL (-9000000000000000002) 27), (27, aRL), (28, aLA 0 29), (29, aCV 11 0 C_X11_keep 32), (32, aLA 0 33), (33, aLI 1 34), (34, aPI 55 36), (36, aCV 11 2 C_X11_get 39), (39, aPI 1 40), (40, aB (fun x y => x - y) 41), (41, aSI 3 42), (42, aLI 3 43), (43, aIf (fun x => x < 0) 69 46), (46, aLA 0 47), (47, aLI 1 48), (48, aLI 3 49), (49, aPI 1 50), (50, aCV 11 3 C_X11_of 53), (53, aLI 2 54), (54, aIc (fun x y => x = y) 57 63), (57, aLA 0 58), (58, aLI 1 59), (59, aLI 3 60), (60, aCV 11 2 C_X11_dropHold 63), (63, aInc 3 (-1) 66), (66, aGo 42), (69, aLA 0 70), (70, aLI 1 71), (71, aPI 0 72), (72, aLI 2 73), (73, aCV 11 3 C_X11_put 76), (76, aLA 0 77), (77, aLI 1 78), (78, aPI 166 81), (81, aPI 0 82), (82, aCV 11 3 C_X11_put 85), (85, aLA 0 86), (86, aLI 1 87), (87, aPI 1 88), (88, aLI 2 89), (89, aB (fun x y => x + y) 90), (90, aCV 11 2 C_X11_get 93), (93, aI2L 94), (94, aRL)]
theorem mt_X11_lose : mMT tb_X11_lose :=
  mF (mn_LI _ _) <|
  mF (mn_CS _ mc_X11_isPuppet _) <|
  mF (mn_If _ _ _) <|
  mF (mn_PL _ _) <|
  mF (mn_RL) <|
  mF (mn_LA _ _) <|
  mF (mn_LI _ _) <|
  mF (mn_PI _ _) <|
  mF (mn_CV _ _ mc_X11_get _) <|
  mF (mn_PI _ _) <|
  mF (mn_B _ _) <|
  mF (mn_SI _ _) <|
  mF (mn_LI _ _) <|
  mF (mn_If _ _ _) <|
  mF (mn_PL _ _) <|
  mF (mn_RL) <|
  mF (mn_LA _ _) <|
  mF (mn_CV _ _ mc_X11_keep _) <|
  mF (mn_LA _ _) <|
  mF (mn_LI _ _) <|
  mF (mn_PI _ _) <|
  mF (mn_CV _ _ mc_X11_get _) <|
  mF (mn_PI _ _) <|
  mF (mn_B _ _) <|
  mF (mn_SI _ _) <|
  mF (mn_LI _ _) <|
  mF (mn_If _ _ _) <|
  mF (mn_LA _ _) <|
  mF (mn_LI _ _) <|
  mF (mn_LI _ _) <|
  mF (mn_PI _ _) <|
  mF (mn_CV _ _ mc_X11_of _) <|
  mF (mn_LI _ _) <|
  mF (mn_Ic _ _ _) <|
  mF (mn_LA _ _) <|
  mF (mn_LI _ _) <|
  mF (mn_LI _ _) <|
  mF (mn_CV _ _ mc_X11_dropHold _) <|
  mF (mn_Inc _ _ _) <|
  mF (mn_Go _) <|
  mF (mn_LA _ _) <|
  mF (mn_LI _ _) <|
  mF (mn_PI _ _) <|
  mF (mn_LI _ _) <|
  mF (mn_CV _ _ mc_X11_put _) <|
  mF (mn_LA _ _) <|
  mF (mn_LI _ _) <|
  mF (mn_PI _ _) <|
  mF (mn_PI _ _) <|
  mF (mn_CV _ _ mc_X11_put _) <|
  mF (mn_LA _ _) <|
  mF (mn_LI _ _) <|
  mF (mn_PI _ _) <|
  mF (mn_LI _ _) <|
  mF (mn_B _ _) <|
  mF (mn_CV _ _ mc_X11_get _) <|
  mF (mn_I2L _) <|
  mF (mn_RL) <|
  mF0
def C_X11_lose : mCo := mRun tb_X11_lose 4
theorem mc_X11_lose : mMC C_X11_lose := mRun_mn mt_X11_lose 4
theorem yi_X11_lose : mYin yX11_lose cX11_lose 4 (some .long) 1 := ⟨wd_60, wd_1020, by decide +kernel, by decide⟩
set_option maxRecDepth 100000 in
set_option maxHeartbeats 4000000 in
theorem sd_X11_lose (l : Launch) (B : mBs) (p : Program) (e : Env) (s : State) (m : MethodId) (args : Array Value) (below : List Frame) (meth : Method) (c : Code) (Q : mQo) (X : mCx l B RX11 cX11_lose 4 p s m args c) (hr : meth.sig.returnType = (some .long)) (hk : meth.locks = false) (hn : meth.name = "lose") : ∀ q ∈ tb_X11_lose, mSnd l B 4 p e (mRm 2 0 0) s m args below meth c (MQ below (mPo B Q) args s 0 0 (mA B)) (fun r h' => (h'.1.2.1 ≤ 0 ∧ h'.1.2.2 ≤ 0) ∧ Q r h') q.2 q.1 :=
  mF (sn_iload_n (pc := 0) (j := 1) X (by decide +kernel) rfl) <|
  mF (sn_callS (pc := 1) X mc_X11_isPuppet (me_X11_isPuppet l B) yi_X11_isPuppet wd_989 wd_990 (by decide) (by decide +kernel)) <|
  mF (sn_if_ne (pc := 4) (off := 7) X (by decide +kernel) (by decide)) <|
  mF (sn_ldc2 (pc := 7) X (by decide +kernel) wd_999) <|
  mF (sn_lret (pc := 10) X hr hk (by decide +kernel)) <|
  mF (sn_aload_n (pc := 11) (j := 0) X (by decide +kernel) rfl) <|
  mF (sn_iload_n (pc := 12) (j := 1) X (by decide +kernel) rfl) <|
  mF (sn_iconst (pc := 13) (n := 0) X (by decide +kernel) (by decide)) <|
  mF (sn_callV (pc := 14) X mc_X11_get (me_X11_get l B) yi_X11_get wd_995 wd_997 wd_12 (T := TX11) (N := 22) rfl (by decide) (by decide +kernel)) <|
  mF (sn_iconst (pc := 17) (n := 1) X (by decide +kernel) (by decide)) <|
  mF (sn_isub (pc := 18) X (by decide +kernel)) <|
  mF (sn_istore_n (pc := 19) (j := 2) X (by decide +kernel) rfl (by decide)) <|
  mF (sn_iload_n (pc := 20) (j := 2) X (by decide +kernel) rfl) <|
  mF (sn_if_ge (pc := 21) (off := 7) X (by decide +kernel) (by decide)) <|
  mF (sn_ldc2 (pc := 24) X (by decide +kernel) wd_984) <|
  mF (sn_lret (pc := 27) X hr hk (by decide +kernel)) <|
  mF (sn_aload_n (pc := 28) (j := 0) X (by decide +kernel) rfl) <|
  mF (sn_callV (pc := 29) X mc_X11_keep (me_X11_keep l B) yi_X11_keep wd_1009 wd_1011 wd_15 (T := TX11) (N := 22) rfl (by decide) (by decide +kernel)) <|
  mF (sn_aload_n (pc := 32) (j := 0) X (by decide +kernel) rfl) <|
  mF (sn_iload_n (pc := 33) (j := 1) X (by decide +kernel) rfl) <|
  mF (sn_bipush (pc := 34) (n := 55) X (by decide +kernel) (by decide)) <|
  mF (sn_callV (pc := 36) X mc_X11_get (me_X11_get l B) yi_X11_get wd_995 wd_997 wd_12 (T := TX11) (N := 22) rfl (by decide) (by decide +kernel)) <|
  mF (sn_iconst (pc := 39) (n := 1) X (by decide +kernel) (by decide)) <|
  mF (sn_isub (pc := 40) X (by decide +kernel)) <|
  mF (sn_istore_n (pc := 41) (j := 3) X (by decide +kernel) rfl (by decide)) <|
  mF (sn_iload_n (pc := 42) (j := 3) X (by decide +kernel) rfl) <|
  mF (sn_if_lt (pc := 43) (off := 26) X (by decide +kernel) (by decide)) <|
  mF (sn_aload_n (pc := 46) (j := 0) X (by decide +kernel) rfl) <|
  mF (sn_iload_n (pc := 47) (j := 1) X (by decide +kernel) rfl) <|
  mF (sn_iload_n (pc := 48) (j := 3) X (by decide +kernel) rfl) <|
  mF (sn_iconst (pc := 49) (n := 1) X (by decide +kernel) (by decide)) <|
  mF (sn_callV (pc := 50) X mc_X11_of (me_X11_of l B) yi_X11_of wd_1021 wd_1023 wd_17 (T := TX11) (N := 22) rfl (by decide) (by decide +kernel)) <|
  mF (sn_iload_n (pc := 53) (j := 2) X (by decide +kernel) rfl) <|
  mF (sn_icmp_ne (pc := 54) (off := 9) X (by decide +kernel) (by decide)) <|
  mF (sn_aload_n (pc := 57) (j := 0) X (by decide +kernel) rfl) <|
  mF (sn_iload_n (pc := 58) (j := 1) X (by decide +kernel) rfl) <|
  mF (sn_iload_n (pc := 59) (j := 3) X (by decide +kernel) rfl) <|
  mF (sn_callV (pc := 60) X mc_X11_dropHold (me_X11_dropHold l B) yi_X11_dropHold wd_1025 wd_1027 wd_18 (T := TX11) (N := 22) rfl (by decide) (by decide +kernel)) <|
  mF (sn_iinc (pc := 63) (n := (-1)) X (by decide +kernel) (by decide) (by decide)) <|
  mF (sn_goto (pc := 66) (off := (-24)) X (by decide +kernel) (by decide)) <|
  mF (sn_aload_n (pc := 69) (j := 0) X (by decide +kernel) rfl) <|
  mF (sn_iload_n (pc := 70) (j := 1) X (by decide +kernel) rfl) <|
  mF (sn_iconst (pc := 71) (n := 0) X (by decide +kernel) (by decide)) <|
  mF (sn_iload_n (pc := 72) (j := 2) X (by decide +kernel) rfl) <|
  mF (sn_callV (pc := 73) X mc_X11_put (me_X11_put l B) yi_X11_put wd_1013 wd_1015 wd_16 (T := TX11) (N := 22) rfl (by decide) (by decide +kernel)) <|
  mF (sn_aload_n (pc := 76) (j := 0) X (by decide +kernel) rfl) <|
  mF (sn_iload_n (pc := 77) (j := 1) X (by decide +kernel) rfl) <|
  mF (sn_sipush (pc := 78) (n := 166) X (by decide +kernel) (by decide)) <|
  mF (sn_iconst (pc := 81) (n := 0) X (by decide +kernel) (by decide)) <|
  mF (sn_callV (pc := 82) X mc_X11_put (me_X11_put l B) yi_X11_put wd_1013 wd_1015 wd_16 (T := TX11) (N := 22) rfl (by decide) (by decide +kernel)) <|
  mF (sn_aload_n (pc := 85) (j := 0) X (by decide +kernel) rfl) <|
  mF (sn_iload_n (pc := 86) (j := 1) X (by decide +kernel) rfl) <|
  mF (sn_iconst (pc := 87) (n := 1) X (by decide +kernel) (by decide)) <|
  mF (sn_iload_n (pc := 88) (j := 2) X (by decide +kernel) rfl) <|
  mF (sn_iadd (pc := 89) X (by decide +kernel)) <|
  mF (sn_callV (pc := 90) X mc_X11_get (me_X11_get l B) yi_X11_get wd_995 wd_997 wd_12 (T := TX11) (N := 22) rfl (by decide) (by decide +kernel)) <|
  mF (sn_i2l (pc := 93) X (by decide +kernel)) <|
  mF (sn_lret (pc := 94) X hr hk (by decide +kernel)) <|
  mF0
theorem me_X11_lose (l : Launch) (B : mBs) : mMet l B yX11_lose cX11_lose 4 (some .long) 2 0 0 C_X11_lose := mMet_of (own := RX11) (by decide) rfl (fun p e s m args below meth c Q X hr hk hn => sd_X11_lose l B p e s m args below meth c Q X hr hk hn)
/-! PuppetStageModel.isPlace(II)Z: 14 instructions, depth 1, makes 0 cells of 0 slots -/
def tb_X11_isPlace : mTb := [(0, aLI 0 1), (1, aPI (-300) 4), (4, aPI 300 7), (7, aCS 3 C_X11_isIn 10), (10, aIf (fun x => x = 0) 30 13), (13, aLI 1 14), (14, aPI (-300) 17), (17, aPI 300 20), (20, aCS 3 C_X11_isIn 23), (23, aIf (fun x => x = 0) 30 26), (26, aPI 1 27), (27, aGo 31), (30, aPI 0 31), (31, aRZ)]
theorem mt_X11_isPlace : mMT tb_X11_isPlace :=
  mF (mn_LI _ _) <|
  mF (mn_PI _ _) <|
  mF (mn_PI _ _) <|
  mF (mn_CS _ mc_X11_isIn _) <|
  mF (mn_If _ _ _) <|
  mF (mn_LI _ _) <|
  mF (mn_PI _ _) <|
  mF (mn_PI _ _) <|
  mF (mn_CS _ mc_X11_isIn _) <|
  mF (mn_If _ _ _) <|
  mF (mn_PI _ _) <|
  mF (mn_Go _) <|
  mF (mn_PI _ _) <|
  mF (mn_RZ) <|
  mF0
def C_X11_isPlace : mCo := mRun tb_X11_isPlace 2
theorem mc_X11_isPlace : mMC C_X11_isPlace := mRun_mn mt_X11_isPlace 2
theorem yi_X11_isPlace : mYin yX11_isPlace cX11_isPlace 2 (some .boolean) 2 := ⟨wd_60, wd_1035, by decide +kernel, by decide⟩
set_option maxRecDepth 100000 in
set_option maxHeartbeats 4000000 in
theorem sd_X11_isPlace (l : Launch) (B : mBs) (p : Program) (e : Env) (s : State) (m : MethodId) (args : Array Value) (below : List Frame) (meth : Method) (c : Code) (Q : mQo) (X : mCx l B RX11 cX11_isPlace 2 p s m args c) (hr : meth.sig.returnType = (some .boolean)) (hk : meth.locks = false) (hn : meth.name = "isPlace") : ∀ q ∈ tb_X11_isPlace, mSnd l B 2 p e (mRm 1 0 0) s m args below meth c (MQ below (mPo B Q) args s 0 0 (mA B)) (fun r h' => (h'.1.2.1 ≤ 0 ∧ h'.1.2.2 ≤ 0) ∧ Q r h') q.2 q.1 :=
  mF (sn_iload_n (pc := 0) (j := 0) X (by decide +kernel) rfl) <|
  mF (sn_sipush (pc := 1) (n := (-300)) X (by decide +kernel) (by decide)) <|
  mF (sn_sipush (pc := 4) (n := 300) X (by decide +kernel) (by decide)) <|
  mF (sn_callS (pc := 7) X mc_X11_isIn (me_X11_isIn l B) yi_X11_isIn wd_992 wd_993 (by decide) (by decide +kernel)) <|
  mF (sn_if_eq (pc := 10) (off := 20) X (by decide +kernel) (by decide)) <|
  mF (sn_iload_n (pc := 13) (j := 1) X (by decide +kernel) rfl) <|
  mF (sn_sipush (pc := 14) (n := (-300)) X (by decide +kernel) (by decide)) <|
  mF (sn_sipush (pc := 17) (n := 300) X (by decide +kernel) (by decide)) <|
  mF (sn_callS (pc := 20) X mc_X11_isIn (me_X11_isIn l B) yi_X11_isIn wd_992 wd_993 (by decide) (by decide +kernel)) <|
  mF (sn_if_eq (pc := 23) (off := 7) X (by decide +kernel) (by decide)) <|
  mF (sn_iconst (pc := 26) (n := 1) X (by decide +kernel) (by decide)) <|
  mF (sn_goto (pc := 27) (off := 4) X (by decide +kernel) (by decide)) <|
  mF (sn_iconst (pc := 30) (n := 0) X (by decide +kernel) (by decide)) <|
  mF (sn_zret (pc := 31) X hr hk (by decide +kernel)) <|
  mF0
theorem me_X11_isPlace (l : Launch) (B : mBs) : mMet l B yX11_isPlace cX11_isPlace 2 (some .boolean) 1 0 0 C_X11_isPlace := mMet_of (own := RX11) (by decide) rfl (fun p e s m args below meth c Q X hr hk hn => sd_X11_isPlace l B p e s m args below meth c Q X hr hk hn)
/-! PuppetStageModel.pin(III)J: 23 instructions, depth 2, makes 0 cells of 0 slots -/
def tb_X11_pin : mTb := [(0, aLI 1 1), (1, aCS 1 C_X11_isPuppet 4), (4, aIf (fun x => x = 0) 15 7), (7, aLI 2 8), (8, aLI 3 9), (9, aCS 2 C_X11_isPlace 12), (12, aIf (fun x => x = 0) 15 19), (15, aPL (-9000000000000000001) 18), (18, aRL), (19, aLA 0 20), (20, aCV 11 0 C_X11_keep 23), (23, aLA 0 24), (24, aLI 1 25), (25, aPI 25 27), (27, aLI 2 28), (28, aCV 11 3 C_X11_put 31), (31, aLA 0 32), (32, aLI 1 33), (33, aPI 26 35), (35, aLI 3 36), (36, aCV 11 3 C_X11_put 39), (39, aPL 0 40), (40, aRL)]
theorem mt_X11_pin : mMT tb_X11_pin :=
  mF (mn_LI _ _) <|
  mF (mn_CS _ mc_X11_isPuppet _) <|
  mF (mn_If _ _ _) <|
  mF (mn_LI _ _) <|
  mF (mn_LI _ _) <|
  mF (mn_CS _ mc_X11_isPlace _) <|
  mF (mn_If _ _ _) <|
  mF (mn_PL _ _) <|
  mF (mn_RL) <|
  mF (mn_LA _ _) <|
  mF (mn_CV _ _ mc_X11_keep _) <|
  mF (mn_LA _ _) <|
  mF (mn_LI _ _) <|
  mF (mn_PI _ _) <|
  mF (mn_LI _ _) <|
  mF (mn_CV _ _ mc_X11_put _) <|
  mF (mn_LA _ _) <|
  mF (mn_LI _ _) <|
  mF (mn_PI _ _) <|
  mF (mn_LI _ _) <|
  mF (mn_CV _ _ mc_X11_put _) <|
  mF (mn_PL _ _) <|
  mF (mn_RL) <|
  mF0
def C_X11_pin : mCo := mRun tb_X11_pin 4
theorem mc_X11_pin : mMC C_X11_pin := mRun_mn mt_X11_pin 4
theorem yi_X11_pin : mYin yX11_pin cX11_pin 4 (some .long) 3 := ⟨wd_60, wd_1032, by decide +kernel, by decide⟩
set_option maxRecDepth 100000 in
set_option maxHeartbeats 4000000 in
theorem sd_X11_pin (l : Launch) (B : mBs) (p : Program) (e : Env) (s : State) (m : MethodId) (args : Array Value) (below : List Frame) (meth : Method) (c : Code) (Q : mQo) (X : mCx l B RX11 cX11_pin 4 p s m args c) (hr : meth.sig.returnType = (some .long)) (hk : meth.locks = false) (hn : meth.name = "pin") : ∀ q ∈ tb_X11_pin, mSnd l B 4 p e (mRm 2 0 0) s m args below meth c (MQ below (mPo B Q) args s 0 0 (mA B)) (fun r h' => (h'.1.2.1 ≤ 0 ∧ h'.1.2.2 ≤ 0) ∧ Q r h') q.2 q.1 :=
  mF (sn_iload_n (pc := 0) (j := 1) X (by decide +kernel) rfl) <|
  mF (sn_callS (pc := 1) X mc_X11_isPuppet (me_X11_isPuppet l B) yi_X11_isPuppet wd_989 wd_990 (by decide) (by decide +kernel)) <|
  mF (sn_if_eq (pc := 4) (off := 11) X (by decide +kernel) (by decide)) <|
  mF (sn_iload_n (pc := 7) (j := 2) X (by decide +kernel) rfl) <|
  mF (sn_iload_n (pc := 8) (j := 3) X (by decide +kernel) rfl) <|
  mF (sn_callS (pc := 9) X mc_X11_isPlace (me_X11_isPlace l B) yi_X11_isPlace wd_1033 wd_1034 (by decide) (by decide +kernel)) <|
  mF (sn_if_ne (pc := 12) (off := 7) X (by decide +kernel) (by decide)) <|
  mF (sn_ldc2 (pc := 15) X (by decide +kernel) wd_999) <|
  mF (sn_lret (pc := 18) X hr hk (by decide +kernel)) <|
  mF (sn_aload_n (pc := 19) (j := 0) X (by decide +kernel) rfl) <|
  mF (sn_callV (pc := 20) X mc_X11_keep (me_X11_keep l B) yi_X11_keep wd_1009 wd_1011 wd_15 (T := TX11) (N := 22) rfl (by decide) (by decide +kernel)) <|
  mF (sn_aload_n (pc := 23) (j := 0) X (by decide +kernel) rfl) <|
  mF (sn_iload_n (pc := 24) (j := 1) X (by decide +kernel) rfl) <|
  mF (sn_bipush (pc := 25) (n := 25) X (by decide +kernel) (by decide)) <|
  mF (sn_iload_n (pc := 27) (j := 2) X (by decide +kernel) rfl) <|
  mF (sn_callV (pc := 28) X mc_X11_put (me_X11_put l B) yi_X11_put wd_1013 wd_1015 wd_16 (T := TX11) (N := 22) rfl (by decide) (by decide +kernel)) <|
  mF (sn_aload_n (pc := 31) (j := 0) X (by decide +kernel) rfl) <|
  mF (sn_iload_n (pc := 32) (j := 1) X (by decide +kernel) rfl) <|
  mF (sn_bipush (pc := 33) (n := 26) X (by decide +kernel) (by decide)) <|
  mF (sn_iload_n (pc := 35) (j := 3) X (by decide +kernel) rfl) <|
  mF (sn_callV (pc := 36) X mc_X11_put (me_X11_put l B) yi_X11_put wd_1013 wd_1015 wd_16 (T := TX11) (N := 22) rfl (by decide) (by decide +kernel)) <|
  mF (sn_lconst (pc := 39) (n := 0) X (by decide +kernel) (by decide)) <|
  mF (sn_lret (pc := 40) X hr hk (by decide +kernel)) <|
  mF0
theorem me_X11_pin (l : Launch) (B : mBs) : mMet l B yX11_pin cX11_pin 4 (some .long) 2 0 0 C_X11_pin := mMet_of (own := RX11) (by decide) rfl (fun p e s m args below meth c Q X hr hk hn => sd_X11_pin l B p e s m args below meth c Q X hr hk hn)
/-! PuppetStageModel.spans(II)J: 47 instructions, depth 2, makes 0 cells of 0 slots -/
def tb_X11_spans : mTb := [(0, aLI 1 1), (1, aCS 1 C_X11_isPuppet 4), (4, aIf (fun x => x = 0) 17 7), (7, aLI 2 8), (8, aPI (-1) 9), (9, aPI 6 11), (11, aCS 3 C_X11_isIn 14), (14, aIf (fun x => x = 0) 17 21), (17, aPL (-9000000000000000001) 20), (20, aRL), (21, aLA 0 22), (22, aCV 11 0 C_X11_keep 25), (25, aLA 0 26), (26, aLI 1 27), (27, aPI 27 29), (29, aLI 2 30), (30, aCV 11 3 C_X11_put 33), (33, aPI 0 34), (34, aSI 3 35), (35, aLI 3 36), (36, aPI 6 38), (38, aIc (fun x y => y ≤ x) 75 41), (41, aLA 0 42), (42, aLI 1 43), (43, aPI 28 45), (45, aPI 2 46), (46, aLI 3 47), (47, aB (fun x y => x * y) 48), (48, aB (fun x y => x + y) 49), (49, aPI (-32) 51), (51, aCV 11 3 C_X11_put 54), (54, aLA 0 55), (55, aLI 1 56), (56, aPI 28 58), (58, aPI 2 59), (59, aLI 3 60), (60, aB (fun x y => x * y) 61), (61, aB (fun x y => x + y) 62), (62, aPI 1 63), (63, aB (fun x y => x + y) 64), (64, aPI 31 66), (66, aCV 11 3 C_X11_put 69), (69, aInc 3 1 72), (72, aGo 35), (75, aLI 2 76), (76, aI2L 77), (77, aRL)]
theorem mt_X11_spans : mMT tb_X11_spans :=
  mF (mn_LI _ _) <|
  mF (mn_CS _ mc_X11_isPuppet _) <|
  mF (mn_If _ _ _) <|
  mF (mn_LI _ _) <|
  mF (mn_PI _ _) <|
  mF (mn_PI _ _) <|
  mF (mn_CS _ mc_X11_isIn _) <|
  mF (mn_If _ _ _) <|
  mF (mn_PL _ _) <|
  mF (mn_RL) <|
  mF (mn_LA _ _) <|
  mF (mn_CV _ _ mc_X11_keep _) <|
  mF (mn_LA _ _) <|
  mF (mn_LI _ _) <|
  mF (mn_PI _ _) <|
  mF (mn_LI _ _) <|
  mF (mn_CV _ _ mc_X11_put _) <|
  mF (mn_PI _ _) <|
  mF (mn_SI _ _) <|
  mF (mn_LI _ _) <|
  mF (mn_PI _ _) <|
  mF (mn_Ic _ _ _) <|
  mF (mn_LA _ _) <|
  mF (mn_LI _ _) <|
  mF (mn_PI _ _) <|
  mF (mn_PI _ _) <|
  mF (mn_LI _ _) <|
  mF (mn_B _ _) <|
  mF (mn_B _ _) <|
  mF (mn_PI _ _) <|
  mF (mn_CV _ _ mc_X11_put _) <|
  mF (mn_LA _ _) <|
  mF (mn_LI _ _) <|
  mF (mn_PI _ _) <|
  mF (mn_PI _ _) <|
  mF (mn_LI _ _) <|
  mF (mn_B _ _) <|
  mF (mn_B _ _) <|
  mF (mn_PI _ _) <|
  mF (mn_B _ _) <|
  mF (mn_PI _ _) <|
  mF (mn_CV _ _ mc_X11_put _) <|
  mF (mn_Inc _ _ _) <|
  mF (mn_Go _) <|
  mF (mn_LI _ _) <|
  mF (mn_I2L _) <|
  mF (mn_RL) <|
  mF0
def C_X11_spans : mCo := mRun tb_X11_spans 4
theorem mc_X11_spans : mMC C_X11_spans := mRun_mn mt_X11_spans 4
theorem yi_X11_spans : mYin yX11_spans cX11_spans 4 (some .long) 2 := ⟨wd_60, wd_1039, by decide +kernel, by decide⟩
set_option maxRecDepth 100000 in
set_option maxHeartbeats 4000000 in
theorem sd_X11_spans (l : Launch) (B : mBs) (p : Program) (e : Env) (s : State) (m : MethodId) (args : Array Value) (below : List Frame) (meth : Method) (c : Code) (Q : mQo) (X : mCx l B RX11 cX11_spans 4 p s m args c) (hr : meth.sig.returnType = (some .long)) (hk : meth.locks = false) (hn : meth.name = "spans") : ∀ q ∈ tb_X11_spans, mSnd l B 4 p e (mRm 2 0 0) s m args below meth c (MQ below (mPo B Q) args s 0 0 (mA B)) (fun r h' => (h'.1.2.1 ≤ 0 ∧ h'.1.2.2 ≤ 0) ∧ Q r h') q.2 q.1 :=
  mF (sn_iload_n (pc := 0) (j := 1) X (by decide +kernel) rfl) <|
  mF (sn_callS (pc := 1) X mc_X11_isPuppet (me_X11_isPuppet l B) yi_X11_isPuppet wd_989 wd_990 (by decide) (by decide +kernel)) <|
  mF (sn_if_eq (pc := 4) (off := 13) X (by decide +kernel) (by decide)) <|
  mF (sn_iload_n (pc := 7) (j := 2) X (by decide +kernel) rfl) <|
  mF (sn_iconst (pc := 8) (n := (-1)) X (by decide +kernel) (by decide)) <|
  mF (sn_bipush (pc := 9) (n := 6) X (by decide +kernel) (by decide)) <|
  mF (sn_callS (pc := 11) X mc_X11_isIn (me_X11_isIn l B) yi_X11_isIn wd_992 wd_993 (by decide) (by decide +kernel)) <|
  mF (sn_if_ne (pc := 14) (off := 7) X (by decide +kernel) (by decide)) <|
  mF (sn_ldc2 (pc := 17) X (by decide +kernel) wd_999) <|
  mF (sn_lret (pc := 20) X hr hk (by decide +kernel)) <|
  mF (sn_aload_n (pc := 21) (j := 0) X (by decide +kernel) rfl) <|
  mF (sn_callV (pc := 22) X mc_X11_keep (me_X11_keep l B) yi_X11_keep wd_1009 wd_1011 wd_15 (T := TX11) (N := 22) rfl (by decide) (by decide +kernel)) <|
  mF (sn_aload_n (pc := 25) (j := 0) X (by decide +kernel) rfl) <|
  mF (sn_iload_n (pc := 26) (j := 1) X (by decide +kernel) rfl) <|
  mF (sn_bipush (pc := 27) (n := 27) X (by decide +kernel) (by decide)) <|
  mF (sn_iload_n (pc := 29) (j := 2) X (by decide +kernel) rfl) <|
  mF (sn_callV (pc := 30) X mc_X11_put (me_X11_put l B) yi_X11_put wd_1013 wd_1015 wd_16 (T := TX11) (N := 22) rfl (by decide) (by decide +kernel)) <|
  mF (sn_iconst (pc := 33) (n := 0) X (by decide +kernel) (by decide)) <|
  mF (sn_istore_n (pc := 34) (j := 3) X (by decide +kernel) rfl (by decide)) <|
  mF (sn_iload_n (pc := 35) (j := 3) X (by decide +kernel) rfl) <|
  mF (sn_bipush (pc := 36) (n := 6) X (by decide +kernel) (by decide)) <|
  mF (sn_icmp_ge (pc := 38) (off := 37) X (by decide +kernel) (by decide)) <|
  mF (sn_aload_n (pc := 41) (j := 0) X (by decide +kernel) rfl) <|
  mF (sn_iload_n (pc := 42) (j := 1) X (by decide +kernel) rfl) <|
  mF (sn_bipush (pc := 43) (n := 28) X (by decide +kernel) (by decide)) <|
  mF (sn_iconst (pc := 45) (n := 2) X (by decide +kernel) (by decide)) <|
  mF (sn_iload_n (pc := 46) (j := 3) X (by decide +kernel) rfl) <|
  mF (sn_imul (pc := 47) X (by decide +kernel)) <|
  mF (sn_iadd (pc := 48) X (by decide +kernel)) <|
  mF (sn_bipush (pc := 49) (n := (-32)) X (by decide +kernel) (by decide)) <|
  mF (sn_callV (pc := 51) X mc_X11_put (me_X11_put l B) yi_X11_put wd_1013 wd_1015 wd_16 (T := TX11) (N := 22) rfl (by decide) (by decide +kernel)) <|
  mF (sn_aload_n (pc := 54) (j := 0) X (by decide +kernel) rfl) <|
  mF (sn_iload_n (pc := 55) (j := 1) X (by decide +kernel) rfl) <|
  mF (sn_bipush (pc := 56) (n := 28) X (by decide +kernel) (by decide)) <|
  mF (sn_iconst (pc := 58) (n := 2) X (by decide +kernel) (by decide)) <|
  mF (sn_iload_n (pc := 59) (j := 3) X (by decide +kernel) rfl) <|
  mF (sn_imul (pc := 60) X (by decide +kernel)) <|
  mF (sn_iadd (pc := 61) X (by decide +kernel)) <|
  mF (sn_iconst (pc := 62) (n := 1) X (by decide +kernel) (by decide)) <|
  mF (sn_iadd (pc := 63) X (by decide +kernel)) <|
  mF (sn_bipush (pc := 64) (n := 31) X (by decide +kernel) (by decide)) <|
  mF (sn_callV (pc := 66) X mc_X11_put (me_X11_put l B) yi_X11_put wd_1013 wd_1015 wd_16 (T := TX11) (N := 22) rfl (by decide) (by decide +kernel)) <|
  mF (sn_iinc (pc := 69) (n := 1) X (by decide +kernel) (by decide) (by decide)) <|
  mF (sn_goto (pc := 72) (off := (-37)) X (by decide +kernel) (by decide)) <|
  mF (sn_iload_n (pc := 75) (j := 2) X (by decide +kernel) rfl) <|
  mF (sn_i2l (pc := 76) X (by decide +kernel)) <|
  mF (sn_lret (pc := 77) X hr hk (by decide +kernel)) <|
  mF0
theorem me_X11_spans (l : Launch) (B : mBs) : mMet l B yX11_spans cX11_spans 4 (some .long) 2 0 0 C_X11_spans := mMet_of (own := RX11) (by decide) rfl (fun p e s m args below meth c Q X hr hk hn => sd_X11_spans l B p e s m args below meth c Q X hr hk hn)
/-! PuppetStageModel.span(IIII)J: 76 instructions, depth 2, makes 0 cells of 0 slots -/
def tb_X11_span_c0 : mTb := [(0, aLI 1 1), (1, aCS 1 C_X11_isPuppet 4), (4, aIf (fun x => x = 0) 29 7), (7, aLI 3 8), (8, aPI (-32) 10), (10, aPI 31 12), (12, aCS 3 C_X11_isIn 15), (15, aIf (fun x => x = 0) 29 18), (18, aLI 4 20), (20, aLI 3 21), (21, aPI 31 23), (23, aCS 3 C_X11_isIn 26), (26, aIf (fun x => x = 0) 29 33), (29, aPL (-9000000000000000001) 32), (32, aRL), (33, aLA 0 34), (34, aLI 1 35), (35, aPI 27 37), (37, aCV 11 2 C_X11_get 40), (40, aIf (fun x => 0 ≤ x) 47 43), (43, aPL (-9000000000000000011) 46), (46, aRL), (47, aLI 2 48), (48, aPI 0 49), (49, aLA 0 50), (50, aLI 1 51), (51, aPI 27 53), (53, aCV 11 2 C_X11_get 56), (56, aPI 1 57), (57, aB (fun x y => x - y) 58), (58, aCS 3 C_X11_isIn 61), (61, aIf (fun x => x = 0) 64 68), (64, aPL (-9000000000000000013) 67), (67, aRL), (68, aLI 2 69), (69, aLA 0 70), (70, aLI 1 71), (71, aPI 0 72), (72, aCV 11 2 C_X11_get 75), (75, aIc (fun x y => y ≤ x) 100 78), (78, aLA 0 79), (79, aLI 1 80), (80, aPI 19 82), (82, aLI 2 83), (83, aB (fun x y => x + y) 84), (84, aCV 11 2 C_X11_get 87), (87, aLI 3 88), (88, aLI 4 90), (90, aCS 3 C_X11_isIn 93), (93, aIf (fun x => x = 0) 96 100), (96, aPL (-9000000000000000002) 99), (99, aRL), (100, aLA 0 101), (101, aCV 11 0 C_X11_keep 104), (104, aLA 0 105), (105, aLI 1 106), (106, aPI 28 108), (108, aPI 2 109), (109, aLI 2 110), (110, aB (fun x y => x * y) 111), (111, aB (fun x y => x + y) 112), (112, aLI 3 113), (113, aCV 11 3 C_X11_put 116), (116, aLA 0 117), (117, aLI 1 118), (118, aPI 28 120), (120, aPI 2 121), (121, aLI 2 122), (122, aB (fun x y => x * y) 123), (123, aB (fun x y => x + y) 124)]
theorem mt_X11_span_c0 : mMT tb_X11_span_c0 :=
  mF (mn_LI _ _) <|
  mF (mn_CS _ mc_X11_isPuppet _) <|
  mF (mn_If _ _ _) <|
  mF (mn_LI _ _) <|
  mF (mn_PI _ _) <|
  mF (mn_PI _ _) <|
  mF (mn_CS _ mc_X11_isIn _) <|
  mF (mn_If _ _ _) <|
  mF (mn_LI _ _) <|
  mF (mn_LI _ _) <|
  mF (mn_PI _ _) <|
  mF (mn_CS _ mc_X11_isIn _) <|
  mF (mn_If _ _ _) <|
  mF (mn_PL _ _) <|
  mF (mn_RL) <|
  mF (mn_LA _ _) <|
  mF (mn_LI _ _) <|
  mF (mn_PI _ _) <|
  mF (mn_CV _ _ mc_X11_get _) <|
  mF (mn_If _ _ _) <|
  mF (mn_PL _ _) <|
  mF (mn_RL) <|
  mF (mn_LI _ _) <|
  mF (mn_PI _ _) <|
  mF (mn_LA _ _) <|
  mF (mn_LI _ _) <|
  mF (mn_PI _ _) <|
  mF (mn_CV _ _ mc_X11_get _) <|
  mF (mn_PI _ _) <|
  mF (mn_B _ _) <|
  mF (mn_CS _ mc_X11_isIn _) <|
  mF (mn_If _ _ _) <|
  mF (mn_PL _ _) <|
  mF (mn_RL) <|
  mF (mn_LI _ _) <|
  mF (mn_LA _ _) <|
  mF (mn_LI _ _) <|
  mF (mn_PI _ _) <|
  mF (mn_CV _ _ mc_X11_get _) <|
  mF (mn_Ic _ _ _) <|
  mF (mn_LA _ _) <|
  mF (mn_LI _ _) <|
  mF (mn_PI _ _) <|
  mF (mn_LI _ _) <|
  mF (mn_B _ _) <|
  mF (mn_CV _ _ mc_X11_get _) <|
  mF (mn_LI _ _) <|
  mF (mn_LI _ _) <|
  mF (mn_CS _ mc_X11_isIn _) <|
  mF (mn_If _ _ _) <|
  mF (mn_PL _ _) <|
  mF (mn_RL) <|
  mF (mn_LA _ _) <|
  mF (mn_CV _ _ mc_X11_keep _) <|
  mF (mn_LA _ _) <|
  mF (mn_LI _ _) <|
  mF (mn_PI _ _) <|
  mF (mn_PI _ _) <|
  mF (mn_LI _ _) <|
  mF (mn_B _ _) <|
  mF (mn_B _ _) <|
  mF (mn_LI _ _) <|
  mF (mn_CV _ _ mc_X11_put _) <|
  mF (mn_LA _ _) <|
  mF (mn_LI _ _) <|
  mF (mn_PI _ _) <|
  mF (mn_PI _ _) <|
  mF (mn_LI _ _) <|
  mF (mn_B _ _) <|
  mF (mn_B _ _) <|
  mF0
def tb_X11_span_c1 : mTb := [(124, aPI 1 125), (125, aB (fun x y => x + y) 126), (126, aLI 4 128), (128, aCV 11 3 C_X11_put 131), (131, aPL 0 132), (132, aRL)]
theorem mt_X11_span_c1 : mMT tb_X11_span_c1 :=
  mF (mn_PI _ _) <|
  mF (mn_B _ _) <|
  mF (mn_LI _ _) <|
  mF (mn_CV _ _ mc_X11_put _) <|
  mF (mn_PL _ _) <|
  mF (mn_RL) <|
  mF0
def tb_X11_span : mTb := tb_X11_span_c0 ++ (tb_X11_span_c1)
theorem mt_X11_span : mMT tb_X11_span := mFA mt_X11_span_c0 mt_X11_span_c1
def C_X11_span : mCo := mRun tb_X11_span 5
theorem mc_X11_span : mMC C_X11_span := mRun_mn mt_X11_span 5
theorem yi_X11_span : mYin yX11_span cX11_span 5 (some .long) 4 := ⟨wd_60, wd_1043, by decide +kernel, by decide⟩
set_option maxRecDepth 100000 in
set_option maxHeartbeats 4000000 in
theorem sd_X11_span_c0 (l : Launch) (B : mBs) (p : Program) (e : Env) (s : State) (m : MethodId) (args : Array Value) (below : List Frame) (meth : Method) (c : Code) (Q : mQo) (X : mCx l B RX11 cX11_span 5 p s m args c) (hr : meth.sig.returnType = (some .long)) (hk : meth.locks = false) (hn : meth.name = "span") : ∀ q ∈ tb_X11_span_c0, mSnd l B 5 p e (mRm 2 0 0) s m args below meth c (MQ below (mPo B Q) args s 0 0 (mA B)) (fun r h' => (h'.1.2.1 ≤ 0 ∧ h'.1.2.2 ≤ 0) ∧ Q r h') q.2 q.1 :=
  mF (sn_iload_n (pc := 0) (j := 1) X (by decide +kernel) rfl) <|
  mF (sn_callS (pc := 1) X mc_X11_isPuppet (me_X11_isPuppet l B) yi_X11_isPuppet wd_989 wd_990 (by decide) (by decide +kernel)) <|
  mF (sn_if_eq (pc := 4) (off := 25) X (by decide +kernel) (by decide)) <|
  mF (sn_iload_n (pc := 7) (j := 3) X (by decide +kernel) rfl) <|
  mF (sn_bipush (pc := 8) (n := (-32)) X (by decide +kernel) (by decide)) <|
  mF (sn_bipush (pc := 10) (n := 31) X (by decide +kernel) (by decide)) <|
  mF (sn_callS (pc := 12) X mc_X11_isIn (me_X11_isIn l B) yi_X11_isIn wd_992 wd_993 (by decide) (by decide +kernel)) <|
  mF (sn_if_eq (pc := 15) (off := 14) X (by decide +kernel) (by decide)) <|
  mF (sn_iload (pc := 18) X (by decide +kernel)) <|
  mF (sn_iload_n (pc := 20) (j := 3) X (by decide +kernel) rfl) <|
  mF (sn_bipush (pc := 21) (n := 31) X (by decide +kernel) (by decide)) <|
  mF (sn_callS (pc := 23) X mc_X11_isIn (me_X11_isIn l B) yi_X11_isIn wd_992 wd_993 (by decide) (by decide +kernel)) <|
  mF (sn_if_ne (pc := 26) (off := 7) X (by decide +kernel) (by decide)) <|
  mF (sn_ldc2 (pc := 29) X (by decide +kernel) wd_999) <|
  mF (sn_lret (pc := 32) X hr hk (by decide +kernel)) <|
  mF (sn_aload_n (pc := 33) (j := 0) X (by decide +kernel) rfl) <|
  mF (sn_iload_n (pc := 34) (j := 1) X (by decide +kernel) rfl) <|
  mF (sn_bipush (pc := 35) (n := 27) X (by decide +kernel) (by decide)) <|
  mF (sn_callV (pc := 37) X mc_X11_get (me_X11_get l B) yi_X11_get wd_995 wd_997 wd_12 (T := TX11) (N := 22) rfl (by decide) (by decide +kernel)) <|
  mF (sn_if_ge (pc := 40) (off := 7) X (by decide +kernel) (by decide)) <|
  mF (sn_ldc2 (pc := 43) X (by decide +kernel) wd_1044) <|
  mF (sn_lret (pc := 46) X hr hk (by decide +kernel)) <|
  mF (sn_iload_n (pc := 47) (j := 2) X (by decide +kernel) rfl) <|
  mF (sn_iconst (pc := 48) (n := 0) X (by decide +kernel) (by decide)) <|
  mF (sn_aload_n (pc := 49) (j := 0) X (by decide +kernel) rfl) <|
  mF (sn_iload_n (pc := 50) (j := 1) X (by decide +kernel) rfl) <|
  mF (sn_bipush (pc := 51) (n := 27) X (by decide +kernel) (by decide)) <|
  mF (sn_callV (pc := 53) X mc_X11_get (me_X11_get l B) yi_X11_get wd_995 wd_997 wd_12 (T := TX11) (N := 22) rfl (by decide) (by decide +kernel)) <|
  mF (sn_iconst (pc := 56) (n := 1) X (by decide +kernel) (by decide)) <|
  mF (sn_isub (pc := 57) X (by decide +kernel)) <|
  mF (sn_callS (pc := 58) X mc_X11_isIn (me_X11_isIn l B) yi_X11_isIn wd_992 wd_993 (by decide) (by decide +kernel)) <|
  mF (sn_if_ne (pc := 61) (off := 7) X (by decide +kernel) (by decide)) <|
  mF (sn_ldc2 (pc := 64) X (by decide +kernel) wd_1045) <|
  mF (sn_lret (pc := 67) X hr hk (by decide +kernel)) <|
  mF (sn_iload_n (pc := 68) (j := 2) X (by decide +kernel) rfl) <|
  mF (sn_aload_n (pc := 69) (j := 0) X (by decide +kernel) rfl) <|
  mF (sn_iload_n (pc := 70) (j := 1) X (by decide +kernel) rfl) <|
  mF (sn_iconst (pc := 71) (n := 0) X (by decide +kernel) (by decide)) <|
  mF (sn_callV (pc := 72) X mc_X11_get (me_X11_get l B) yi_X11_get wd_995 wd_997 wd_12 (T := TX11) (N := 22) rfl (by decide) (by decide +kernel)) <|
  mF (sn_icmp_ge (pc := 75) (off := 25) X (by decide +kernel) (by decide)) <|
  mF (sn_aload_n (pc := 78) (j := 0) X (by decide +kernel) rfl) <|
  mF (sn_iload_n (pc := 79) (j := 1) X (by decide +kernel) rfl) <|
  mF (sn_bipush (pc := 80) (n := 19) X (by decide +kernel) (by decide)) <|
  mF (sn_iload_n (pc := 82) (j := 2) X (by decide +kernel) rfl) <|
  mF (sn_iadd (pc := 83) X (by decide +kernel)) <|
  mF (sn_callV (pc := 84) X mc_X11_get (me_X11_get l B) yi_X11_get wd_995 wd_997 wd_12 (T := TX11) (N := 22) rfl (by decide) (by decide +kernel)) <|
  mF (sn_iload_n (pc := 87) (j := 3) X (by decide +kernel) rfl) <|
  mF (sn_iload (pc := 88) X (by decide +kernel)) <|
  mF (sn_callS (pc := 90) X mc_X11_isIn (me_X11_isIn l B) yi_X11_isIn wd_992 wd_993 (by decide) (by decide +kernel)) <|
  mF (sn_if_ne (pc := 93) (off := 7) X (by decide +kernel) (by decide)) <|
  mF (sn_ldc2 (pc := 96) X (by decide +kernel) wd_984) <|
  mF (sn_lret (pc := 99) X hr hk (by decide +kernel)) <|
  mF (sn_aload_n (pc := 100) (j := 0) X (by decide +kernel) rfl) <|
  mF (sn_callV (pc := 101) X mc_X11_keep (me_X11_keep l B) yi_X11_keep wd_1009 wd_1011 wd_15 (T := TX11) (N := 22) rfl (by decide) (by decide +kernel)) <|
  mF (sn_aload_n (pc := 104) (j := 0) X (by decide +kernel) rfl) <|
  mF (sn_iload_n (pc := 105) (j := 1) X (by decide +kernel) rfl) <|
  mF (sn_bipush (pc := 106) (n := 28) X (by decide +kernel) (by decide)) <|
  mF (sn_iconst (pc := 108) (n := 2) X (by decide +kernel) (by decide)) <|
  mF (sn_iload_n (pc := 109) (j := 2) X (by decide +kernel) rfl) <|
  mF (sn_imul (pc := 110) X (by decide +kernel)) <|
  mF (sn_iadd (pc := 111) X (by decide +kernel)) <|
  mF (sn_iload_n (pc := 112) (j := 3) X (by decide +kernel) rfl) <|
  mF (sn_callV (pc := 113) X mc_X11_put (me_X11_put l B) yi_X11_put wd_1013 wd_1015 wd_16 (T := TX11) (N := 22) rfl (by decide) (by decide +kernel)) <|
  mF (sn_aload_n (pc := 116) (j := 0) X (by decide +kernel) rfl) <|
  mF (sn_iload_n (pc := 117) (j := 1) X (by decide +kernel) rfl) <|
  mF (sn_bipush (pc := 118) (n := 28) X (by decide +kernel) (by decide)) <|
  mF (sn_iconst (pc := 120) (n := 2) X (by decide +kernel) (by decide)) <|
  mF (sn_iload_n (pc := 121) (j := 2) X (by decide +kernel) rfl) <|
  mF (sn_imul (pc := 122) X (by decide +kernel)) <|
  mF (sn_iadd (pc := 123) X (by decide +kernel)) <|
  mF0
set_option maxRecDepth 100000 in
set_option maxHeartbeats 4000000 in
theorem sd_X11_span_c1 (l : Launch) (B : mBs) (p : Program) (e : Env) (s : State) (m : MethodId) (args : Array Value) (below : List Frame) (meth : Method) (c : Code) (Q : mQo) (X : mCx l B RX11 cX11_span 5 p s m args c) (hr : meth.sig.returnType = (some .long)) (hk : meth.locks = false) (hn : meth.name = "span") : ∀ q ∈ tb_X11_span_c1, mSnd l B 5 p e (mRm 2 0 0) s m args below meth c (MQ below (mPo B Q) args s 0 0 (mA B)) (fun r h' => (h'.1.2.1 ≤ 0 ∧ h'.1.2.2 ≤ 0) ∧ Q r h') q.2 q.1 :=
  mF (sn_iconst (pc := 124) (n := 1) X (by decide +kernel) (by decide)) <|
  mF (sn_iadd (pc := 125) X (by decide +kernel)) <|
  mF (sn_iload (pc := 126) X (by decide +kernel)) <|
  mF (sn_callV (pc := 128) X mc_X11_put (me_X11_put l B) yi_X11_put wd_1013 wd_1015 wd_16 (T := TX11) (N := 22) rfl (by decide) (by decide +kernel)) <|
  mF (sn_lconst (pc := 131) (n := 0) X (by decide +kernel) (by decide)) <|
  mF (sn_lret (pc := 132) X hr hk (by decide +kernel)) <|
  mF0
theorem sd_X11_span (l : Launch) (B : mBs) (p : Program) (e : Env) (s : State) (m : MethodId) (args : Array Value) (below : List Frame) (meth : Method) (c : Code) (Q : mQo) (X : mCx l B RX11 cX11_span 5 p s m args c) (hr : meth.sig.returnType = (some .long)) (hk : meth.locks = false) (hn : meth.name = "span") : ∀ q ∈ tb_X11_span, mSnd l B 5 p e (mRm 2 0 0) s m args below meth c (MQ below (mPo B Q) args s 0 0 (mA B)) (fun r h' => (h'.1.2.1 ≤ 0 ∧ h'.1.2.2 ≤ 0) ∧ Q r h') q.2 q.1 := mFA (sd_X11_span_c0 l B p e s m args below meth c Q X hr hk hn) (sd_X11_span_c1 l B p e s m args below meth c Q X hr hk hn)
theorem me_X11_span (l : Launch) (B : mBs) : mMet l B yX11_span cX11_span 5 (some .long) 2 0 0 C_X11_span := mMet_of (own := RX11) (by decide) rfl (fun p e s m args below meth c Q X hr hk hn => sd_X11_span l B p e s m args below meth c Q X hr hk hn)
/-! PuppetStageModel.setCross(IIII)V: 16 instructions, depth 1, makes 0 cells of 0 slots -/
def tb_X11_setCross : mTb := [(0, aLA 0 1), (1, aLI 1 2), (2, aPI 40 4), (4, aLI 2 5), (5, aCV 11 3 C_X11_put 8), (8, aLA 0 9), (9, aLI 1 10), (10, aPI 41 12), (12, aLI 3 13), (13, aCV 11 3 C_X11_put 16), (16, aLA 0 17), (17, aLI 1 18), (18, aPI 42 20), (20, aLI 4 22), (22, aCV 11 3 C_X11_put 25), (25, aRV)]
theorem mt_X11_setCross : mMT tb_X11_setCross :=
  mF (mn_LA _ _) <|
  mF (mn_LI _ _) <|
  mF (mn_PI _ _) <|
  mF (mn_LI _ _) <|
  mF (mn_CV _ _ mc_X11_put _) <|
  mF (mn_LA _ _) <|
  mF (mn_LI _ _) <|
  mF (mn_PI _ _) <|
  mF (mn_LI _ _) <|
  mF (mn_CV _ _ mc_X11_put _) <|
  mF (mn_LA _ _) <|
  mF (mn_LI _ _) <|
  mF (mn_PI _ _) <|
  mF (mn_LI _ _) <|
  mF (mn_CV _ _ mc_X11_put _) <|
  mF (mn_RV) <|
  mF0
def C_X11_setCross : mCo := mRun tb_X11_setCross 5
theorem mc_X11_setCross : mMC C_X11_setCross := mRun_mn mt_X11_setCross 5
theorem yi_X11_setCross : mYin yX11_setCross cX11_setCross 5 none 4 := ⟨wd_60, wd_1053, by decide +kernel, by decide⟩
set_option maxRecDepth 100000 in
set_option maxHeartbeats 4000000 in
theorem sd_X11_setCross (l : Launch) (B : mBs) (p : Program) (e : Env) (s : State) (m : MethodId) (args : Array Value) (below : List Frame) (meth : Method) (c : Code) (Q : mQo) (X : mCx l B RX11 cX11_setCross 5 p s m args c) (hr : meth.sig.returnType = none) (hk : meth.locks = false) (hn : meth.name = "setCross") : ∀ q ∈ tb_X11_setCross, mSnd l B 5 p e (mRm 1 0 0) s m args below meth c (MQ below (mPo B Q) args s 0 0 (mA B)) (fun r h' => (h'.1.2.1 ≤ 0 ∧ h'.1.2.2 ≤ 0) ∧ Q r h') q.2 q.1 :=
  mF (sn_aload_n (pc := 0) (j := 0) X (by decide +kernel) rfl) <|
  mF (sn_iload_n (pc := 1) (j := 1) X (by decide +kernel) rfl) <|
  mF (sn_bipush (pc := 2) (n := 40) X (by decide +kernel) (by decide)) <|
  mF (sn_iload_n (pc := 4) (j := 2) X (by decide +kernel) rfl) <|
  mF (sn_callV (pc := 5) X mc_X11_put (me_X11_put l B) yi_X11_put wd_1013 wd_1015 wd_16 (T := TX11) (N := 22) rfl (by decide) (by decide +kernel)) <|
  mF (sn_aload_n (pc := 8) (j := 0) X (by decide +kernel) rfl) <|
  mF (sn_iload_n (pc := 9) (j := 1) X (by decide +kernel) rfl) <|
  mF (sn_bipush (pc := 10) (n := 41) X (by decide +kernel) (by decide)) <|
  mF (sn_iload_n (pc := 12) (j := 3) X (by decide +kernel) rfl) <|
  mF (sn_callV (pc := 13) X mc_X11_put (me_X11_put l B) yi_X11_put wd_1013 wd_1015 wd_16 (T := TX11) (N := 22) rfl (by decide) (by decide +kernel)) <|
  mF (sn_aload_n (pc := 16) (j := 0) X (by decide +kernel) rfl) <|
  mF (sn_iload_n (pc := 17) (j := 1) X (by decide +kernel) rfl) <|
  mF (sn_bipush (pc := 18) (n := 42) X (by decide +kernel) (by decide)) <|
  mF (sn_iload (pc := 20) X (by decide +kernel)) <|
  mF (sn_callV (pc := 22) X mc_X11_put (me_X11_put l B) yi_X11_put wd_1013 wd_1015 wd_16 (T := TX11) (N := 22) rfl (by decide) (by decide +kernel)) <|
  mF (sn_vret (pc := 25) X hr hk (by decide +kernel)) <|
  mF0
theorem me_X11_setCross (l : Launch) (B : mBs) : mMet l B yX11_setCross cX11_setCross 5 none 1 0 0 C_X11_setCross := mMet_of (own := RX11) (by decide) rfl (fun p e s m args below meth c Q X hr hk hn => sd_X11_setCross l B p e s m args below meth c Q X hr hk hn)
/-! PuppetStageModel.cross(IIII)J: 24 instructions, depth 2, makes 0 cells of 0 slots -/
def tb_X11_cross : mTb := [(0, aLI 1 1), (1, aCS 1 C_X11_isPuppet 4), (4, aIf (fun x => x = 0) 27 7), (7, aLI 2 8), (8, aLI 3 9), (9, aCS 2 C_X11_isPlace 12), (12, aIf (fun x => x = 0) 27 15), (15, aLI 4 17), (17, aPI (-32) 19), (19, aPI 31 21), (21, aCS 3 C_X11_isIn 24), (24, aIf (fun x => x = 0) 27 31), (27, aPL (-9000000000000000001) 30), (30, aRL), (31, aLA 0 32), (32, aCV 11 0 C_X11_keep 35), (35, aLA 0 36), (36, aLI 1 37), (37, aLI 2 38), (38, aLI 3 39), (39, aLI 4 41), (41, aCV 11 4 C_X11_setCross 44), (44, aPL 0 45), (45, aRL)]
theorem mt_X11_cross : mMT tb_X11_cross :=
  mF (mn_LI _ _) <|
  mF (mn_CS _ mc_X11_isPuppet _) <|
  mF (mn_If _ _ _) <|
  mF (mn_LI _ _) <|
  mF (mn_LI _ _) <|
  mF (mn_CS _ mc_X11_isPlace _) <|
  mF (mn_If _ _ _) <|
  mF (mn_LI _ _) <|
  mF (mn_PI _ _) <|
  mF (mn_PI _ _) <|
  mF (mn_CS _ mc_X11_isIn _) <|
  mF (mn_If _ _ _) <|
  mF (mn_PL _ _) <|
  mF (mn_RL) <|
  mF (mn_LA _ _) <|
  mF (mn_CV _ _ mc_X11_keep _) <|
  mF (mn_LA _ _) <|
  mF (mn_LI _ _) <|
  mF (mn_LI _ _) <|
  mF (mn_LI _ _) <|
  mF (mn_LI _ _) <|
  mF (mn_CV _ _ mc_X11_setCross _) <|
  mF (mn_PL _ _) <|
  mF (mn_RL) <|
  mF0
def C_X11_cross : mCo := mRun tb_X11_cross 5
theorem mc_X11_cross : mMC C_X11_cross := mRun_mn mt_X11_cross 5
theorem yi_X11_cross : mYin yX11_cross cX11_cross 5 (some .long) 4 := ⟨wd_60, wd_1049, by decide +kernel, by decide⟩
set_option maxRecDepth 100000 in
set_option maxHeartbeats 4000000 in
theorem sd_X11_cross (l : Launch) (B : mBs) (p : Program) (e : Env) (s : State) (m : MethodId) (args : Array Value) (below : List Frame) (meth : Method) (c : Code) (Q : mQo) (X : mCx l B RX11 cX11_cross 5 p s m args c) (hr : meth.sig.returnType = (some .long)) (hk : meth.locks = false) (hn : meth.name = "cross") : ∀ q ∈ tb_X11_cross, mSnd l B 5 p e (mRm 2 0 0) s m args below meth c (MQ below (mPo B Q) args s 0 0 (mA B)) (fun r h' => (h'.1.2.1 ≤ 0 ∧ h'.1.2.2 ≤ 0) ∧ Q r h') q.2 q.1 :=
  mF (sn_iload_n (pc := 0) (j := 1) X (by decide +kernel) rfl) <|
  mF (sn_callS (pc := 1) X mc_X11_isPuppet (me_X11_isPuppet l B) yi_X11_isPuppet wd_989 wd_990 (by decide) (by decide +kernel)) <|
  mF (sn_if_eq (pc := 4) (off := 23) X (by decide +kernel) (by decide)) <|
  mF (sn_iload_n (pc := 7) (j := 2) X (by decide +kernel) rfl) <|
  mF (sn_iload_n (pc := 8) (j := 3) X (by decide +kernel) rfl) <|
  mF (sn_callS (pc := 9) X mc_X11_isPlace (me_X11_isPlace l B) yi_X11_isPlace wd_1033 wd_1034 (by decide) (by decide +kernel)) <|
  mF (sn_if_eq (pc := 12) (off := 15) X (by decide +kernel) (by decide)) <|
  mF (sn_iload (pc := 15) X (by decide +kernel)) <|
  mF (sn_bipush (pc := 17) (n := (-32)) X (by decide +kernel) (by decide)) <|
  mF (sn_bipush (pc := 19) (n := 31) X (by decide +kernel) (by decide)) <|
  mF (sn_callS (pc := 21) X mc_X11_isIn (me_X11_isIn l B) yi_X11_isIn wd_992 wd_993 (by decide) (by decide +kernel)) <|
  mF (sn_if_ne (pc := 24) (off := 7) X (by decide +kernel) (by decide)) <|
  mF (sn_ldc2 (pc := 27) X (by decide +kernel) wd_999) <|
  mF (sn_lret (pc := 30) X hr hk (by decide +kernel)) <|
  mF (sn_aload_n (pc := 31) (j := 0) X (by decide +kernel) rfl) <|
  mF (sn_callV (pc := 32) X mc_X11_keep (me_X11_keep l B) yi_X11_keep wd_1009 wd_1011 wd_15 (T := TX11) (N := 22) rfl (by decide) (by decide +kernel)) <|
  mF (sn_aload_n (pc := 35) (j := 0) X (by decide +kernel) rfl) <|
  mF (sn_iload_n (pc := 36) (j := 1) X (by decide +kernel) rfl) <|
  mF (sn_iload_n (pc := 37) (j := 2) X (by decide +kernel) rfl) <|
  mF (sn_iload_n (pc := 38) (j := 3) X (by decide +kernel) rfl) <|
  mF (sn_iload (pc := 39) X (by decide +kernel)) <|
  mF (sn_callV (pc := 41) X mc_X11_setCross (me_X11_setCross l B) yi_X11_setCross wd_1050 wd_1052 wd_19 (T := TX11) (N := 22) rfl (by decide) (by decide +kernel)) <|
  mF (sn_lconst (pc := 44) (n := 0) X (by decide +kernel) (by decide)) <|
  mF (sn_lret (pc := 45) X hr hk (by decide +kernel)) <|
  mF0
theorem me_X11_cross (l : Launch) (B : mBs) : mMet l B yX11_cross cX11_cross 5 (some .long) 2 0 0 C_X11_cross := mMet_of (own := RX11) (by decide) rfl (fun p e s m args below meth c Q X hr hk hn => sd_X11_cross l B p e s m args below meth c Q X hr hk hn)
/-! PuppetStageModel.bar(IIII)J: 44 instructions, depth 2, makes 0 cells of 0 slots -/
def tb_X11_bar : mTb := [(0, aLI 1 1), (1, aCS 1 C_X11_isPuppet 4), (4, aIf (fun x => x = 0) 39 7), (7, aLI 2 8), (8, aPI 0 9), (9, aPI 5 10), (10, aCS 3 C_X11_isIn 13), (13, aIf (fun x => x = 0) 39 16), (16, aLI 3 17), (17, aPI (-100) 19), (19, aPI 100 21), (21, aCS 3 C_X11_isIn 24), (24, aIf (fun x => x = 0) 39 27), (27, aLI 4 29), (29, aPI (-100) 31), (31, aPI 100 33), (33, aCS 3 C_X11_isIn 36), (36, aIf (fun x => x = 0) 39 43), (39, aPL (-9000000000000000001) 42), (42, aRL), (43, aLA 0 44), (44, aCV 11 0 C_X11_keep 47), (47, aLA 0 48), (48, aLI 1 49), (49, aPI 43 51), (51, aPI 2 52), (52, aLI 2 53), (53, aB (fun x y => x * y) 54), (54, aB (fun x y => x + y) 55), (55, aLI 3 56), (56, aCV 11 3 C_X11_put 59), (59, aLA 0 60), (60, aLI 1 61), (61, aPI 43 63), (63, aPI 2 64), (64, aLI 2 65), (65, aB (fun x y => x * y) 66), (66, aB (fun x y => x + y) 67), (67, aPI 1 68), (68, aB (fun x y => x + y) 69), (69, aLI 4 71), (71, aCV 11 3 C_X11_put 74), (74, aPL 0 75), (75, aRL)]
theorem mt_X11_bar : mMT tb_X11_bar :=
  mF (mn_LI _ _) <|
  mF (mn_CS _ mc_X11_isPuppet _) <|
  mF (mn_If _ _ _) <|
  mF (mn_LI _ _) <|
  mF (mn_PI _ _) <|
  mF (mn_PI _ _) <|
  mF (mn_CS _ mc_X11_isIn _) <|
  mF (mn_If _ _ _) <|
  mF (mn_LI _ _) <|
  mF (mn_PI _ _) <|
  mF (mn_PI _ _) <|
  mF (mn_CS _ mc_X11_isIn _) <|
  mF (mn_If _ _ _) <|
  mF (mn_LI _ _) <|
  mF (mn_PI _ _) <|
  mF (mn_PI _ _) <|
  mF (mn_CS _ mc_X11_isIn _) <|
  mF (mn_If _ _ _) <|
  mF (mn_PL _ _) <|
  mF (mn_RL) <|
  mF (mn_LA _ _) <|
  mF (mn_CV _ _ mc_X11_keep _) <|
  mF (mn_LA _ _) <|
  mF (mn_LI _ _) <|
  mF (mn_PI _ _) <|
  mF (mn_PI _ _) <|
  mF (mn_LI _ _) <|
  mF (mn_B _ _) <|
  mF (mn_B _ _) <|
  mF (mn_LI _ _) <|
  mF (mn_CV _ _ mc_X11_put _) <|
  mF (mn_LA _ _) <|
  mF (mn_LI _ _) <|
  mF (mn_PI _ _) <|
  mF (mn_PI _ _) <|
  mF (mn_LI _ _) <|
  mF (mn_B _ _) <|
  mF (mn_B _ _) <|
  mF (mn_PI _ _) <|
  mF (mn_B _ _) <|
  mF (mn_LI _ _) <|
  mF (mn_CV _ _ mc_X11_put _) <|
  mF (mn_PL _ _) <|
  mF (mn_RL) <|
  mF0
def C_X11_bar : mCo := mRun tb_X11_bar 5
theorem mc_X11_bar : mMC C_X11_bar := mRun_mn mt_X11_bar 5
theorem yi_X11_bar : mYin yX11_bar cX11_bar 5 (some .long) 4 := ⟨wd_60, wd_1057, by decide +kernel, by decide⟩
set_option maxRecDepth 100000 in
set_option maxHeartbeats 4000000 in
theorem sd_X11_bar (l : Launch) (B : mBs) (p : Program) (e : Env) (s : State) (m : MethodId) (args : Array Value) (below : List Frame) (meth : Method) (c : Code) (Q : mQo) (X : mCx l B RX11 cX11_bar 5 p s m args c) (hr : meth.sig.returnType = (some .long)) (hk : meth.locks = false) (hn : meth.name = "bar") : ∀ q ∈ tb_X11_bar, mSnd l B 5 p e (mRm 2 0 0) s m args below meth c (MQ below (mPo B Q) args s 0 0 (mA B)) (fun r h' => (h'.1.2.1 ≤ 0 ∧ h'.1.2.2 ≤ 0) ∧ Q r h') q.2 q.1 :=
  mF (sn_iload_n (pc := 0) (j := 1) X (by decide +kernel) rfl) <|
  mF (sn_callS (pc := 1) X mc_X11_isPuppet (me_X11_isPuppet l B) yi_X11_isPuppet wd_989 wd_990 (by decide) (by decide +kernel)) <|
  mF (sn_if_eq (pc := 4) (off := 35) X (by decide +kernel) (by decide)) <|
  mF (sn_iload_n (pc := 7) (j := 2) X (by decide +kernel) rfl) <|
  mF (sn_iconst (pc := 8) (n := 0) X (by decide +kernel) (by decide)) <|
  mF (sn_iconst (pc := 9) (n := 5) X (by decide +kernel) (by decide)) <|
  mF (sn_callS (pc := 10) X mc_X11_isIn (me_X11_isIn l B) yi_X11_isIn wd_992 wd_993 (by decide) (by decide +kernel)) <|
  mF (sn_if_eq (pc := 13) (off := 26) X (by decide +kernel) (by decide)) <|
  mF (sn_iload_n (pc := 16) (j := 3) X (by decide +kernel) rfl) <|
  mF (sn_bipush (pc := 17) (n := (-100)) X (by decide +kernel) (by decide)) <|
  mF (sn_bipush (pc := 19) (n := 100) X (by decide +kernel) (by decide)) <|
  mF (sn_callS (pc := 21) X mc_X11_isIn (me_X11_isIn l B) yi_X11_isIn wd_992 wd_993 (by decide) (by decide +kernel)) <|
  mF (sn_if_eq (pc := 24) (off := 15) X (by decide +kernel) (by decide)) <|
  mF (sn_iload (pc := 27) X (by decide +kernel)) <|
  mF (sn_bipush (pc := 29) (n := (-100)) X (by decide +kernel) (by decide)) <|
  mF (sn_bipush (pc := 31) (n := 100) X (by decide +kernel) (by decide)) <|
  mF (sn_callS (pc := 33) X mc_X11_isIn (me_X11_isIn l B) yi_X11_isIn wd_992 wd_993 (by decide) (by decide +kernel)) <|
  mF (sn_if_ne (pc := 36) (off := 7) X (by decide +kernel) (by decide)) <|
  mF (sn_ldc2 (pc := 39) X (by decide +kernel) wd_999) <|
  mF (sn_lret (pc := 42) X hr hk (by decide +kernel)) <|
  mF (sn_aload_n (pc := 43) (j := 0) X (by decide +kernel) rfl) <|
  mF (sn_callV (pc := 44) X mc_X11_keep (me_X11_keep l B) yi_X11_keep wd_1009 wd_1011 wd_15 (T := TX11) (N := 22) rfl (by decide) (by decide +kernel)) <|
  mF (sn_aload_n (pc := 47) (j := 0) X (by decide +kernel) rfl) <|
  mF (sn_iload_n (pc := 48) (j := 1) X (by decide +kernel) rfl) <|
  mF (sn_bipush (pc := 49) (n := 43) X (by decide +kernel) (by decide)) <|
  mF (sn_iconst (pc := 51) (n := 2) X (by decide +kernel) (by decide)) <|
  mF (sn_iload_n (pc := 52) (j := 2) X (by decide +kernel) rfl) <|
  mF (sn_imul (pc := 53) X (by decide +kernel)) <|
  mF (sn_iadd (pc := 54) X (by decide +kernel)) <|
  mF (sn_iload_n (pc := 55) (j := 3) X (by decide +kernel) rfl) <|
  mF (sn_callV (pc := 56) X mc_X11_put (me_X11_put l B) yi_X11_put wd_1013 wd_1015 wd_16 (T := TX11) (N := 22) rfl (by decide) (by decide +kernel)) <|
  mF (sn_aload_n (pc := 59) (j := 0) X (by decide +kernel) rfl) <|
  mF (sn_iload_n (pc := 60) (j := 1) X (by decide +kernel) rfl) <|
  mF (sn_bipush (pc := 61) (n := 43) X (by decide +kernel) (by decide)) <|
  mF (sn_iconst (pc := 63) (n := 2) X (by decide +kernel) (by decide)) <|
  mF (sn_iload_n (pc := 64) (j := 2) X (by decide +kernel) rfl) <|
  mF (sn_imul (pc := 65) X (by decide +kernel)) <|
  mF (sn_iadd (pc := 66) X (by decide +kernel)) <|
  mF (sn_iconst (pc := 67) (n := 1) X (by decide +kernel) (by decide)) <|
  mF (sn_iadd (pc := 68) X (by decide +kernel)) <|
  mF (sn_iload (pc := 69) X (by decide +kernel)) <|
  mF (sn_callV (pc := 71) X mc_X11_put (me_X11_put l B) yi_X11_put wd_1013 wd_1015 wd_16 (T := TX11) (N := 22) rfl (by decide) (by decide +kernel)) <|
  mF (sn_lconst (pc := 74) (n := 0) X (by decide +kernel) (by decide)) <|
  mF (sn_lret (pc := 75) X hr hk (by decide +kernel)) <|
  mF0
theorem me_X11_bar (l : Launch) (B : mBs) : mMet l B yX11_bar cX11_bar 5 (some .long) 2 0 0 C_X11_bar := mMet_of (own := RX11) (by decide) rfl (fun p e s m args below meth c Q X hr hk hn => sd_X11_bar l B p e s m args below meth c Q X hr hk hn)
/-! PuppetStageModel.mayBend(III)Z: 11 instructions, depth 2, makes 0 cells of 0 slots -/
def tb_X11_mayBend : mTb := [(0, aLI 3 1), (1, aLA 0 2), (2, aLI 1 3), (3, aLI 2 4), (4, aCV 11 2 C_X11_least 7), (7, aLA 0 8), (8, aLI 1 9), (9, aLI 2 10), (10, aCV 11 2 C_X11_greatest 13), (13, aCS 3 C_X11_isIn 16), (16, aRZ)]
theorem mt_X11_mayBend : mMT tb_X11_mayBend :=
  mF (mn_LI _ _) <|
  mF (mn_LA _ _) <|
  mF (mn_LI _ _) <|
  mF (mn_LI _ _) <|
  mF (mn_CV _ _ mc_X11_least _) <|
  mF (mn_LA _ _) <|
  mF (mn_LI _ _) <|
  mF (mn_LI _ _) <|
  mF (mn_CV _ _ mc_X11_greatest _) <|
  mF (mn_CS _ mc_X11_isIn _) <|
  mF (mn_RZ) <|
  mF0
def C_X11_mayBend : mCo := mRun tb_X11_mayBend 4
theorem mc_X11_mayBend : mMC C_X11_mayBend := mRun_mn mt_X11_mayBend 4
theorem yi_X11_mayBend : mYin yX11_mayBend cX11_mayBend 4 (some .boolean) 3 := ⟨wd_60, wd_1069, by decide +kernel, by decide⟩
set_option maxRecDepth 100000 in
set_option maxHeartbeats 4000000 in
theorem sd_X11_mayBend (l : Launch) (B : mBs) (p : Program) (e : Env) (s : State) (m : MethodId) (args : Array Value) (below : List Frame) (meth : Method) (c : Code) (Q : mQo) (X : mCx l B RX11 cX11_mayBend 4 p s m args c) (hr : meth.sig.returnType = (some .boolean)) (hk : meth.locks = false) (hn : meth.name = "mayBend") : ∀ q ∈ tb_X11_mayBend, mSnd l B 4 p e (mRm 2 0 0) s m args below meth c (MQ below (mPo B Q) args s 0 0 (mA B)) (fun r h' => (h'.1.2.1 ≤ 0 ∧ h'.1.2.2 ≤ 0) ∧ Q r h') q.2 q.1 :=
  mF (sn_iload_n (pc := 0) (j := 3) X (by decide +kernel) rfl) <|
  mF (sn_aload_n (pc := 1) (j := 0) X (by decide +kernel) rfl) <|
  mF (sn_iload_n (pc := 2) (j := 1) X (by decide +kernel) rfl) <|
  mF (sn_iload_n (pc := 3) (j := 2) X (by decide +kernel) rfl) <|
  mF (sn_callV (pc := 4) X mc_X11_least (me_X11_least l B) yi_X11_least wd_1000 wd_1002 wd_13 (T := TX11) (N := 22) rfl (by decide) (by decide +kernel)) <|
  mF (sn_aload_n (pc := 7) (j := 0) X (by decide +kernel) rfl) <|
  mF (sn_iload_n (pc := 8) (j := 1) X (by decide +kernel) rfl) <|
  mF (sn_iload_n (pc := 9) (j := 2) X (by decide +kernel) rfl) <|
  mF (sn_callV (pc := 10) X mc_X11_greatest (me_X11_greatest l B) yi_X11_greatest wd_1004 wd_1006 wd_14 (T := TX11) (N := 22) rfl (by decide) (by decide +kernel)) <|
  mF (sn_callS (pc := 13) X mc_X11_isIn (me_X11_isIn l B) yi_X11_isIn wd_992 wd_993 (by decide) (by decide +kernel)) <|
  mF (sn_zret (pc := 16) X hr hk (by decide +kernel)) <|
  mF0
theorem me_X11_mayBend (l : Launch) (B : mBs) : mMet l B yX11_mayBend cX11_mayBend 4 (some .boolean) 2 0 0 C_X11_mayBend := mMet_of (own := RX11) (by decide) rfl (fun p e s m args below meth c Q X hr hk hn => sd_X11_mayBend l B p e s m args below meth c Q X hr hk hn)
/-! PuppetStageModel.bend(III)J: 34 instructions, depth 3, makes 0 cells of 0 slots -/
def tb_X11_bend : mTb := [(0, aLA 0 1), (1, aLI 1 2), (2, aLI 2 3), (3, aCV 11 2 C_X11_isLimb 6), (6, aIf (fun x => x = 0) 9 13), (9, aPL (-9000000000000000001) 12), (12, aRL), (13, aLA 0 14), (14, aLI 1 15), (15, aLI 2 16), (16, aLI 3 17), (17, aCV 11 3 C_X11_mayBend 20), (20, aIf (fun x => x = 0) 23 27), (23, aPL (-9000000000000000002) 26), (26, aRL), (27, aLA 0 28), (28, aCV 11 0 C_X11_keep 31), (31, aLA 0 32), (32, aLI 1 33), (33, aPI 19 35), (35, aLI 2 36), (36, aB (fun x y => x + y) 37), (37, aCV 11 2 C_X11_get 40), (40, aI2L 41), (41, aSL 4 43), (43, aLA 0 44), (44, aLI 1 45), (45, aPI 19 47), (47, aLI 2 48), (48, aB (fun x y => x + y) 49), (49, aLI 3 50), (50, aCV 11 3 C_X11_put 53), (53, aLL 4 55), (55, aRL)]
theorem mt_X11_bend : mMT tb_X11_bend :=
  mF (mn_LA _ _) <|
  mF (mn_LI _ _) <|
  mF (mn_LI _ _) <|
  mF (mn_CV _ _ mc_X11_isLimb _) <|
  mF (mn_If _ _ _) <|
  mF (mn_PL _ _) <|
  mF (mn_RL) <|
  mF (mn_LA _ _) <|
  mF (mn_LI _ _) <|
  mF (mn_LI _ _) <|
  mF (mn_LI _ _) <|
  mF (mn_CV _ _ mc_X11_mayBend _) <|
  mF (mn_If _ _ _) <|
  mF (mn_PL _ _) <|
  mF (mn_RL) <|
  mF (mn_LA _ _) <|
  mF (mn_CV _ _ mc_X11_keep _) <|
  mF (mn_LA _ _) <|
  mF (mn_LI _ _) <|
  mF (mn_PI _ _) <|
  mF (mn_LI _ _) <|
  mF (mn_B _ _) <|
  mF (mn_CV _ _ mc_X11_get _) <|
  mF (mn_I2L _) <|
  mF (mn_SL _ _) <|
  mF (mn_LA _ _) <|
  mF (mn_LI _ _) <|
  mF (mn_PI _ _) <|
  mF (mn_LI _ _) <|
  mF (mn_B _ _) <|
  mF (mn_LI _ _) <|
  mF (mn_CV _ _ mc_X11_put _) <|
  mF (mn_LL _ _) <|
  mF (mn_RL) <|
  mF0
def C_X11_bend : mCo := mRun tb_X11_bend 6
theorem mc_X11_bend : mMC C_X11_bend := mRun_mn mt_X11_bend 6
theorem yi_X11_bend : mYin yX11_bend cX11_bend 6 (some .long) 3 := ⟨wd_60, wd_1061, by decide +kernel, by decide⟩
set_option maxRecDepth 100000 in
set_option maxHeartbeats 4000000 in
theorem sd_X11_bend (l : Launch) (B : mBs) (p : Program) (e : Env) (s : State) (m : MethodId) (args : Array Value) (below : List Frame) (meth : Method) (c : Code) (Q : mQo) (X : mCx l B RX11 cX11_bend 6 p s m args c) (hr : meth.sig.returnType = (some .long)) (hk : meth.locks = false) (hn : meth.name = "bend") : ∀ q ∈ tb_X11_bend, mSnd l B 6 p e (mRm 3 0 0) s m args below meth c (MQ below (mPo B Q) args s 0 0 (mA B)) (fun r h' => (h'.1.2.1 ≤ 0 ∧ h'.1.2.2 ≤ 0) ∧ Q r h') q.2 q.1 :=
  mF (sn_aload_n (pc := 0) (j := 0) X (by decide +kernel) rfl) <|
  mF (sn_iload_n (pc := 1) (j := 1) X (by decide +kernel) rfl) <|
  mF (sn_iload_n (pc := 2) (j := 2) X (by decide +kernel) rfl) <|
  mF (sn_callV (pc := 3) X mc_X11_isLimb (me_X11_isLimb l B) yi_X11_isLimb wd_1062 wd_1064 wd_20 (T := TX11) (N := 22) rfl (by decide) (by decide +kernel)) <|
  mF (sn_if_ne (pc := 6) (off := 7) X (by decide +kernel) (by decide)) <|
  mF (sn_ldc2 (pc := 9) X (by decide +kernel) wd_999) <|
  mF (sn_lret (pc := 12) X hr hk (by decide +kernel)) <|
  mF (sn_aload_n (pc := 13) (j := 0) X (by decide +kernel) rfl) <|
  mF (sn_iload_n (pc := 14) (j := 1) X (by decide +kernel) rfl) <|
  mF (sn_iload_n (pc := 15) (j := 2) X (by decide +kernel) rfl) <|
  mF (sn_iload_n (pc := 16) (j := 3) X (by decide +kernel) rfl) <|
  mF (sn_callV (pc := 17) X mc_X11_mayBend (me_X11_mayBend l B) yi_X11_mayBend wd_1066 wd_1068 wd_21 (T := TX11) (N := 22) rfl (by decide) (by decide +kernel)) <|
  mF (sn_if_ne (pc := 20) (off := 7) X (by decide +kernel) (by decide)) <|
  mF (sn_ldc2 (pc := 23) X (by decide +kernel) wd_984) <|
  mF (sn_lret (pc := 26) X hr hk (by decide +kernel)) <|
  mF (sn_aload_n (pc := 27) (j := 0) X (by decide +kernel) rfl) <|
  mF (sn_callV (pc := 28) X mc_X11_keep (me_X11_keep l B) yi_X11_keep wd_1009 wd_1011 wd_15 (T := TX11) (N := 22) rfl (by decide) (by decide +kernel)) <|
  mF (sn_aload_n (pc := 31) (j := 0) X (by decide +kernel) rfl) <|
  mF (sn_iload_n (pc := 32) (j := 1) X (by decide +kernel) rfl) <|
  mF (sn_bipush (pc := 33) (n := 19) X (by decide +kernel) (by decide)) <|
  mF (sn_iload_n (pc := 35) (j := 2) X (by decide +kernel) rfl) <|
  mF (sn_iadd (pc := 36) X (by decide +kernel)) <|
  mF (sn_callV (pc := 37) X mc_X11_get (me_X11_get l B) yi_X11_get wd_995 wd_997 wd_12 (T := TX11) (N := 22) rfl (by decide) (by decide +kernel)) <|
  mF (sn_i2l (pc := 40) X (by decide +kernel)) <|
  mF (sn_lstore (pc := 41) X (by decide +kernel) (by decide)) <|
  mF (sn_aload_n (pc := 43) (j := 0) X (by decide +kernel) rfl) <|
  mF (sn_iload_n (pc := 44) (j := 1) X (by decide +kernel) rfl) <|
  mF (sn_bipush (pc := 45) (n := 19) X (by decide +kernel) (by decide)) <|
  mF (sn_iload_n (pc := 47) (j := 2) X (by decide +kernel) rfl) <|
  mF (sn_iadd (pc := 48) X (by decide +kernel)) <|
  mF (sn_iload_n (pc := 49) (j := 3) X (by decide +kernel) rfl) <|
  mF (sn_callV (pc := 50) X mc_X11_put (me_X11_put l B) yi_X11_put wd_1013 wd_1015 wd_16 (T := TX11) (N := 22) rfl (by decide) (by decide +kernel)) <|
  mF (sn_lload (pc := 53) X (by decide +kernel)) <|
  mF (sn_lret (pc := 55) X hr hk (by decide +kernel)) <|
  mF0
theorem me_X11_bend (l : Launch) (B : mBs) : mMet l B yX11_bend cX11_bend 6 (some .long) 3 0 0 C_X11_bend := mMet_of (own := RX11) (by decide) rfl (fun p e s m args below meth c Q X hr hk hn => sd_X11_bend l B p e s m args below meth c Q X hr hk hn)
/-! PuppetStageModel.hand(II)J: 25 instructions, depth 2, makes 0 cells of 0 slots -/
def tb_X11_hand : mTb := [(0, aLI 1 1), (1, aCS 1 C_X11_isPuppet 4), (4, aIf (fun x => x = 0) 16 7), (7, aLI 2 8), (8, aPI 0 9), (9, aPI 1 10), (10, aCS 3 C_X11_isIn 13), (13, aIf (fun x => x = 0) 16 20), (16, aPL (-9000000000000000001) 19), (19, aRL), (20, aLA 0 21), (21, aCV 11 0 C_X11_keep 24), (24, aLA 0 25), (25, aLI 1 26), (26, aPI 128 29), (29, aCV 11 2 C_X11_get 32), (32, aI2L 33), (33, aSL 3 34), (34, aLA 0 35), (35, aLI 1 36), (36, aPI 128 39), (39, aLI 2 40), (40, aCV 11 3 C_X11_put 43), (43, aLL 3 44), (44, aRL)]
theorem mt_X11_hand : mMT tb_X11_hand :=
  mF (mn_LI _ _) <|
  mF (mn_CS _ mc_X11_isPuppet _) <|
  mF (mn_If _ _ _) <|
  mF (mn_LI _ _) <|
  mF (mn_PI _ _) <|
  mF (mn_PI _ _) <|
  mF (mn_CS _ mc_X11_isIn _) <|
  mF (mn_If _ _ _) <|
  mF (mn_PL _ _) <|
  mF (mn_RL) <|
  mF (mn_LA _ _) <|
  mF (mn_CV _ _ mc_X11_keep _) <|
  mF (mn_LA _ _) <|
  mF (mn_LI _ _) <|
  mF (mn_PI _ _) <|
  mF (mn_CV _ _ mc_X11_get _) <|
  mF (mn_I2L _) <|
  mF (mn_SL _ _) <|
  mF (mn_LA _ _) <|
  mF (mn_LI _ _) <|
  mF (mn_PI _ _) <|
  mF (mn_LI _ _) <|
  mF (mn_CV _ _ mc_X11_put _) <|
  mF (mn_LL _ _) <|
  mF (mn_RL) <|
  mF0
def C_X11_hand : mCo := mRun tb_X11_hand 5
theorem mc_X11_hand : mMC C_X11_hand := mRun_mn mt_X11_hand 5
theorem yi_X11_hand : mYin yX11_hand cX11_hand 5 (some .long) 2 := ⟨wd_60, wd_1073, by decide +kernel, by decide⟩
set_option maxRecDepth 100000 in
set_option maxHeartbeats 4000000 in
theorem sd_X11_hand (l : Launch) (B : mBs) (p : Program) (e : Env) (s : State) (m : MethodId) (args : Array Value) (below : List Frame) (meth : Method) (c : Code) (Q : mQo) (X : mCx l B RX11 cX11_hand 5 p s m args c) (hr : meth.sig.returnType = (some .long)) (hk : meth.locks = false) (hn : meth.name = "hand") : ∀ q ∈ tb_X11_hand, mSnd l B 5 p e (mRm 2 0 0) s m args below meth c (MQ below (mPo B Q) args s 0 0 (mA B)) (fun r h' => (h'.1.2.1 ≤ 0 ∧ h'.1.2.2 ≤ 0) ∧ Q r h') q.2 q.1 :=
  mF (sn_iload_n (pc := 0) (j := 1) X (by decide +kernel) rfl) <|
  mF (sn_callS (pc := 1) X mc_X11_isPuppet (me_X11_isPuppet l B) yi_X11_isPuppet wd_989 wd_990 (by decide) (by decide +kernel)) <|
  mF (sn_if_eq (pc := 4) (off := 12) X (by decide +kernel) (by decide)) <|
  mF (sn_iload_n (pc := 7) (j := 2) X (by decide +kernel) rfl) <|
  mF (sn_iconst (pc := 8) (n := 0) X (by decide +kernel) (by decide)) <|
  mF (sn_iconst (pc := 9) (n := 1) X (by decide +kernel) (by decide)) <|
  mF (sn_callS (pc := 10) X mc_X11_isIn (me_X11_isIn l B) yi_X11_isIn wd_992 wd_993 (by decide) (by decide +kernel)) <|
  mF (sn_if_ne (pc := 13) (off := 7) X (by decide +kernel) (by decide)) <|
  mF (sn_ldc2 (pc := 16) X (by decide +kernel) wd_999) <|
  mF (sn_lret (pc := 19) X hr hk (by decide +kernel)) <|
  mF (sn_aload_n (pc := 20) (j := 0) X (by decide +kernel) rfl) <|
  mF (sn_callV (pc := 21) X mc_X11_keep (me_X11_keep l B) yi_X11_keep wd_1009 wd_1011 wd_15 (T := TX11) (N := 22) rfl (by decide) (by decide +kernel)) <|
  mF (sn_aload_n (pc := 24) (j := 0) X (by decide +kernel) rfl) <|
  mF (sn_iload_n (pc := 25) (j := 1) X (by decide +kernel) rfl) <|
  mF (sn_sipush (pc := 26) (n := 128) X (by decide +kernel) (by decide)) <|
  mF (sn_callV (pc := 29) X mc_X11_get (me_X11_get l B) yi_X11_get wd_995 wd_997 wd_12 (T := TX11) (N := 22) rfl (by decide) (by decide +kernel)) <|
  mF (sn_i2l (pc := 32) X (by decide +kernel)) <|
  mF (sn_lstore_n (pc := 33) (j := 3) X (by decide +kernel) rfl (by decide)) <|
  mF (sn_aload_n (pc := 34) (j := 0) X (by decide +kernel) rfl) <|
  mF (sn_iload_n (pc := 35) (j := 1) X (by decide +kernel) rfl) <|
  mF (sn_sipush (pc := 36) (n := 128) X (by decide +kernel) (by decide)) <|
  mF (sn_iload_n (pc := 39) (j := 2) X (by decide +kernel) rfl) <|
  mF (sn_callV (pc := 40) X mc_X11_put (me_X11_put l B) yi_X11_put wd_1013 wd_1015 wd_16 (T := TX11) (N := 22) rfl (by decide) (by decide +kernel)) <|
  mF (sn_lload_n (pc := 43) (j := 3) X (by decide +kernel) rfl) <|
  mF (sn_lret (pc := 44) X hr hk (by decide +kernel)) <|
  mF0
theorem me_X11_hand (l : Launch) (B : mBs) : mMet l B yX11_hand cX11_hand 5 (some .long) 2 0 0 C_X11_hand := mMet_of (own := RX11) (by decide) rfl (fun p e s m args below meth c Q X hr hk hn => sd_X11_hand l B p e s m args below meth c Q X hr hk hn)
