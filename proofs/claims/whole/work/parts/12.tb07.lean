/-! PuppetStageModel.lowest(I)J: 137 instructions, depth 6, makes 0 cells of 0 slots -/
def tb_X11_lowest_c0 : mTb := [(0, aLI 1 1), (1, aCS 1 C_X11_isPuppet 4), (4, aIf (fun x => x = 0) 7 11), (7, aPL (-9000000000000000001) 10), (10, aRL), (11, aLA 0 12), (12, aLI 1 13), (13, aPI 0 14), (14, aCV 11 2 C_X11_get 17), (17, aSI 2 18), (18, aLI 2 19), (19, aPI 1 20), (20, aIc (fun x y => x < y) 28 23), (23, aLI 2 24), (24, aPI 2 25), (25, aIc (fun x y => x ≤ y) 32 28), (28, aPL (-9000000000000000002) 31), (31, aRL), (32, aLA 0 33), (33, aCV 11 0 C_X11_keep 36), (36, aLA 0 37), (37, aLI 1 38), (38, aCV 11 1 C_X11_noteBends 41), (41, aLA 0 42), (42, aGR 11 12 45), (45, aPI 0 46), (46, aIA 47), (47, aSI 3 48), (48, aLA 0 49), (49, aGR 11 12 52), (52, aPI 1 53), (53, aIA 54), (54, aSI 4 56), (56, aPI 0 57), (57, aSI 5 59), (59, aLA 0 60), (60, aLI 1 61), (61, aPI 0 62), (62, aCV 11 2 C_X11_least 65), (65, aSI 6 67), (67, aLI 6 69), (69, aLA 0 70), (70, aLI 1 71), (71, aPI 0 72), (72, aCV 11 2 C_X11_greatest 75), (75, aIc (fun x y => y < x) 191 78), (78, aLI 2 79), (79, aPI 2 80), (80, aIc (fun x y => x = y) 83 92), (83, aLA 0 84), (84, aLI 1 85), (85, aPI 1 86), (86, aCV 11 2 C_X11_least 89), (89, aGo 98), (92, aLA 0 93), (93, aGR 11 12 96), (96, aPI 1 97), (97, aIA 98), (98, aSI 7 100), (100, aLI 2 101), (101, aPI 2 102), (102, aIc (fun x y => x = y) 105 114), (105, aLA 0 106), (106, aLI 1 107), (107, aPI 1 108), (108, aCV 11 2 C_X11_greatest 111), (111, aGo 120), (114, aLA 0 115), (115, aGR 11 12 118), (118, aPI 1 119)]
theorem mt_X11_lowest_c0 : mMT tb_X11_lowest_c0 :=
  mF (mn_LI _ _) <|
  mF (mn_CS _ mc_X11_isPuppet _) <|
  mF (mn_If _ _ _) <|
  mF (mn_PL _ _) <|
  mF (mn_RL) <|
  mF (mn_LA _ _) <|
  mF (mn_LI _ _) <|
  mF (mn_PI _ _) <|
  mF (mn_CV _ _ mc_X11_get _) <|
  mF (mn_SI _ _) <|
  mF (mn_LI _ _) <|
  mF (mn_PI _ _) <|
  mF (mn_Ic _ _ _) <|
  mF (mn_LI _ _) <|
  mF (mn_PI _ _) <|
  mF (mn_Ic _ _ _) <|
  mF (mn_PL _ _) <|
  mF (mn_RL) <|
  mF (mn_LA _ _) <|
  mF (mn_CV _ _ mc_X11_keep _) <|
  mF (mn_LA _ _) <|
  mF (mn_LI _ _) <|
  mF (mn_CV _ _ mc_X11_noteBends _) <|
  mF (mn_LA _ _) <|
  mF (mn_GR _ _ _) <|
  mF (mn_PI _ _) <|
  mF (mn_IA _) <|
  mF (mn_SI _ _) <|
  mF (mn_LA _ _) <|
  mF (mn_GR _ _ _) <|
  mF (mn_PI _ _) <|
  mF (mn_IA _) <|
  mF (mn_SI _ _) <|
  mF (mn_PI _ _) <|
  mF (mn_SI _ _) <|
  mF (mn_LA _ _) <|
  mF (mn_LI _ _) <|
  mF (mn_PI _ _) <|
  mF (mn_CV _ _ mc_X11_least _) <|
  mF (mn_SI _ _) <|
  mF (mn_LI _ _) <|
  mF (mn_LA _ _) <|
  mF (mn_LI _ _) <|
  mF (mn_PI _ _) <|
  mF (mn_CV _ _ mc_X11_greatest _) <|
  mF (mn_Ic _ _ _) <|
  mF (mn_LI _ _) <|
  mF (mn_PI _ _) <|
  mF (mn_Ic _ _ _) <|
  mF (mn_LA _ _) <|
  mF (mn_LI _ _) <|
  mF (mn_PI _ _) <|
  mF (mn_CV _ _ mc_X11_least _) <|
  mF (mn_Go _) <|
  mF (mn_LA _ _) <|
  mF (mn_GR _ _ _) <|
  mF (mn_PI _ _) <|
  mF (mn_IA _) <|
  mF (mn_SI _ _) <|
  mF (mn_LI _ _) <|
  mF (mn_PI _ _) <|
  mF (mn_Ic _ _ _) <|
  mF (mn_LA _ _) <|
  mF (mn_LI _ _) <|
  mF (mn_PI _ _) <|
  mF (mn_CV _ _ mc_X11_greatest _) <|
  mF (mn_Go _) <|
  mF (mn_LA _ _) <|
  mF (mn_GR _ _ _) <|
  mF (mn_PI _ _) <|
  mF0
def tb_X11_lowest_c1 : mTb := [(119, aIA 120), (120, aSI 8 122), (122, aLI 7 124), (124, aSI 9 126), (126, aLI 9 128), (128, aLI 8 130), (130, aIc (fun x y => y < x) 185 133), (133, aLA 0 134), (134, aLI 1 135), (135, aPI 19 137), (137, aLI 6 139), (139, aCV 11 3 C_X11_put 142), (142, aLA 0 143), (143, aLI 1 144), (144, aPI 20 146), (146, aLI 9 148), (148, aCV 11 3 C_X11_put 151), (151, aLI 5 153), (153, aIf (fun x => x = 0) 164 156), (156, aLA 0 157), (157, aLI 1 158), (158, aCV 11 1 C_X11_isBetter 161), (161, aIf (fun x => x = 0) 179 164), (164, aLA 0 165), (165, aLI 1 166), (166, aCV 11 1 C_X11_note 169), (169, aPI 1 170), (170, aSI 5 172), (172, aLI 6 174), (174, aSI 3 175), (175, aLI 9 177), (177, aSI 4 179), (179, aInc 9 1 182), (182, aGo 126), (185, aInc 6 1 188), (188, aGo 67), (191, aLA 0 192), (192, aLI 1 193), (193, aPI 19 195), (195, aLI 3 196), (196, aCV 11 3 C_X11_put 199), (199, aLA 0 200), (200, aLI 1 201), (201, aPI 20 203), (203, aLI 4 205), (205, aCV 11 3 C_X11_put 208), (208, aLI 3 209), (209, aLA 0 210), (210, aGR 11 12 213), (213, aPI 0 214), (214, aIA 215), (215, aIc (fun x y => x = y) 222 218), (218, aPI 1 219), (219, aGo 223), (222, aPI 0 223), (223, aLI 4 225), (225, aLA 0 226), (226, aGR 11 12 229), (229, aPI 1 230), (230, aIA 231), (231, aIc (fun x y => x = y) 238 234), (234, aPI 1 235), (235, aGo 239), (238, aPI 0 239), (239, aB (fun x y => x + y) 240), (240, aI2L 241), (241, aRL)]
theorem mt_X11_lowest_c1 : mMT tb_X11_lowest_c1 :=
  mF (mn_IA _) <|
  mF (mn_SI _ _) <|
  mF (mn_LI _ _) <|
  mF (mn_SI _ _) <|
  mF (mn_LI _ _) <|
  mF (mn_LI _ _) <|
  mF (mn_Ic _ _ _) <|
  mF (mn_LA _ _) <|
  mF (mn_LI _ _) <|
  mF (mn_PI _ _) <|
  mF (mn_LI _ _) <|
  mF (mn_CV _ _ mc_X11_put _) <|
  mF (mn_LA _ _) <|
  mF (mn_LI _ _) <|
  mF (mn_PI _ _) <|
  mF (mn_LI _ _) <|
  mF (mn_CV _ _ mc_X11_put _) <|
  mF (mn_LI _ _) <|
  mF (mn_If _ _ _) <|
  mF (mn_LA _ _) <|
  mF (mn_LI _ _) <|
  mF (mn_CV _ _ mc_X11_isBetter _) <|
  mF (mn_If _ _ _) <|
  mF (mn_LA _ _) <|
  mF (mn_LI _ _) <|
  mF (mn_CV _ _ mc_X11_note _) <|
  mF (mn_PI _ _) <|
  mF (mn_SI _ _) <|
  mF (mn_LI _ _) <|
  mF (mn_SI _ _) <|
  mF (mn_LI _ _) <|
  mF (mn_SI _ _) <|
  mF (mn_Inc _ _ _) <|
  mF (mn_Go _) <|
  mF (mn_Inc _ _ _) <|
  mF (mn_Go _) <|
  mF (mn_LA _ _) <|
  mF (mn_LI _ _) <|
  mF (mn_PI _ _) <|
  mF (mn_LI _ _) <|
  mF (mn_CV _ _ mc_X11_put _) <|
  mF (mn_LA _ _) <|
  mF (mn_LI _ _) <|
  mF (mn_PI _ _) <|
  mF (mn_LI _ _) <|
  mF (mn_CV _ _ mc_X11_put _) <|
  mF (mn_LI _ _) <|
  mF (mn_LA _ _) <|
  mF (mn_GR _ _ _) <|
  mF (mn_PI _ _) <|
  mF (mn_IA _) <|
  mF (mn_Ic _ _ _) <|
  mF (mn_PI _ _) <|
  mF (mn_Go _) <|
  mF (mn_PI _ _) <|
  mF (mn_LI _ _) <|
  mF (mn_LA _ _) <|
  mF (mn_GR _ _ _) <|
  mF (mn_PI _ _) <|
  mF (mn_IA _) <|
  mF (mn_Ic _ _ _) <|
  mF (mn_PI _ _) <|
  mF (mn_Go _) <|
  mF (mn_PI _ _) <|
  mF (mn_B _ _) <|
  mF (mn_I2L _) <|
  mF (mn_RL) <|
  mF0
def tb_X11_lowest : mTb := tb_X11_lowest_c0 ++ (tb_X11_lowest_c1)
theorem mt_X11_lowest : mMT tb_X11_lowest := mFA mt_X11_lowest_c0 mt_X11_lowest_c1
def C_X11_lowest : mCo := mRun tb_X11_lowest 10
theorem mc_X11_lowest : mMC C_X11_lowest := mRun_mn mt_X11_lowest 10
theorem yi_X11_lowest : mYin yX11_lowest cX11_lowest 10 (some .long) 1 := ⟨wd_60, wd_1224, by decide +kernel, by decide⟩
set_option maxRecDepth 100000 in
set_option maxHeartbeats 4000000 in
theorem sd_X11_lowest_c0 (l : Launch) (B : mBs) (p : Program) (e : Env) (s : State) (m : MethodId) (args : Array Value) (below : List Frame) (meth : Method) (c : Code) (Q : mQo) (X : mCx l B RX11 cX11_lowest 10 p s m args c) (hr : meth.sig.returnType = (some .long)) (hk : meth.locks = false) (hn : meth.name = "lowest") : ∀ q ∈ tb_X11_lowest_c0, mSnd l B 10 p e (mRm 6 0 0) s m args below meth c (MQ below (mPo B Q) args s 0 0 (mA B)) (fun r h' => (h'.1.2.1 ≤ 0 ∧ h'.1.2.2 ≤ 0) ∧ Q r h') q.2 q.1 :=
  mF (sn_iload_n (pc := 0) (j := 1) X (by decide +kernel) rfl) <|
  mF (sn_callS (pc := 1) X mc_X11_isPuppet (me_X11_isPuppet l B) yi_X11_isPuppet wd_989 wd_990 (by decide) (by decide +kernel)) <|
  mF (sn_if_ne (pc := 4) (off := 7) X (by decide +kernel) (by decide)) <|
  mF (sn_ldc2 (pc := 7) X (by decide +kernel) wd_999) <|
  mF (sn_lret (pc := 10) X hr hk (by decide +kernel)) <|
  mF (sn_aload_n (pc := 11) (j := 0) X (by decide +kernel) rfl) <|
  mF (sn_iload_n (pc := 12) (j := 1) X (by decide +kernel) rfl) <|
  mF (sn_iconst (pc := 13) (n := 0) X (by decide +kernel) (by decide)) <|
  mF (sn_callV (pc := 14) X mc_X11_get (me_X11_get l B) yi_X11_get wd_995 wd_997 wd_12 (T := TX11) (N := 22) rfl (by decide) (by decide +kernel)) <|
  mF (sn_istore_n (pc := 17) (j := 2) X (by decide +kernel) rfl (by decide)) <|
  mF (sn_iload_n (pc := 18) (j := 2) X (by decide +kernel) rfl) <|
  mF (sn_iconst (pc := 19) (n := 1) X (by decide +kernel) (by decide)) <|
  mF (sn_icmp_lt (pc := 20) (off := 8) X (by decide +kernel) (by decide)) <|
  mF (sn_iload_n (pc := 23) (j := 2) X (by decide +kernel) rfl) <|
  mF (sn_iconst (pc := 24) (n := 2) X (by decide +kernel) (by decide)) <|
  mF (sn_icmp_le (pc := 25) (off := 7) X (by decide +kernel) (by decide)) <|
  mF (sn_ldc2 (pc := 28) X (by decide +kernel) wd_984) <|
  mF (sn_lret (pc := 31) X hr hk (by decide +kernel)) <|
  mF (sn_aload_n (pc := 32) (j := 0) X (by decide +kernel) rfl) <|
  mF (sn_callV (pc := 33) X mc_X11_keep (me_X11_keep l B) yi_X11_keep wd_1009 wd_1011 wd_15 (T := TX11) (N := 22) rfl (by decide) (by decide +kernel)) <|
  mF (sn_aload_n (pc := 36) (j := 0) X (by decide +kernel) rfl) <|
  mF (sn_iload_n (pc := 37) (j := 1) X (by decide +kernel) rfl) <|
  mF (sn_callV (pc := 38) X mc_X11_noteBends (me_X11_noteBends l B) yi_X11_noteBends wd_1213 wd_1215 wd_41 (T := TX11) (N := 22) rfl (by decide) (by decide +kernel)) <|
  mF (sn_aload_n (pc := 41) (j := 0) X (by decide +kernel) rfl) <|
  mF (sn_getR (pc := 42) X fd_X11_35 (by decide +kernel)) <|
  mF (sn_iconst (pc := 45) (n := 0) X (by decide +kernel) (by decide)) <|
  mF (sn_iaload (pc := 46) X (by decide +kernel)) <|
  mF (sn_istore_n (pc := 47) (j := 3) X (by decide +kernel) rfl (by decide)) <|
  mF (sn_aload_n (pc := 48) (j := 0) X (by decide +kernel) rfl) <|
  mF (sn_getR (pc := 49) X fd_X11_35 (by decide +kernel)) <|
  mF (sn_iconst (pc := 52) (n := 1) X (by decide +kernel) (by decide)) <|
  mF (sn_iaload (pc := 53) X (by decide +kernel)) <|
  mF (sn_istore (pc := 54) X (by decide +kernel) (by decide)) <|
  mF (sn_iconst (pc := 56) (n := 0) X (by decide +kernel) (by decide)) <|
  mF (sn_istore (pc := 57) X (by decide +kernel) (by decide)) <|
  mF (sn_aload_n (pc := 59) (j := 0) X (by decide +kernel) rfl) <|
  mF (sn_iload_n (pc := 60) (j := 1) X (by decide +kernel) rfl) <|
  mF (sn_iconst (pc := 61) (n := 0) X (by decide +kernel) (by decide)) <|
  mF (sn_callV (pc := 62) X mc_X11_least (me_X11_least l B) yi_X11_least wd_1000 wd_1002 wd_13 (T := TX11) (N := 22) rfl (by decide) (by decide +kernel)) <|
  mF (sn_istore (pc := 65) X (by decide +kernel) (by decide)) <|
  mF (sn_iload (pc := 67) X (by decide +kernel)) <|
  mF (sn_aload_n (pc := 69) (j := 0) X (by decide +kernel) rfl) <|
  mF (sn_iload_n (pc := 70) (j := 1) X (by decide +kernel) rfl) <|
  mF (sn_iconst (pc := 71) (n := 0) X (by decide +kernel) (by decide)) <|
  mF (sn_callV (pc := 72) X mc_X11_greatest (me_X11_greatest l B) yi_X11_greatest wd_1004 wd_1006 wd_14 (T := TX11) (N := 22) rfl (by decide) (by decide +kernel)) <|
  mF (sn_icmp_gt (pc := 75) (off := 116) X (by decide +kernel) (by decide)) <|
  mF (sn_iload_n (pc := 78) (j := 2) X (by decide +kernel) rfl) <|
  mF (sn_iconst (pc := 79) (n := 2) X (by decide +kernel) (by decide)) <|
  mF (sn_icmp_ne (pc := 80) (off := 12) X (by decide +kernel) (by decide)) <|
  mF (sn_aload_n (pc := 83) (j := 0) X (by decide +kernel) rfl) <|
  mF (sn_iload_n (pc := 84) (j := 1) X (by decide +kernel) rfl) <|
  mF (sn_iconst (pc := 85) (n := 1) X (by decide +kernel) (by decide)) <|
  mF (sn_callV (pc := 86) X mc_X11_least (me_X11_least l B) yi_X11_least wd_1000 wd_1002 wd_13 (T := TX11) (N := 22) rfl (by decide) (by decide +kernel)) <|
  mF (sn_goto (pc := 89) (off := 9) X (by decide +kernel) (by decide)) <|
  mF (sn_aload_n (pc := 92) (j := 0) X (by decide +kernel) rfl) <|
  mF (sn_getR (pc := 93) X fd_X11_35 (by decide +kernel)) <|
  mF (sn_iconst (pc := 96) (n := 1) X (by decide +kernel) (by decide)) <|
  mF (sn_iaload (pc := 97) X (by decide +kernel)) <|
  mF (sn_istore (pc := 98) X (by decide +kernel) (by decide)) <|
  mF (sn_iload_n (pc := 100) (j := 2) X (by decide +kernel) rfl) <|
  mF (sn_iconst (pc := 101) (n := 2) X (by decide +kernel) (by decide)) <|
  mF (sn_icmp_ne (pc := 102) (off := 12) X (by decide +kernel) (by decide)) <|
  mF (sn_aload_n (pc := 105) (j := 0) X (by decide +kernel) rfl) <|
  mF (sn_iload_n (pc := 106) (j := 1) X (by decide +kernel) rfl) <|
  mF (sn_iconst (pc := 107) (n := 1) X (by decide +kernel) (by decide)) <|
  mF (sn_callV (pc := 108) X mc_X11_greatest (me_X11_greatest l B) yi_X11_greatest wd_1004 wd_1006 wd_14 (T := TX11) (N := 22) rfl (by decide) (by decide +kernel)) <|
  mF (sn_goto (pc := 111) (off := 9) X (by decide +kernel) (by decide)) <|
  mF (sn_aload_n (pc := 114) (j := 0) X (by decide +kernel) rfl) <|
  mF (sn_getR (pc := 115) X fd_X11_35 (by decide +kernel)) <|
  mF (sn_iconst (pc := 118) (n := 1) X (by decide +kernel) (by decide)) <|
  mF0
set_option maxRecDepth 100000 in
set_option maxHeartbeats 4000000 in
theorem sd_X11_lowest_c1 (l : Launch) (B : mBs) (p : Program) (e : Env) (s : State) (m : MethodId) (args : Array Value) (below : List Frame) (meth : Method) (c : Code) (Q : mQo) (X : mCx l B RX11 cX11_lowest 10 p s m args c) (hr : meth.sig.returnType = (some .long)) (hk : meth.locks = false) (hn : meth.name = "lowest") : ∀ q ∈ tb_X11_lowest_c1, mSnd l B 10 p e (mRm 6 0 0) s m args below meth c (MQ below (mPo B Q) args s 0 0 (mA B)) (fun r h' => (h'.1.2.1 ≤ 0 ∧ h'.1.2.2 ≤ 0) ∧ Q r h') q.2 q.1 :=
  mF (sn_iaload (pc := 119) X (by decide +kernel)) <|
  mF (sn_istore (pc := 120) X (by decide +kernel) (by decide)) <|
  mF (sn_iload (pc := 122) X (by decide +kernel)) <|
  mF (sn_istore (pc := 124) X (by decide +kernel) (by decide)) <|
  mF (sn_iload (pc := 126) X (by decide +kernel)) <|
  mF (sn_iload (pc := 128) X (by decide +kernel)) <|
  mF (sn_icmp_gt (pc := 130) (off := 55) X (by decide +kernel) (by decide)) <|
  mF (sn_aload_n (pc := 133) (j := 0) X (by decide +kernel) rfl) <|
  mF (sn_iload_n (pc := 134) (j := 1) X (by decide +kernel) rfl) <|
  mF (sn_bipush (pc := 135) (n := 19) X (by decide +kernel) (by decide)) <|
  mF (sn_iload (pc := 137) X (by decide +kernel)) <|
  mF (sn_callV (pc := 139) X mc_X11_put (me_X11_put l B) yi_X11_put wd_1013 wd_1015 wd_16 (T := TX11) (N := 22) rfl (by decide) (by decide +kernel)) <|
  mF (sn_aload_n (pc := 142) (j := 0) X (by decide +kernel) rfl) <|
  mF (sn_iload_n (pc := 143) (j := 1) X (by decide +kernel) rfl) <|
  mF (sn_bipush (pc := 144) (n := 20) X (by decide +kernel) (by decide)) <|
  mF (sn_iload (pc := 146) X (by decide +kernel)) <|
  mF (sn_callV (pc := 148) X mc_X11_put (me_X11_put l B) yi_X11_put wd_1013 wd_1015 wd_16 (T := TX11) (N := 22) rfl (by decide) (by decide +kernel)) <|
  mF (sn_iload (pc := 151) X (by decide +kernel)) <|
  mF (sn_if_eq (pc := 153) (off := 11) X (by decide +kernel) (by decide)) <|
  mF (sn_aload_n (pc := 156) (j := 0) X (by decide +kernel) rfl) <|
  mF (sn_iload_n (pc := 157) (j := 1) X (by decide +kernel) rfl) <|
  mF (sn_callV (pc := 158) X mc_X11_isBetter (me_X11_isBetter l B) yi_X11_isBetter wd_1205 wd_1207 wd_40 (T := TX11) (N := 22) rfl (by decide) (by decide +kernel)) <|
  mF (sn_if_eq (pc := 161) (off := 18) X (by decide +kernel) (by decide)) <|
  mF (sn_aload_n (pc := 164) (j := 0) X (by decide +kernel) rfl) <|
  mF (sn_iload_n (pc := 165) (j := 1) X (by decide +kernel) rfl) <|
  mF (sn_callV (pc := 166) X mc_X11_note (me_X11_note l B) yi_X11_note wd_1197 wd_1199 wd_38 (T := TX11) (N := 22) rfl (by decide) (by decide +kernel)) <|
  mF (sn_iconst (pc := 169) (n := 1) X (by decide +kernel) (by decide)) <|
  mF (sn_istore (pc := 170) X (by decide +kernel) (by decide)) <|
  mF (sn_iload (pc := 172) X (by decide +kernel)) <|
  mF (sn_istore_n (pc := 174) (j := 3) X (by decide +kernel) rfl (by decide)) <|
  mF (sn_iload (pc := 175) X (by decide +kernel)) <|
  mF (sn_istore (pc := 177) X (by decide +kernel) (by decide)) <|
  mF (sn_iinc (pc := 179) (n := 1) X (by decide +kernel) (by decide) (by decide)) <|
  mF (sn_goto (pc := 182) (off := (-56)) X (by decide +kernel) (by decide)) <|
  mF (sn_iinc (pc := 185) (n := 1) X (by decide +kernel) (by decide) (by decide)) <|
  mF (sn_goto (pc := 188) (off := (-121)) X (by decide +kernel) (by decide)) <|
  mF (sn_aload_n (pc := 191) (j := 0) X (by decide +kernel) rfl) <|
  mF (sn_iload_n (pc := 192) (j := 1) X (by decide +kernel) rfl) <|
  mF (sn_bipush (pc := 193) (n := 19) X (by decide +kernel) (by decide)) <|
  mF (sn_iload_n (pc := 195) (j := 3) X (by decide +kernel) rfl) <|
  mF (sn_callV (pc := 196) X mc_X11_put (me_X11_put l B) yi_X11_put wd_1013 wd_1015 wd_16 (T := TX11) (N := 22) rfl (by decide) (by decide +kernel)) <|
  mF (sn_aload_n (pc := 199) (j := 0) X (by decide +kernel) rfl) <|
  mF (sn_iload_n (pc := 200) (j := 1) X (by decide +kernel) rfl) <|
  mF (sn_bipush (pc := 201) (n := 20) X (by decide +kernel) (by decide)) <|
  mF (sn_iload (pc := 203) X (by decide +kernel)) <|
  mF (sn_callV (pc := 205) X mc_X11_put (me_X11_put l B) yi_X11_put wd_1013 wd_1015 wd_16 (T := TX11) (N := 22) rfl (by decide) (by decide +kernel)) <|
  mF (sn_iload_n (pc := 208) (j := 3) X (by decide +kernel) rfl) <|
  mF (sn_aload_n (pc := 209) (j := 0) X (by decide +kernel) rfl) <|
  mF (sn_getR (pc := 210) X fd_X11_35 (by decide +kernel)) <|
  mF (sn_iconst (pc := 213) (n := 0) X (by decide +kernel) (by decide)) <|
  mF (sn_iaload (pc := 214) X (by decide +kernel)) <|
  mF (sn_icmp_eq (pc := 215) (off := 7) X (by decide +kernel) (by decide)) <|
  mF (sn_iconst (pc := 218) (n := 1) X (by decide +kernel) (by decide)) <|
  mF (sn_goto (pc := 219) (off := 4) X (by decide +kernel) (by decide)) <|
  mF (sn_iconst (pc := 222) (n := 0) X (by decide +kernel) (by decide)) <|
  mF (sn_iload (pc := 223) X (by decide +kernel)) <|
  mF (sn_aload_n (pc := 225) (j := 0) X (by decide +kernel) rfl) <|
  mF (sn_getR (pc := 226) X fd_X11_35 (by decide +kernel)) <|
  mF (sn_iconst (pc := 229) (n := 1) X (by decide +kernel) (by decide)) <|
  mF (sn_iaload (pc := 230) X (by decide +kernel)) <|
  mF (sn_icmp_eq (pc := 231) (off := 7) X (by decide +kernel) (by decide)) <|
  mF (sn_iconst (pc := 234) (n := 1) X (by decide +kernel) (by decide)) <|
  mF (sn_goto (pc := 235) (off := 4) X (by decide +kernel) (by decide)) <|
  mF (sn_iconst (pc := 238) (n := 0) X (by decide +kernel) (by decide)) <|
  mF (sn_iadd (pc := 239) X (by decide +kernel)) <|
  mF (sn_i2l (pc := 240) X (by decide +kernel)) <|
  mF (sn_lret (pc := 241) X hr hk (by decide +kernel)) <|
  mF0
theorem sd_X11_lowest (l : Launch) (B : mBs) (p : Program) (e : Env) (s : State) (m : MethodId) (args : Array Value) (below : List Frame) (meth : Method) (c : Code) (Q : mQo) (X : mCx l B RX11 cX11_lowest 10 p s m args c) (hr : meth.sig.returnType = (some .long)) (hk : meth.locks = false) (hn : meth.name = "lowest") : ∀ q ∈ tb_X11_lowest, mSnd l B 10 p e (mRm 6 0 0) s m args below meth c (MQ below (mPo B Q) args s 0 0 (mA B)) (fun r h' => (h'.1.2.1 ≤ 0 ∧ h'.1.2.2 ≤ 0) ∧ Q r h') q.2 q.1 := mFA (sd_X11_lowest_c0 l B p e s m args below meth c Q X hr hk hn) (sd_X11_lowest_c1 l B p e s m args below meth c Q X hr hk hn)
theorem me_X11_lowest (l : Launch) (B : mBs) : mMet l B yX11_lowest cX11_lowest 10 (some .long) 6 0 0 C_X11_lowest := mMet_of (own := RX11) (by decide) rfl (fun p e s m args below meth c Q X hr hk hn => sd_X11_lowest l B p e s m args below meth c Q X hr hk hn)
/-! PuppetStageModel.tick(IIII)J: 72 instructions, depth 2, makes 0 cells of 0 slots -/
def tb_X11_tick_c0 : mTb := [(0, aLI 1 1), (1, aCS 1 C_X11_isPuppet 4), (4, aIf (fun x => x = 0) 27 7), (7, aLI 2 8), (8, aLI 3 9), (9, aCS 2 C_X11_isPlace 12), (12, aIf (fun x => x = 0) 27 15), (15, aLI 4 17), (17, aPI (-32) 19), (19, aPI 31 21), (21, aCS 3 C_X11_isIn 24), (24, aIf (fun x => x = 0) 27 31), (27, aPL (-9000000000000000001) 30), (30, aRL), (31, aLA 0 32), (32, aLI 1 33), (33, aPI 129 36), (36, aCV 11 2 C_X11_get 39), (39, aSI 5 41), (41, aLI 5 43), (43, aPI 12 45), (45, aIc (fun x y => x = y) 48 52), (48, aPL (-9000000000000000003) 51), (51, aRL), (52, aLA 0 53), (53, aLI 1 54), (54, aPI 130 57), (57, aPI 3 58), (58, aLI 5 60), (60, aB (fun x y => x * y) 61), (61, aB (fun x y => x + y) 62), (62, aLI 2 63), (63, aCV 11 3 C_X11_put 66), (66, aLA 0 67), (67, aLI 1 68), (68, aPI 130 71), (71, aPI 3 72), (72, aLI 5 74), (74, aB (fun x y => x * y) 75), (75, aB (fun x y => x + y) 76), (76, aPI 1 77), (77, aB (fun x y => x + y) 78), (78, aLI 3 79), (79, aCV 11 3 C_X11_put 82), (82, aLA 0 83), (83, aLI 1 84), (84, aPI 130 87), (87, aPI 3 88), (88, aLI 5 90), (90, aB (fun x y => x * y) 91), (91, aB (fun x y => x + y) 92), (92, aPI 2 93), (93, aB (fun x y => x + y) 94), (94, aLI 4 96), (96, aCV 11 3 C_X11_put 99), (99, aLA 0 100), (100, aLI 1 101), (101, aPI 129 104), (104, aLI 5 106), (106, aPI 1 107), (107, aB (fun x y => x + y) 108), (108, aCV 11 3 C_X11_put 111), (111, aLA 0 112), (112, aLI 1 113), (113, aPI 166 116), (116, aPI 0 117), (117, aCV 11 3 C_X11_put 120), (120, aLI 5 122), (122, aPI 1 123), (123, aB (fun x y => x + y) 124)]
theorem mt_X11_tick_c0 : mMT tb_X11_tick_c0 :=
  mF (mn_LI _ _) <|
  mF (mn_CS _ mc_X11_isPuppet _) <|
  mF (mn_If _ _ _) <|
  mF (mn_LI _ _) <|
  mF (mn_LI _ _) <|
  mF (mn_CS _ mc_X11_isPlace _) <|
  mF (mn_If _ _ _) <|
  mF (mn_LI _ _) <|
  mF (mn_PI _ _) <|
  mF (mn_PI _ _) <|
  mF (mn_CS _ mc_X11_isIn _) <|
  mF (mn_If _ _ _) <|
  mF (mn_PL _ _) <|
  mF (mn_RL) <|
  mF (mn_LA _ _) <|
  mF (mn_LI _ _) <|
  mF (mn_PI _ _) <|
  mF (mn_CV _ _ mc_X11_get _) <|
  mF (mn_SI _ _) <|
  mF (mn_LI _ _) <|
  mF (mn_PI _ _) <|
  mF (mn_Ic _ _ _) <|
  mF (mn_PL _ _) <|
  mF (mn_RL) <|
  mF (mn_LA _ _) <|
  mF (mn_LI _ _) <|
  mF (mn_PI _ _) <|
  mF (mn_PI _ _) <|
  mF (mn_LI _ _) <|
  mF (mn_B _ _) <|
  mF (mn_B _ _) <|
  mF (mn_LI _ _) <|
  mF (mn_CV _ _ mc_X11_put _) <|
  mF (mn_LA _ _) <|
  mF (mn_LI _ _) <|
  mF (mn_PI _ _) <|
  mF (mn_PI _ _) <|
  mF (mn_LI _ _) <|
  mF (mn_B _ _) <|
  mF (mn_B _ _) <|
  mF (mn_PI _ _) <|
  mF (mn_B _ _) <|
  mF (mn_LI _ _) <|
  mF (mn_CV _ _ mc_X11_put _) <|
  mF (mn_LA _ _) <|
  mF (mn_LI _ _) <|
  mF (mn_PI _ _) <|
  mF (mn_PI _ _) <|
  mF (mn_LI _ _) <|
  mF (mn_B _ _) <|
  mF (mn_B _ _) <|
  mF (mn_PI _ _) <|
  mF (mn_B _ _) <|
  mF (mn_LI _ _) <|
  mF (mn_CV _ _ mc_X11_put _) <|
  mF (mn_LA _ _) <|
  mF (mn_LI _ _) <|
  mF (mn_PI _ _) <|
  mF (mn_LI _ _) <|
  mF (mn_PI _ _) <|
  mF (mn_B _ _) <|
  mF (mn_CV _ _ mc_X11_put _) <|
  mF (mn_LA _ _) <|
  mF (mn_LI _ _) <|
  mF (mn_PI _ _) <|
  mF (mn_PI _ _) <|
  mF (mn_CV _ _ mc_X11_put _) <|
  mF (mn_LI _ _) <|
  mF (mn_PI _ _) <|
  mF (mn_B _ _) <|
  mF0
def tb_X11_tick_c1 : mTb := [(124, aI2L 125), (125, aRL)]
theorem mt_X11_tick_c1 : mMT tb_X11_tick_c1 :=
  mF (mn_I2L _) <|
  mF (mn_RL) <|
  mF0
def tb_X11_tick : mTb := tb_X11_tick_c0 ++ (tb_X11_tick_c1)
theorem mt_X11_tick : mMT tb_X11_tick := mFA mt_X11_tick_c0 mt_X11_tick_c1
def C_X11_tick : mCo := mRun tb_X11_tick 6
theorem mc_X11_tick : mMC C_X11_tick := mRun_mn mt_X11_tick 6
theorem yi_X11_tick : mYin yX11_tick cX11_tick 6 (some .long) 4 := ⟨wd_60, wd_1228, by decide +kernel, by decide⟩
set_option maxRecDepth 100000 in
set_option maxHeartbeats 4000000 in
theorem sd_X11_tick_c0 (l : Launch) (B : mBs) (p : Program) (e : Env) (s : State) (m : MethodId) (args : Array Value) (below : List Frame) (meth : Method) (c : Code) (Q : mQo) (X : mCx l B RX11 cX11_tick 6 p s m args c) (hr : meth.sig.returnType = (some .long)) (hk : meth.locks = false) (hn : meth.name = "tick") : ∀ q ∈ tb_X11_tick_c0, mSnd l B 6 p e (mRm 2 0 0) s m args below meth c (MQ below (mPo B Q) args s 0 0 (mA B)) (fun r h' => (h'.1.2.1 ≤ 0 ∧ h'.1.2.2 ≤ 0) ∧ Q r h') q.2 q.1 :=
  mF (sn_iload_n (pc := 0) (j := 1) X (by decide +kernel) rfl) <|
  mF (sn_callS (pc := 1) X mc_X11_isPuppet (me_X11_isPuppet l B) yi_X11_isPuppet wd_989 wd_990 (by decide) (by decide +kernel)) <|
  mF (sn_if_eq (pc := 4) (off := 23) X (by decide +kernel) (by decide)) <|
  mF (sn_iload_n (pc := 7) (j := 2) X (by decide +kernel) rfl) <|
  mF (sn_iload_n (pc := 8) (j := 3) X (by decide +kernel) rfl) <|
  mF (sn_callS (pc := 9) X mc_X11_isPlace (me_X11_isPlace l B) yi_X11_isPlace wd_1033 wd_1034 (by decide) (by decide +kernel)) <|
  mF (sn_if_eq (pc := 12) (off := 15) X (by decide +kernel) (by decide)) <|
  mF (sn_iload (pc := 15) X (by decide +kernel)) <|
  mF (sn_bipush (pc := 17) (n := (-32)) X (by decide +kernel) (by decide)) <|
  mF (sn_bipush (pc := 19) (n := 31) X (by decide +kernel) (by decide)) <|
  mF (sn_callS (pc := 21) X mc_X11_isIn (me_X11_isIn l B) yi_X11_isIn wd_992 wd_993 (by decide) (by decide +kernel)) <|
  mF (sn_if_ne (pc := 24) (off := 7) X (by decide +kernel) (by decide)) <|
  mF (sn_ldc2 (pc := 27) X (by decide +kernel) wd_999) <|
  mF (sn_lret (pc := 30) X hr hk (by decide +kernel)) <|
  mF (sn_aload_n (pc := 31) (j := 0) X (by decide +kernel) rfl) <|
  mF (sn_iload_n (pc := 32) (j := 1) X (by decide +kernel) rfl) <|
  mF (sn_sipush (pc := 33) (n := 129) X (by decide +kernel) (by decide)) <|
  mF (sn_callV (pc := 36) X mc_X11_get (me_X11_get l B) yi_X11_get wd_995 wd_997 wd_12 (T := TX11) (N := 22) rfl (by decide) (by decide +kernel)) <|
  mF (sn_istore (pc := 39) X (by decide +kernel) (by decide)) <|
  mF (sn_iload (pc := 41) X (by decide +kernel)) <|
  mF (sn_bipush (pc := 43) (n := 12) X (by decide +kernel) (by decide)) <|
  mF (sn_icmp_ne (pc := 45) (off := 7) X (by decide +kernel) (by decide)) <|
  mF (sn_ldc2 (pc := 48) X (by decide +kernel) wd_1008) <|
  mF (sn_lret (pc := 51) X hr hk (by decide +kernel)) <|
  mF (sn_aload_n (pc := 52) (j := 0) X (by decide +kernel) rfl) <|
  mF (sn_iload_n (pc := 53) (j := 1) X (by decide +kernel) rfl) <|
  mF (sn_sipush (pc := 54) (n := 130) X (by decide +kernel) (by decide)) <|
  mF (sn_iconst (pc := 57) (n := 3) X (by decide +kernel) (by decide)) <|
  mF (sn_iload (pc := 58) X (by decide +kernel)) <|
  mF (sn_imul (pc := 60) X (by decide +kernel)) <|
  mF (sn_iadd (pc := 61) X (by decide +kernel)) <|
  mF (sn_iload_n (pc := 62) (j := 2) X (by decide +kernel) rfl) <|
  mF (sn_callV (pc := 63) X mc_X11_put (me_X11_put l B) yi_X11_put wd_1013 wd_1015 wd_16 (T := TX11) (N := 22) rfl (by decide) (by decide +kernel)) <|
  mF (sn_aload_n (pc := 66) (j := 0) X (by decide +kernel) rfl) <|
  mF (sn_iload_n (pc := 67) (j := 1) X (by decide +kernel) rfl) <|
  mF (sn_sipush (pc := 68) (n := 130) X (by decide +kernel) (by decide)) <|
  mF (sn_iconst (pc := 71) (n := 3) X (by decide +kernel) (by decide)) <|
  mF (sn_iload (pc := 72) X (by decide +kernel)) <|
  mF (sn_imul (pc := 74) X (by decide +kernel)) <|
  mF (sn_iadd (pc := 75) X (by decide +kernel)) <|
  mF (sn_iconst (pc := 76) (n := 1) X (by decide +kernel) (by decide)) <|
  mF (sn_iadd (pc := 77) X (by decide +kernel)) <|
  mF (sn_iload_n (pc := 78) (j := 3) X (by decide +kernel) rfl) <|
  mF (sn_callV (pc := 79) X mc_X11_put (me_X11_put l B) yi_X11_put wd_1013 wd_1015 wd_16 (T := TX11) (N := 22) rfl (by decide) (by decide +kernel)) <|
  mF (sn_aload_n (pc := 82) (j := 0) X (by decide +kernel) rfl) <|
  mF (sn_iload_n (pc := 83) (j := 1) X (by decide +kernel) rfl) <|
  mF (sn_sipush (pc := 84) (n := 130) X (by decide +kernel) (by decide)) <|
  mF (sn_iconst (pc := 87) (n := 3) X (by decide +kernel) (by decide)) <|
  mF (sn_iload (pc := 88) X (by decide +kernel)) <|
  mF (sn_imul (pc := 90) X (by decide +kernel)) <|
  mF (sn_iadd (pc := 91) X (by decide +kernel)) <|
  mF (sn_iconst (pc := 92) (n := 2) X (by decide +kernel) (by decide)) <|
  mF (sn_iadd (pc := 93) X (by decide +kernel)) <|
  mF (sn_iload (pc := 94) X (by decide +kernel)) <|
  mF (sn_callV (pc := 96) X mc_X11_put (me_X11_put l B) yi_X11_put wd_1013 wd_1015 wd_16 (T := TX11) (N := 22) rfl (by decide) (by decide +kernel)) <|
  mF (sn_aload_n (pc := 99) (j := 0) X (by decide +kernel) rfl) <|
  mF (sn_iload_n (pc := 100) (j := 1) X (by decide +kernel) rfl) <|
  mF (sn_sipush (pc := 101) (n := 129) X (by decide +kernel) (by decide)) <|
  mF (sn_iload (pc := 104) X (by decide +kernel)) <|
  mF (sn_iconst (pc := 106) (n := 1) X (by decide +kernel) (by decide)) <|
  mF (sn_iadd (pc := 107) X (by decide +kernel)) <|
  mF (sn_callV (pc := 108) X mc_X11_put (me_X11_put l B) yi_X11_put wd_1013 wd_1015 wd_16 (T := TX11) (N := 22) rfl (by decide) (by decide +kernel)) <|
  mF (sn_aload_n (pc := 111) (j := 0) X (by decide +kernel) rfl) <|
  mF (sn_iload_n (pc := 112) (j := 1) X (by decide +kernel) rfl) <|
  mF (sn_sipush (pc := 113) (n := 166) X (by decide +kernel) (by decide)) <|
  mF (sn_iconst (pc := 116) (n := 0) X (by decide +kernel) (by decide)) <|
  mF (sn_callV (pc := 117) X mc_X11_put (me_X11_put l B) yi_X11_put wd_1013 wd_1015 wd_16 (T := TX11) (N := 22) rfl (by decide) (by decide +kernel)) <|
  mF (sn_iload (pc := 120) X (by decide +kernel)) <|
  mF (sn_iconst (pc := 122) (n := 1) X (by decide +kernel) (by decide)) <|
  mF (sn_iadd (pc := 123) X (by decide +kernel)) <|
  mF0
set_option maxRecDepth 100000 in
set_option maxHeartbeats 4000000 in
theorem sd_X11_tick_c1 (l : Launch) (B : mBs) (p : Program) (e : Env) (s : State) (m : MethodId) (args : Array Value) (below : List Frame) (meth : Method) (c : Code) (Q : mQo) (X : mCx l B RX11 cX11_tick 6 p s m args c) (hr : meth.sig.returnType = (some .long)) (hk : meth.locks = false) (hn : meth.name = "tick") : ∀ q ∈ tb_X11_tick_c1, mSnd l B 6 p e (mRm 2 0 0) s m args below meth c (MQ below (mPo B Q) args s 0 0 (mA B)) (fun r h' => (h'.1.2.1 ≤ 0 ∧ h'.1.2.2 ≤ 0) ∧ Q r h') q.2 q.1 :=
  mF (sn_i2l (pc := 124) X (by decide +kernel)) <|
  mF (sn_lret (pc := 125) X hr hk (by decide +kernel)) <|
  mF0
theorem sd_X11_tick (l : Launch) (B : mBs) (p : Program) (e : Env) (s : State) (m : MethodId) (args : Array Value) (below : List Frame) (meth : Method) (c : Code) (Q : mQo) (X : mCx l B RX11 cX11_tick 6 p s m args c) (hr : meth.sig.returnType = (some .long)) (hk : meth.locks = false) (hn : meth.name = "tick") : ∀ q ∈ tb_X11_tick, mSnd l B 6 p e (mRm 2 0 0) s m args below meth c (MQ below (mPo B Q) args s 0 0 (mA B)) (fun r h' => (h'.1.2.1 ≤ 0 ∧ h'.1.2.2 ≤ 0) ∧ Q r h') q.2 q.1 := mFA (sd_X11_tick_c0 l B p e s m args below meth c Q X hr hk hn) (sd_X11_tick_c1 l B p e s m args below meth c Q X hr hk hn)
theorem me_X11_tick (l : Launch) (B : mBs) : mMet l B yX11_tick cX11_tick 6 (some .long) 2 0 0 C_X11_tick := mMet_of (own := RX11) (by decide) rfl (fun p e s m args below meth c Q X hr hk hn => sd_X11_tick l B p e s m args below meth c Q X hr hk hn)
/-! PuppetStageModel.calm(I)J: 23 instructions, depth 2, makes 0 cells of 0 slots -/
def tb_X11_calm : mTb := [(0, aLI 1 1), (1, aCS 1 C_X11_isPuppet 4), (4, aIf (fun x => x = 0) 7 11), (7, aPL (-9000000000000000001) 10), (10, aRL), (11, aLA 0 12), (12, aLI 1 13), (13, aPI 129 16), (16, aCV 11 2 C_X11_get 19), (19, aI2L 20), (20, aSL 2 21), (21, aLA 0 22), (22, aLI 1 23), (23, aPI 129 26), (26, aPI 0 27), (27, aCV 11 3 C_X11_put 30), (30, aLA 0 31), (31, aLI 1 32), (32, aPI 166 35), (35, aPI 0 36), (36, aCV 11 3 C_X11_put 39), (39, aLL 2 40), (40, aRL)]
theorem mt_X11_calm : mMT tb_X11_calm :=
  mF (mn_LI _ _) <|
  mF (mn_CS _ mc_X11_isPuppet _) <|
  mF (mn_If _ _ _) <|
  mF (mn_PL _ _) <|
  mF (mn_RL) <|
  mF (mn_LA _ _) <|
  mF (mn_LI _ _) <|
  mF (mn_PI _ _) <|
  mF (mn_CV _ _ mc_X11_get _) <|
  mF (mn_I2L _) <|
  mF (mn_SL _ _) <|
  mF (mn_LA _ _) <|
  mF (mn_LI _ _) <|
  mF (mn_PI _ _) <|
  mF (mn_PI _ _) <|
  mF (mn_CV _ _ mc_X11_put _) <|
  mF (mn_LA _ _) <|
  mF (mn_LI _ _) <|
  mF (mn_PI _ _) <|
  mF (mn_PI _ _) <|
  mF (mn_CV _ _ mc_X11_put _) <|
  mF (mn_LL _ _) <|
  mF (mn_RL) <|
  mF0
def C_X11_calm : mCo := mRun tb_X11_calm 4
theorem mc_X11_calm : mMC C_X11_calm := mRun_mn mt_X11_calm 4
theorem yi_X11_calm : mYin yX11_calm cX11_calm 4 (some .long) 1 := ⟨wd_60, wd_1232, by decide +kernel, by decide⟩
set_option maxRecDepth 100000 in
set_option maxHeartbeats 4000000 in
theorem sd_X11_calm (l : Launch) (B : mBs) (p : Program) (e : Env) (s : State) (m : MethodId) (args : Array Value) (below : List Frame) (meth : Method) (c : Code) (Q : mQo) (X : mCx l B RX11 cX11_calm 4 p s m args c) (hr : meth.sig.returnType = (some .long)) (hk : meth.locks = false) (hn : meth.name = "calm") : ∀ q ∈ tb_X11_calm, mSnd l B 4 p e (mRm 2 0 0) s m args below meth c (MQ below (mPo B Q) args s 0 0 (mA B)) (fun r h' => (h'.1.2.1 ≤ 0 ∧ h'.1.2.2 ≤ 0) ∧ Q r h') q.2 q.1 :=
  mF (sn_iload_n (pc := 0) (j := 1) X (by decide +kernel) rfl) <|
  mF (sn_callS (pc := 1) X mc_X11_isPuppet (me_X11_isPuppet l B) yi_X11_isPuppet wd_989 wd_990 (by decide) (by decide +kernel)) <|
  mF (sn_if_ne (pc := 4) (off := 7) X (by decide +kernel) (by decide)) <|
  mF (sn_ldc2 (pc := 7) X (by decide +kernel) wd_999) <|
  mF (sn_lret (pc := 10) X hr hk (by decide +kernel)) <|
  mF (sn_aload_n (pc := 11) (j := 0) X (by decide +kernel) rfl) <|
  mF (sn_iload_n (pc := 12) (j := 1) X (by decide +kernel) rfl) <|
  mF (sn_sipush (pc := 13) (n := 129) X (by decide +kernel) (by decide)) <|
  mF (sn_callV (pc := 16) X mc_X11_get (me_X11_get l B) yi_X11_get wd_995 wd_997 wd_12 (T := TX11) (N := 22) rfl (by decide) (by decide +kernel)) <|
  mF (sn_i2l (pc := 19) X (by decide +kernel)) <|
  mF (sn_lstore_n (pc := 20) (j := 2) X (by decide +kernel) rfl (by decide)) <|
  mF (sn_aload_n (pc := 21) (j := 0) X (by decide +kernel) rfl) <|
  mF (sn_iload_n (pc := 22) (j := 1) X (by decide +kernel) rfl) <|
  mF (sn_sipush (pc := 23) (n := 129) X (by decide +kernel) (by decide)) <|
  mF (sn_iconst (pc := 26) (n := 0) X (by decide +kernel) (by decide)) <|
  mF (sn_callV (pc := 27) X mc_X11_put (me_X11_put l B) yi_X11_put wd_1013 wd_1015 wd_16 (T := TX11) (N := 22) rfl (by decide) (by decide +kernel)) <|
  mF (sn_aload_n (pc := 30) (j := 0) X (by decide +kernel) rfl) <|
  mF (sn_iload_n (pc := 31) (j := 1) X (by decide +kernel) rfl) <|
  mF (sn_sipush (pc := 32) (n := 166) X (by decide +kernel) (by decide)) <|
  mF (sn_iconst (pc := 35) (n := 0) X (by decide +kernel) (by decide)) <|
  mF (sn_callV (pc := 36) X mc_X11_put (me_X11_put l B) yi_X11_put wd_1013 wd_1015 wd_16 (T := TX11) (N := 22) rfl (by decide) (by decide +kernel)) <|
  mF (sn_lload_n (pc := 39) (j := 2) X (by decide +kernel) rfl) <|
  mF (sn_lret (pc := 40) X hr hk (by decide +kernel)) <|
  mF0
theorem me_X11_calm (l : Launch) (B : mBs) : mMet l B yX11_calm cX11_calm 4 (some .long) 2 0 0 C_X11_calm := mMet_of (own := RX11) (by decide) rfl (fun p e s m args below meth c Q X hr hk hn => sd_X11_calm l B p e s m args below meth c Q X hr hk hn)
/-! PuppetStageModel.play(II)J: 108 instructions, depth 9, makes 0 cells of 0 slots -/
def tb_X11_play_c0 : mTb := [(0, aLI 1 1), (1, aCS 1 C_X11_isPuppet 4), (4, aIf (fun x => x = 0) 17 7), (7, aLI 2 8), (8, aPI 1 9), (9, aPI 100 11), (11, aCS 3 C_X11_isIn 14), (14, aIf (fun x => x = 0) 17 21), (17, aPL (-9000000000000000001) 20), (20, aRL), (21, aLA 0 22), (22, aLI 1 23), (23, aPI 129 26), (26, aCV 11 2 C_X11_get 29), (29, aIf (fun x => x = 0) 41 32), (32, aLA 0 33), (33, aLI 1 34), (34, aPI 0 35), (35, aCV 11 2 C_X11_get 38), (38, aIf (fun x => x = 0) 41 45), (41, aPL (-9000000000000000002) 44), (44, aRL), (45, aLA 0 46), (46, aCV 11 0 C_X11_keep 49), (49, aPI 0 50), (50, aSI 3 51), (51, aPI 0 52), (52, aSI 4 54), (54, aLI 4 56), (56, aLA 0 57), (57, aLI 1 58), (58, aPI 129 61), (61, aCV 11 2 C_X11_get 64), (64, aIc (fun x y => y ≤ x) 173 67), (67, aLA 0 68), (68, aLI 1 69), (69, aLA 0 70), (70, aLI 1 71), (71, aPI 130 74), (74, aPI 3 75), (75, aLI 4 77), (77, aB (fun x y => x * y) 78), (78, aB (fun x y => x + y) 79), (79, aCV 11 2 C_X11_get 82), (82, aLA 0 83), (83, aLI 1 84), (84, aPI 130 87), (87, aPI 3 88), (88, aLI 4 90), (90, aB (fun x y => x * y) 91), (91, aB (fun x y => x + y) 92), (92, aPI 1 93), (93, aB (fun x y => x + y) 94), (94, aCV 11 2 C_X11_get 97), (97, aLA 0 98), (98, aLI 1 99), (99, aPI 130 102), (102, aPI 3 103), (103, aLI 4 105), (105, aB (fun x y => x * y) 106), (106, aB (fun x y => x + y) 107), (107, aPI 2 108), (108, aB (fun x y => x + y) 109), (109, aCV 11 2 C_X11_get 112), (112, aCV 11 4 C_X11_setCross 115), (115, aLI 3 116), (116, aLA 0 117), (117, aLI 1 118), (118, aLI 2 119), (119, aCV 11 2 C_X11_restOf 122)]
theorem mt_X11_play_c0 : mMT tb_X11_play_c0 :=
  mF (mn_LI _ _) <|
  mF (mn_CS _ mc_X11_isPuppet _) <|
  mF (mn_If _ _ _) <|
  mF (mn_LI _ _) <|
  mF (mn_PI _ _) <|
  mF (mn_PI _ _) <|
  mF (mn_CS _ mc_X11_isIn _) <|
  mF (mn_If _ _ _) <|
  mF (mn_PL _ _) <|
  mF (mn_RL) <|
  mF (mn_LA _ _) <|
  mF (mn_LI _ _) <|
  mF (mn_PI _ _) <|
  mF (mn_CV _ _ mc_X11_get _) <|
  mF (mn_If _ _ _) <|
  mF (mn_LA _ _) <|
  mF (mn_LI _ _) <|
  mF (mn_PI _ _) <|
  mF (mn_CV _ _ mc_X11_get _) <|
  mF (mn_If _ _ _) <|
  mF (mn_PL _ _) <|
  mF (mn_RL) <|
  mF (mn_LA _ _) <|
  mF (mn_CV _ _ mc_X11_keep _) <|
  mF (mn_PI _ _) <|
  mF (mn_SI _ _) <|
  mF (mn_PI _ _) <|
  mF (mn_SI _ _) <|
  mF (mn_LI _ _) <|
  mF (mn_LA _ _) <|
  mF (mn_LI _ _) <|
  mF (mn_PI _ _) <|
  mF (mn_CV _ _ mc_X11_get _) <|
  mF (mn_Ic _ _ _) <|
  mF (mn_LA _ _) <|
  mF (mn_LI _ _) <|
  mF (mn_LA _ _) <|
  mF (mn_LI _ _) <|
  mF (mn_PI _ _) <|
  mF (mn_PI _ _) <|
  mF (mn_LI _ _) <|
  mF (mn_B _ _) <|
  mF (mn_B _ _) <|
  mF (mn_CV _ _ mc_X11_get _) <|
  mF (mn_LA _ _) <|
  mF (mn_LI _ _) <|
  mF (mn_PI _ _) <|
  mF (mn_PI _ _) <|
  mF (mn_LI _ _) <|
  mF (mn_B _ _) <|
  mF (mn_B _ _) <|
  mF (mn_PI _ _) <|
  mF (mn_B _ _) <|
  mF (mn_CV _ _ mc_X11_get _) <|
  mF (mn_LA _ _) <|
  mF (mn_LI _ _) <|
  mF (mn_PI _ _) <|
  mF (mn_PI _ _) <|
  mF (mn_LI _ _) <|
  mF (mn_B _ _) <|
  mF (mn_B _ _) <|
  mF (mn_PI _ _) <|
  mF (mn_B _ _) <|
  mF (mn_CV _ _ mc_X11_get _) <|
  mF (mn_CV _ _ mc_X11_setCross _) <|
  mF (mn_LI _ _) <|
  mF (mn_LA _ _) <|
  mF (mn_LI _ _) <|
  mF (mn_LI _ _) <|
  mF (mn_CV _ _ mc_X11_restOf _) <|
  mF0
def tb_X11_play_c1 : mTb := [(122, aB (fun x y => x + y) 123), (123, aSI 3 124), (124, aPI 0 125), (125, aSI 5 127), (127, aLI 5 129), (129, aPI 6 131), (131, aIc (fun x y => y ≤ x) 167 134), (134, aLA 0 135), (135, aLI 1 136), (136, aPI 167 139), (139, aPI 6 141), (141, aLI 4 143), (143, aB (fun x y => x * y) 144), (144, aB (fun x y => x + y) 145), (145, aLI 5 147), (147, aB (fun x y => x + y) 148), (148, aLA 0 149), (149, aLI 1 150), (150, aPI 19 152), (152, aLI 5 154), (154, aB (fun x y => x + y) 155), (155, aCV 11 2 C_X11_get 158), (158, aCV 11 3 C_X11_put 161), (161, aInc 5 1 164), (164, aGo 127), (167, aInc 4 1 170), (170, aGo 54), (173, aLA 0 174), (174, aLI 1 175), (175, aPI 166 178), (178, aLA 0 179), (179, aLI 1 180), (180, aPI 129 183), (183, aCV 11 2 C_X11_get 186), (186, aCV 11 3 C_X11_put 189), (189, aLI 3 190), (190, aI2L 191), (191, aRL)]
theorem mt_X11_play_c1 : mMT tb_X11_play_c1 :=
  mF (mn_B _ _) <|
  mF (mn_SI _ _) <|
  mF (mn_PI _ _) <|
  mF (mn_SI _ _) <|
  mF (mn_LI _ _) <|
  mF (mn_PI _ _) <|
  mF (mn_Ic _ _ _) <|
  mF (mn_LA _ _) <|
  mF (mn_LI _ _) <|
  mF (mn_PI _ _) <|
  mF (mn_PI _ _) <|
  mF (mn_LI _ _) <|
  mF (mn_B _ _) <|
  mF (mn_B _ _) <|
  mF (mn_LI _ _) <|
  mF (mn_B _ _) <|
  mF (mn_LA _ _) <|
  mF (mn_LI _ _) <|
  mF (mn_PI _ _) <|
  mF (mn_LI _ _) <|
  mF (mn_B _ _) <|
  mF (mn_CV _ _ mc_X11_get _) <|
  mF (mn_CV _ _ mc_X11_put _) <|
  mF (mn_Inc _ _ _) <|
  mF (mn_Go _) <|
  mF (mn_Inc _ _ _) <|
  mF (mn_Go _) <|
  mF (mn_LA _ _) <|
  mF (mn_LI _ _) <|
  mF (mn_PI _ _) <|
  mF (mn_LA _ _) <|
  mF (mn_LI _ _) <|
  mF (mn_PI _ _) <|
  mF (mn_CV _ _ mc_X11_get _) <|
  mF (mn_CV _ _ mc_X11_put _) <|
  mF (mn_LI _ _) <|
  mF (mn_I2L _) <|
  mF (mn_RL) <|
  mF0
def tb_X11_play : mTb := tb_X11_play_c0 ++ (tb_X11_play_c1)
theorem mt_X11_play : mMT tb_X11_play := mFA mt_X11_play_c0 mt_X11_play_c1
def C_X11_play : mCo := mRun tb_X11_play 6
theorem mc_X11_play : mMC C_X11_play := mRun_mn mt_X11_play 6
theorem yi_X11_play : mYin yX11_play cX11_play 6 (some .long) 2 := ⟨wd_60, wd_1236, by decide +kernel, by decide⟩
set_option maxRecDepth 100000 in
set_option maxHeartbeats 4000000 in
theorem sd_X11_play_c0 (l : Launch) (B : mBs) (p : Program) (e : Env) (s : State) (m : MethodId) (args : Array Value) (below : List Frame) (meth : Method) (c : Code) (Q : mQo) (X : mCx l B RX11 cX11_play 6 p s m args c) (hr : meth.sig.returnType = (some .long)) (hk : meth.locks = false) (hn : meth.name = "play") : ∀ q ∈ tb_X11_play_c0, mSnd l B 6 p e (mRm 9 0 0) s m args below meth c (MQ below (mPo B Q) args s 0 0 (mA B)) (fun r h' => (h'.1.2.1 ≤ 0 ∧ h'.1.2.2 ≤ 0) ∧ Q r h') q.2 q.1 :=
  mF (sn_iload_n (pc := 0) (j := 1) X (by decide +kernel) rfl) <|
  mF (sn_callS (pc := 1) X mc_X11_isPuppet (me_X11_isPuppet l B) yi_X11_isPuppet wd_989 wd_990 (by decide) (by decide +kernel)) <|
  mF (sn_if_eq (pc := 4) (off := 13) X (by decide +kernel) (by decide)) <|
  mF (sn_iload_n (pc := 7) (j := 2) X (by decide +kernel) rfl) <|
  mF (sn_iconst (pc := 8) (n := 1) X (by decide +kernel) (by decide)) <|
  mF (sn_bipush (pc := 9) (n := 100) X (by decide +kernel) (by decide)) <|
  mF (sn_callS (pc := 11) X mc_X11_isIn (me_X11_isIn l B) yi_X11_isIn wd_992 wd_993 (by decide) (by decide +kernel)) <|
  mF (sn_if_ne (pc := 14) (off := 7) X (by decide +kernel) (by decide)) <|
  mF (sn_ldc2 (pc := 17) X (by decide +kernel) wd_999) <|
  mF (sn_lret (pc := 20) X hr hk (by decide +kernel)) <|
  mF (sn_aload_n (pc := 21) (j := 0) X (by decide +kernel) rfl) <|
  mF (sn_iload_n (pc := 22) (j := 1) X (by decide +kernel) rfl) <|
  mF (sn_sipush (pc := 23) (n := 129) X (by decide +kernel) (by decide)) <|
  mF (sn_callV (pc := 26) X mc_X11_get (me_X11_get l B) yi_X11_get wd_995 wd_997 wd_12 (T := TX11) (N := 22) rfl (by decide) (by decide +kernel)) <|
  mF (sn_if_eq (pc := 29) (off := 12) X (by decide +kernel) (by decide)) <|
  mF (sn_aload_n (pc := 32) (j := 0) X (by decide +kernel) rfl) <|
  mF (sn_iload_n (pc := 33) (j := 1) X (by decide +kernel) rfl) <|
  mF (sn_iconst (pc := 34) (n := 0) X (by decide +kernel) (by decide)) <|
  mF (sn_callV (pc := 35) X mc_X11_get (me_X11_get l B) yi_X11_get wd_995 wd_997 wd_12 (T := TX11) (N := 22) rfl (by decide) (by decide +kernel)) <|
  mF (sn_if_ne (pc := 38) (off := 7) X (by decide +kernel) (by decide)) <|
  mF (sn_ldc2 (pc := 41) X (by decide +kernel) wd_984) <|
  mF (sn_lret (pc := 44) X hr hk (by decide +kernel)) <|
  mF (sn_aload_n (pc := 45) (j := 0) X (by decide +kernel) rfl) <|
  mF (sn_callV (pc := 46) X mc_X11_keep (me_X11_keep l B) yi_X11_keep wd_1009 wd_1011 wd_15 (T := TX11) (N := 22) rfl (by decide) (by decide +kernel)) <|
  mF (sn_iconst (pc := 49) (n := 0) X (by decide +kernel) (by decide)) <|
  mF (sn_istore_n (pc := 50) (j := 3) X (by decide +kernel) rfl (by decide)) <|
  mF (sn_iconst (pc := 51) (n := 0) X (by decide +kernel) (by decide)) <|
  mF (sn_istore (pc := 52) X (by decide +kernel) (by decide)) <|
  mF (sn_iload (pc := 54) X (by decide +kernel)) <|
  mF (sn_aload_n (pc := 56) (j := 0) X (by decide +kernel) rfl) <|
  mF (sn_iload_n (pc := 57) (j := 1) X (by decide +kernel) rfl) <|
  mF (sn_sipush (pc := 58) (n := 129) X (by decide +kernel) (by decide)) <|
  mF (sn_callV (pc := 61) X mc_X11_get (me_X11_get l B) yi_X11_get wd_995 wd_997 wd_12 (T := TX11) (N := 22) rfl (by decide) (by decide +kernel)) <|
  mF (sn_icmp_ge (pc := 64) (off := 109) X (by decide +kernel) (by decide)) <|
  mF (sn_aload_n (pc := 67) (j := 0) X (by decide +kernel) rfl) <|
  mF (sn_iload_n (pc := 68) (j := 1) X (by decide +kernel) rfl) <|
  mF (sn_aload_n (pc := 69) (j := 0) X (by decide +kernel) rfl) <|
  mF (sn_iload_n (pc := 70) (j := 1) X (by decide +kernel) rfl) <|
  mF (sn_sipush (pc := 71) (n := 130) X (by decide +kernel) (by decide)) <|
  mF (sn_iconst (pc := 74) (n := 3) X (by decide +kernel) (by decide)) <|
  mF (sn_iload (pc := 75) X (by decide +kernel)) <|
  mF (sn_imul (pc := 77) X (by decide +kernel)) <|
  mF (sn_iadd (pc := 78) X (by decide +kernel)) <|
  mF (sn_callV (pc := 79) X mc_X11_get (me_X11_get l B) yi_X11_get wd_995 wd_997 wd_12 (T := TX11) (N := 22) rfl (by decide) (by decide +kernel)) <|
  mF (sn_aload_n (pc := 82) (j := 0) X (by decide +kernel) rfl) <|
  mF (sn_iload_n (pc := 83) (j := 1) X (by decide +kernel) rfl) <|
  mF (sn_sipush (pc := 84) (n := 130) X (by decide +kernel) (by decide)) <|
  mF (sn_iconst (pc := 87) (n := 3) X (by decide +kernel) (by decide)) <|
  mF (sn_iload (pc := 88) X (by decide +kernel)) <|
  mF (sn_imul (pc := 90) X (by decide +kernel)) <|
  mF (sn_iadd (pc := 91) X (by decide +kernel)) <|
  mF (sn_iconst (pc := 92) (n := 1) X (by decide +kernel) (by decide)) <|
  mF (sn_iadd (pc := 93) X (by decide +kernel)) <|
  mF (sn_callV (pc := 94) X mc_X11_get (me_X11_get l B) yi_X11_get wd_995 wd_997 wd_12 (T := TX11) (N := 22) rfl (by decide) (by decide +kernel)) <|
  mF (sn_aload_n (pc := 97) (j := 0) X (by decide +kernel) rfl) <|
  mF (sn_iload_n (pc := 98) (j := 1) X (by decide +kernel) rfl) <|
  mF (sn_sipush (pc := 99) (n := 130) X (by decide +kernel) (by decide)) <|
  mF (sn_iconst (pc := 102) (n := 3) X (by decide +kernel) (by decide)) <|
  mF (sn_iload (pc := 103) X (by decide +kernel)) <|
  mF (sn_imul (pc := 105) X (by decide +kernel)) <|
  mF (sn_iadd (pc := 106) X (by decide +kernel)) <|
  mF (sn_iconst (pc := 107) (n := 2) X (by decide +kernel) (by decide)) <|
  mF (sn_iadd (pc := 108) X (by decide +kernel)) <|
  mF (sn_callV (pc := 109) X mc_X11_get (me_X11_get l B) yi_X11_get wd_995 wd_997 wd_12 (T := TX11) (N := 22) rfl (by decide) (by decide +kernel)) <|
  mF (sn_callV (pc := 112) X mc_X11_setCross (me_X11_setCross l B) yi_X11_setCross wd_1050 wd_1052 wd_19 (T := TX11) (N := 22) rfl (by decide) (by decide +kernel)) <|
  mF (sn_iload_n (pc := 115) (j := 3) X (by decide +kernel) rfl) <|
  mF (sn_aload_n (pc := 116) (j := 0) X (by decide +kernel) rfl) <|
  mF (sn_iload_n (pc := 117) (j := 1) X (by decide +kernel) rfl) <|
  mF (sn_iload_n (pc := 118) (j := 2) X (by decide +kernel) rfl) <|
  mF (sn_callV (pc := 119) X mc_X11_restOf (me_X11_restOf l B) yi_X11_restOf wd_1189 wd_1191 wd_36 (T := TX11) (N := 22) rfl (by decide) (by decide +kernel)) <|
  mF0
set_option maxRecDepth 100000 in
set_option maxHeartbeats 4000000 in
theorem sd_X11_play_c1 (l : Launch) (B : mBs) (p : Program) (e : Env) (s : State) (m : MethodId) (args : Array Value) (below : List Frame) (meth : Method) (c : Code) (Q : mQo) (X : mCx l B RX11 cX11_play 6 p s m args c) (hr : meth.sig.returnType = (some .long)) (hk : meth.locks = false) (hn : meth.name = "play") : ∀ q ∈ tb_X11_play_c1, mSnd l B 6 p e (mRm 9 0 0) s m args below meth c (MQ below (mPo B Q) args s 0 0 (mA B)) (fun r h' => (h'.1.2.1 ≤ 0 ∧ h'.1.2.2 ≤ 0) ∧ Q r h') q.2 q.1 :=
  mF (sn_iadd (pc := 122) X (by decide +kernel)) <|
  mF (sn_istore_n (pc := 123) (j := 3) X (by decide +kernel) rfl (by decide)) <|
  mF (sn_iconst (pc := 124) (n := 0) X (by decide +kernel) (by decide)) <|
  mF (sn_istore (pc := 125) X (by decide +kernel) (by decide)) <|
  mF (sn_iload (pc := 127) X (by decide +kernel)) <|
  mF (sn_bipush (pc := 129) (n := 6) X (by decide +kernel) (by decide)) <|
  mF (sn_icmp_ge (pc := 131) (off := 36) X (by decide +kernel) (by decide)) <|
  mF (sn_aload_n (pc := 134) (j := 0) X (by decide +kernel) rfl) <|
  mF (sn_iload_n (pc := 135) (j := 1) X (by decide +kernel) rfl) <|
  mF (sn_sipush (pc := 136) (n := 167) X (by decide +kernel) (by decide)) <|
  mF (sn_bipush (pc := 139) (n := 6) X (by decide +kernel) (by decide)) <|
  mF (sn_iload (pc := 141) X (by decide +kernel)) <|
  mF (sn_imul (pc := 143) X (by decide +kernel)) <|
  mF (sn_iadd (pc := 144) X (by decide +kernel)) <|
  mF (sn_iload (pc := 145) X (by decide +kernel)) <|
  mF (sn_iadd (pc := 147) X (by decide +kernel)) <|
  mF (sn_aload_n (pc := 148) (j := 0) X (by decide +kernel) rfl) <|
  mF (sn_iload_n (pc := 149) (j := 1) X (by decide +kernel) rfl) <|
  mF (sn_bipush (pc := 150) (n := 19) X (by decide +kernel) (by decide)) <|
  mF (sn_iload (pc := 152) X (by decide +kernel)) <|
  mF (sn_iadd (pc := 154) X (by decide +kernel)) <|
  mF (sn_callV (pc := 155) X mc_X11_get (me_X11_get l B) yi_X11_get wd_995 wd_997 wd_12 (T := TX11) (N := 22) rfl (by decide) (by decide +kernel)) <|
  mF (sn_callV (pc := 158) X mc_X11_put (me_X11_put l B) yi_X11_put wd_1013 wd_1015 wd_16 (T := TX11) (N := 22) rfl (by decide) (by decide +kernel)) <|
  mF (sn_iinc (pc := 161) (n := 1) X (by decide +kernel) (by decide) (by decide)) <|
  mF (sn_goto (pc := 164) (off := (-37)) X (by decide +kernel) (by decide)) <|
  mF (sn_iinc (pc := 167) (n := 1) X (by decide +kernel) (by decide) (by decide)) <|
  mF (sn_goto (pc := 170) (off := (-116)) X (by decide +kernel) (by decide)) <|
  mF (sn_aload_n (pc := 173) (j := 0) X (by decide +kernel) rfl) <|
  mF (sn_iload_n (pc := 174) (j := 1) X (by decide +kernel) rfl) <|
  mF (sn_sipush (pc := 175) (n := 166) X (by decide +kernel) (by decide)) <|
  mF (sn_aload_n (pc := 178) (j := 0) X (by decide +kernel) rfl) <|
  mF (sn_iload_n (pc := 179) (j := 1) X (by decide +kernel) rfl) <|
  mF (sn_sipush (pc := 180) (n := 129) X (by decide +kernel) (by decide)) <|
  mF (sn_callV (pc := 183) X mc_X11_get (me_X11_get l B) yi_X11_get wd_995 wd_997 wd_12 (T := TX11) (N := 22) rfl (by decide) (by decide +kernel)) <|
  mF (sn_callV (pc := 186) X mc_X11_put (me_X11_put l B) yi_X11_put wd_1013 wd_1015 wd_16 (T := TX11) (N := 22) rfl (by decide) (by decide +kernel)) <|
  mF (sn_iload_n (pc := 189) (j := 3) X (by decide +kernel) rfl) <|
  mF (sn_i2l (pc := 190) X (by decide +kernel)) <|
  mF (sn_lret (pc := 191) X hr hk (by decide +kernel)) <|
  mF0
theorem sd_X11_play (l : Launch) (B : mBs) (p : Program) (e : Env) (s : State) (m : MethodId) (args : Array Value) (below : List Frame) (meth : Method) (c : Code) (Q : mQo) (X : mCx l B RX11 cX11_play 6 p s m args c) (hr : meth.sig.returnType = (some .long)) (hk : meth.locks = false) (hn : meth.name = "play") : ∀ q ∈ tb_X11_play, mSnd l B 6 p e (mRm 9 0 0) s m args below meth c (MQ below (mPo B Q) args s 0 0 (mA B)) (fun r h' => (h'.1.2.1 ≤ 0 ∧ h'.1.2.2 ≤ 0) ∧ Q r h') q.2 q.1 := mFA (sd_X11_play_c0 l B p e s m args below meth c Q X hr hk hn) (sd_X11_play_c1 l B p e s m args below meth c Q X hr hk hn)
theorem me_X11_play (l : Launch) (B : mBs) : mMet l B yX11_play cX11_play 6 (some .long) 9 0 0 C_X11_play := mMet_of (own := RX11) (by decide) rfl (fun p e s m args below meth c Q X hr hk hn => sd_X11_play l B p e s m args below meth c Q X hr hk hn)
/-! PuppetStageModel.pose(III)J: 31 instructions, depth 3, makes 0 cells of 0 slots -/
def tb_X11_pose : mTb := [(0, aLA 0 1), (1, aLI 1 2), (2, aLI 3 3), (3, aCV 11 2 C_X11_isLimb 6), (6, aIf (fun x => x = 0) 9 13), (9, aPL (-9000000000000000001) 12), (12, aRL), (13, aLI 2 14), (14, aPI 0 15), (15, aLA 0 16), (16, aLI 1 17), (17, aPI 166 20), (20, aCV 11 2 C_X11_get 23), (23, aPI 1 24), (24, aB (fun x y => x - y) 25), (25, aCS 3 C_X11_isIn 28), (28, aIf (fun x => x = 0) 50 31), (31, aLA 0 32), (32, aLI 1 33), (33, aPI 167 36), (36, aPI 6 38), (38, aLI 2 39), (39, aB (fun x y => x * y) 40), (40, aB (fun x y => x + y) 41), (41, aLI 3 42), (42, aB (fun x y => x + y) 43), (43, aCV 11 2 C_X11_get 46), (46, aI2L 47), (47, aGo 53), (50, aPL (-9000000000000000005) 53), (53, aRL)]
theorem mt_X11_pose : mMT tb_X11_pose :=
  mF (mn_LA _ _) <|
  mF (mn_LI _ _) <|
  mF (mn_LI _ _) <|
  mF (mn_CV _ _ mc_X11_isLimb _) <|
  mF (mn_If _ _ _) <|
  mF (mn_PL _ _) <|
  mF (mn_RL) <|
  mF (mn_LI _ _) <|
  mF (mn_PI _ _) <|
  mF (mn_LA _ _) <|
  mF (mn_LI _ _) <|
  mF (mn_PI _ _) <|
  mF (mn_CV _ _ mc_X11_get _) <|
  mF (mn_PI _ _) <|
  mF (mn_B _ _) <|
  mF (mn_CS _ mc_X11_isIn _) <|
  mF (mn_If _ _ _) <|
  mF (mn_LA _ _) <|
  mF (mn_LI _ _) <|
  mF (mn_PI _ _) <|
  mF (mn_PI _ _) <|
  mF (mn_LI _ _) <|
  mF (mn_B _ _) <|
  mF (mn_B _ _) <|
  mF (mn_LI _ _) <|
  mF (mn_B _ _) <|
  mF (mn_CV _ _ mc_X11_get _) <|
  mF (mn_I2L _) <|
  mF (mn_Go _) <|
  mF (mn_PL _ _) <|
  mF (mn_RL) <|
  mF0
def C_X11_pose : mCo := mRun tb_X11_pose 4
theorem mc_X11_pose : mMC C_X11_pose := mRun_mn mt_X11_pose 4
theorem yi_X11_pose : mYin yX11_pose cX11_pose 4 (some .long) 3 := ⟨wd_60, wd_1240, by decide +kernel, by decide⟩
set_option maxRecDepth 100000 in
set_option maxHeartbeats 4000000 in
theorem sd_X11_pose (l : Launch) (B : mBs) (p : Program) (e : Env) (s : State) (m : MethodId) (args : Array Value) (below : List Frame) (meth : Method) (c : Code) (Q : mQo) (X : mCx l B RX11 cX11_pose 4 p s m args c) (hr : meth.sig.returnType = (some .long)) (hk : meth.locks = false) (hn : meth.name = "pose") : ∀ q ∈ tb_X11_pose, mSnd l B 4 p e (mRm 3 0 0) s m args below meth c (MQ below (mPo B Q) args s 0 0 (mA B)) (fun r h' => (h'.1.2.1 ≤ 0 ∧ h'.1.2.2 ≤ 0) ∧ Q r h') q.2 q.1 :=
  mF (sn_aload_n (pc := 0) (j := 0) X (by decide +kernel) rfl) <|
  mF (sn_iload_n (pc := 1) (j := 1) X (by decide +kernel) rfl) <|
  mF (sn_iload_n (pc := 2) (j := 3) X (by decide +kernel) rfl) <|
  mF (sn_callV (pc := 3) X mc_X11_isLimb (me_X11_isLimb l B) yi_X11_isLimb wd_1062 wd_1064 wd_20 (T := TX11) (N := 22) rfl (by decide) (by decide +kernel)) <|
  mF (sn_if_ne (pc := 6) (off := 7) X (by decide +kernel) (by decide)) <|
  mF (sn_ldc2 (pc := 9) X (by decide +kernel) wd_999) <|
  mF (sn_lret (pc := 12) X hr hk (by decide +kernel)) <|
  mF (sn_iload_n (pc := 13) (j := 2) X (by decide +kernel) rfl) <|
  mF (sn_iconst (pc := 14) (n := 0) X (by decide +kernel) (by decide)) <|
  mF (sn_aload_n (pc := 15) (j := 0) X (by decide +kernel) rfl) <|
  mF (sn_iload_n (pc := 16) (j := 1) X (by decide +kernel) rfl) <|
  mF (sn_sipush (pc := 17) (n := 166) X (by decide +kernel) (by decide)) <|
  mF (sn_callV (pc := 20) X mc_X11_get (me_X11_get l B) yi_X11_get wd_995 wd_997 wd_12 (T := TX11) (N := 22) rfl (by decide) (by decide +kernel)) <|
  mF (sn_iconst (pc := 23) (n := 1) X (by decide +kernel) (by decide)) <|
  mF (sn_isub (pc := 24) X (by decide +kernel)) <|
  mF (sn_callS (pc := 25) X mc_X11_isIn (me_X11_isIn l B) yi_X11_isIn wd_992 wd_993 (by decide) (by decide +kernel)) <|
  mF (sn_if_eq (pc := 28) (off := 22) X (by decide +kernel) (by decide)) <|
  mF (sn_aload_n (pc := 31) (j := 0) X (by decide +kernel) rfl) <|
  mF (sn_iload_n (pc := 32) (j := 1) X (by decide +kernel) rfl) <|
  mF (sn_sipush (pc := 33) (n := 167) X (by decide +kernel) (by decide)) <|
  mF (sn_bipush (pc := 36) (n := 6) X (by decide +kernel) (by decide)) <|
  mF (sn_iload_n (pc := 38) (j := 2) X (by decide +kernel) rfl) <|
  mF (sn_imul (pc := 39) X (by decide +kernel)) <|
  mF (sn_iadd (pc := 40) X (by decide +kernel)) <|
  mF (sn_iload_n (pc := 41) (j := 3) X (by decide +kernel) rfl) <|
  mF (sn_iadd (pc := 42) X (by decide +kernel)) <|
  mF (sn_callV (pc := 43) X mc_X11_get (me_X11_get l B) yi_X11_get wd_995 wd_997 wd_12 (T := TX11) (N := 22) rfl (by decide) (by decide +kernel)) <|
  mF (sn_i2l (pc := 46) X (by decide +kernel)) <|
  mF (sn_goto (pc := 47) (off := 6) X (by decide +kernel) (by decide)) <|
  mF (sn_ldc2 (pc := 50) X (by decide +kernel) wd_1078) <|
  mF (sn_lret (pc := 53) X hr hk (by decide +kernel)) <|
  mF0
theorem me_X11_pose (l : Launch) (B : mBs) : mMet l B yX11_pose cX11_pose 4 (some .long) 3 0 0 C_X11_pose := mMet_of (own := RX11) (by decide) rfl (fun p e s m args below meth c Q X hr hk hn => sd_X11_pose l B p e s m args below meth c Q X hr hk hn)
/-! PuppetStageModel.round(I)J: 74 instructions, depth 2, makes 0 cells of 0 slots -/
def tb_X11_round_c0 : mTb := [(0, aLI 1 1), (1, aCS 1 C_X11_isPuppet 4), (4, aIf (fun x => x = 0) 7 11), (7, aPL (-9000000000000000001) 10), (10, aRL), (11, aLA 0 12), (12, aLI 1 13), (13, aPI 166 16), (16, aCV 11 2 C_X11_get 19), (19, aPI 1 20), (20, aB (fun x y => x - y) 21), (21, aSI 2 22), (22, aLI 2 23), (23, aIf (fun x => 0 ≤ x) 30 26), (26, aPL (-9000000000000000002) 29), (29, aRL), (30, aLA 0 31), (31, aLI 1 32), (32, aPI 132 35), (35, aCV 11 2 C_X11_get 38), (38, aLA 0 39), (39, aLI 1 40), (40, aPI 130 43), (43, aPI 3 44), (44, aLI 2 45), (45, aB (fun x y => x * y) 46), (46, aB (fun x y => x + y) 47), (47, aPI 2 48), (48, aB (fun x y => x + y) 49), (49, aCV 11 2 C_X11_get 52), (52, aIc (fun x y => x = y) 55 59), (55, aPI 1 56), (56, aGo 60), (59, aPI 0 60), (60, aSI 3 61), (61, aPI 0 62), (62, aSI 4 64), (64, aLI 4 66), (66, aLA 0 67), (67, aLI 1 68), (68, aPI 0 69), (69, aCV 11 2 C_X11_get 72), (72, aIc (fun x y => y ≤ x) 121 75), (75, aLI 3 76), (76, aIf (fun x => x = 0) 113 79), (79, aLA 0 80), (80, aLI 1 81), (81, aPI 167 84), (84, aLI 4 86), (86, aB (fun x y => x + y) 87), (87, aCV 11 2 C_X11_get 90), (90, aLA 0 91), (91, aLI 1 92), (92, aPI 167 95), (95, aPI 6 97), (97, aLI 2 98), (98, aB (fun x y => x * y) 99), (99, aB (fun x y => x + y) 100), (100, aLI 4 102), (102, aB (fun x y => x + y) 103), (103, aCV 11 2 C_X11_get 106), (106, aIc (fun x y => x = y) 109 113), (109, aPI 1 110), (110, aGo 114), (113, aPI 0 114), (114, aSI 3 115), (115, aInc 4 1 118), (118, aGo 64), (121, aLI 3 122), (122, aIf (fun x => x = 0) 129 125)]
theorem mt_X11_round_c0 : mMT tb_X11_round_c0 :=
  mF (mn_LI _ _) <|
  mF (mn_CS _ mc_X11_isPuppet _) <|
  mF (mn_If _ _ _) <|
  mF (mn_PL _ _) <|
  mF (mn_RL) <|
  mF (mn_LA _ _) <|
  mF (mn_LI _ _) <|
  mF (mn_PI _ _) <|
  mF (mn_CV _ _ mc_X11_get _) <|
  mF (mn_PI _ _) <|
  mF (mn_B _ _) <|
  mF (mn_SI _ _) <|
  mF (mn_LI _ _) <|
  mF (mn_If _ _ _) <|
  mF (mn_PL _ _) <|
  mF (mn_RL) <|
  mF (mn_LA _ _) <|
  mF (mn_LI _ _) <|
  mF (mn_PI _ _) <|
  mF (mn_CV _ _ mc_X11_get _) <|
  mF (mn_LA _ _) <|
  mF (mn_LI _ _) <|
  mF (mn_PI _ _) <|
  mF (mn_PI _ _) <|
  mF (mn_LI _ _) <|
  mF (mn_B _ _) <|
  mF (mn_B _ _) <|
  mF (mn_PI _ _) <|
  mF (mn_B _ _) <|
  mF (mn_CV _ _ mc_X11_get _) <|
  mF (mn_Ic _ _ _) <|
  mF (mn_PI _ _) <|
  mF (mn_Go _) <|
  mF (mn_PI _ _) <|
  mF (mn_SI _ _) <|
  mF (mn_PI _ _) <|
  mF (mn_SI _ _) <|
  mF (mn_LI _ _) <|
  mF (mn_LA _ _) <|
  mF (mn_LI _ _) <|
  mF (mn_PI _ _) <|
  mF (mn_CV _ _ mc_X11_get _) <|
  mF (mn_Ic _ _ _) <|
  mF (mn_LI _ _) <|
  mF (mn_If _ _ _) <|
  mF (mn_LA _ _) <|
  mF (mn_LI _ _) <|
  mF (mn_PI _ _) <|
  mF (mn_LI _ _) <|
  mF (mn_B _ _) <|
  mF (mn_CV _ _ mc_X11_get _) <|
  mF (mn_LA _ _) <|
  mF (mn_LI _ _) <|
  mF (mn_PI _ _) <|
  mF (mn_PI _ _) <|
  mF (mn_LI _ _) <|
  mF (mn_B _ _) <|
  mF (mn_B _ _) <|
  mF (mn_LI _ _) <|
  mF (mn_B _ _) <|
  mF (mn_CV _ _ mc_X11_get _) <|
  mF (mn_Ic _ _ _) <|
  mF (mn_PI _ _) <|
  mF (mn_Go _) <|
  mF (mn_PI _ _) <|
  mF (mn_SI _ _) <|
  mF (mn_Inc _ _ _) <|
  mF (mn_Go _) <|
  mF (mn_LI _ _) <|
  mF (mn_If _ _ _) <|
  mF0
def tb_X11_round_c1 : mTb := [(125, aPL 1 126), (126, aGo 130), (129, aPL 0 130), (130, aRL)]
theorem mt_X11_round_c1 : mMT tb_X11_round_c1 :=
  mF (mn_PL _ _) <|
  mF (mn_Go _) <|
  mF (mn_PL _ _) <|
  mF (mn_RL) <|
  mF0
def tb_X11_round : mTb := tb_X11_round_c0 ++ (tb_X11_round_c1)
theorem mt_X11_round : mMT tb_X11_round := mFA mt_X11_round_c0 mt_X11_round_c1
def C_X11_round : mCo := mRun tb_X11_round 5
theorem mc_X11_round : mMC C_X11_round := mRun_mn mt_X11_round 5
theorem yi_X11_round : mYin yX11_round cX11_round 5 (some .long) 1 := ⟨wd_60, wd_1244, by decide +kernel, by decide⟩
set_option maxRecDepth 100000 in
set_option maxHeartbeats 4000000 in
theorem sd_X11_round_c0 (l : Launch) (B : mBs) (p : Program) (e : Env) (s : State) (m : MethodId) (args : Array Value) (below : List Frame) (meth : Method) (c : Code) (Q : mQo) (X : mCx l B RX11 cX11_round 5 p s m args c) (hr : meth.sig.returnType = (some .long)) (hk : meth.locks = false) (hn : meth.name = "round") : ∀ q ∈ tb_X11_round_c0, mSnd l B 5 p e (mRm 2 0 0) s m args below meth c (MQ below (mPo B Q) args s 0 0 (mA B)) (fun r h' => (h'.1.2.1 ≤ 0 ∧ h'.1.2.2 ≤ 0) ∧ Q r h') q.2 q.1 :=
  mF (sn_iload_n (pc := 0) (j := 1) X (by decide +kernel) rfl) <|
  mF (sn_callS (pc := 1) X mc_X11_isPuppet (me_X11_isPuppet l B) yi_X11_isPuppet wd_989 wd_990 (by decide) (by decide +kernel)) <|
  mF (sn_if_ne (pc := 4) (off := 7) X (by decide +kernel) (by decide)) <|
  mF (sn_ldc2 (pc := 7) X (by decide +kernel) wd_999) <|
  mF (sn_lret (pc := 10) X hr hk (by decide +kernel)) <|
  mF (sn_aload_n (pc := 11) (j := 0) X (by decide +kernel) rfl) <|
  mF (sn_iload_n (pc := 12) (j := 1) X (by decide +kernel) rfl) <|
  mF (sn_sipush (pc := 13) (n := 166) X (by decide +kernel) (by decide)) <|
  mF (sn_callV (pc := 16) X mc_X11_get (me_X11_get l B) yi_X11_get wd_995 wd_997 wd_12 (T := TX11) (N := 22) rfl (by decide) (by decide +kernel)) <|
  mF (sn_iconst (pc := 19) (n := 1) X (by decide +kernel) (by decide)) <|
  mF (sn_isub (pc := 20) X (by decide +kernel)) <|
  mF (sn_istore_n (pc := 21) (j := 2) X (by decide +kernel) rfl (by decide)) <|
  mF (sn_iload_n (pc := 22) (j := 2) X (by decide +kernel) rfl) <|
  mF (sn_if_ge (pc := 23) (off := 7) X (by decide +kernel) (by decide)) <|
  mF (sn_ldc2 (pc := 26) X (by decide +kernel) wd_984) <|
  mF (sn_lret (pc := 29) X hr hk (by decide +kernel)) <|
  mF (sn_aload_n (pc := 30) (j := 0) X (by decide +kernel) rfl) <|
  mF (sn_iload_n (pc := 31) (j := 1) X (by decide +kernel) rfl) <|
  mF (sn_sipush (pc := 32) (n := 132) X (by decide +kernel) (by decide)) <|
  mF (sn_callV (pc := 35) X mc_X11_get (me_X11_get l B) yi_X11_get wd_995 wd_997 wd_12 (T := TX11) (N := 22) rfl (by decide) (by decide +kernel)) <|
  mF (sn_aload_n (pc := 38) (j := 0) X (by decide +kernel) rfl) <|
  mF (sn_iload_n (pc := 39) (j := 1) X (by decide +kernel) rfl) <|
  mF (sn_sipush (pc := 40) (n := 130) X (by decide +kernel) (by decide)) <|
  mF (sn_iconst (pc := 43) (n := 3) X (by decide +kernel) (by decide)) <|
  mF (sn_iload_n (pc := 44) (j := 2) X (by decide +kernel) rfl) <|
  mF (sn_imul (pc := 45) X (by decide +kernel)) <|
  mF (sn_iadd (pc := 46) X (by decide +kernel)) <|
  mF (sn_iconst (pc := 47) (n := 2) X (by decide +kernel) (by decide)) <|
  mF (sn_iadd (pc := 48) X (by decide +kernel)) <|
  mF (sn_callV (pc := 49) X mc_X11_get (me_X11_get l B) yi_X11_get wd_995 wd_997 wd_12 (T := TX11) (N := 22) rfl (by decide) (by decide +kernel)) <|
  mF (sn_icmp_ne (pc := 52) (off := 7) X (by decide +kernel) (by decide)) <|
  mF (sn_iconst (pc := 55) (n := 1) X (by decide +kernel) (by decide)) <|
  mF (sn_goto (pc := 56) (off := 4) X (by decide +kernel) (by decide)) <|
  mF (sn_iconst (pc := 59) (n := 0) X (by decide +kernel) (by decide)) <|
  mF (sn_istore_n (pc := 60) (j := 3) X (by decide +kernel) rfl (by decide)) <|
  mF (sn_iconst (pc := 61) (n := 0) X (by decide +kernel) (by decide)) <|
  mF (sn_istore (pc := 62) X (by decide +kernel) (by decide)) <|
  mF (sn_iload (pc := 64) X (by decide +kernel)) <|
  mF (sn_aload_n (pc := 66) (j := 0) X (by decide +kernel) rfl) <|
  mF (sn_iload_n (pc := 67) (j := 1) X (by decide +kernel) rfl) <|
  mF (sn_iconst (pc := 68) (n := 0) X (by decide +kernel) (by decide)) <|
  mF (sn_callV (pc := 69) X mc_X11_get (me_X11_get l B) yi_X11_get wd_995 wd_997 wd_12 (T := TX11) (N := 22) rfl (by decide) (by decide +kernel)) <|
  mF (sn_icmp_ge (pc := 72) (off := 49) X (by decide +kernel) (by decide)) <|
  mF (sn_iload_n (pc := 75) (j := 3) X (by decide +kernel) rfl) <|
  mF (sn_if_eq (pc := 76) (off := 37) X (by decide +kernel) (by decide)) <|
  mF (sn_aload_n (pc := 79) (j := 0) X (by decide +kernel) rfl) <|
  mF (sn_iload_n (pc := 80) (j := 1) X (by decide +kernel) rfl) <|
  mF (sn_sipush (pc := 81) (n := 167) X (by decide +kernel) (by decide)) <|
  mF (sn_iload (pc := 84) X (by decide +kernel)) <|
  mF (sn_iadd (pc := 86) X (by decide +kernel)) <|
  mF (sn_callV (pc := 87) X mc_X11_get (me_X11_get l B) yi_X11_get wd_995 wd_997 wd_12 (T := TX11) (N := 22) rfl (by decide) (by decide +kernel)) <|
  mF (sn_aload_n (pc := 90) (j := 0) X (by decide +kernel) rfl) <|
  mF (sn_iload_n (pc := 91) (j := 1) X (by decide +kernel) rfl) <|
  mF (sn_sipush (pc := 92) (n := 167) X (by decide +kernel) (by decide)) <|
  mF (sn_bipush (pc := 95) (n := 6) X (by decide +kernel) (by decide)) <|
  mF (sn_iload_n (pc := 97) (j := 2) X (by decide +kernel) rfl) <|
  mF (sn_imul (pc := 98) X (by decide +kernel)) <|
  mF (sn_iadd (pc := 99) X (by decide +kernel)) <|
  mF (sn_iload (pc := 100) X (by decide +kernel)) <|
  mF (sn_iadd (pc := 102) X (by decide +kernel)) <|
  mF (sn_callV (pc := 103) X mc_X11_get (me_X11_get l B) yi_X11_get wd_995 wd_997 wd_12 (T := TX11) (N := 22) rfl (by decide) (by decide +kernel)) <|
  mF (sn_icmp_ne (pc := 106) (off := 7) X (by decide +kernel) (by decide)) <|
  mF (sn_iconst (pc := 109) (n := 1) X (by decide +kernel) (by decide)) <|
  mF (sn_goto (pc := 110) (off := 4) X (by decide +kernel) (by decide)) <|
  mF (sn_iconst (pc := 113) (n := 0) X (by decide +kernel) (by decide)) <|
  mF (sn_istore_n (pc := 114) (j := 3) X (by decide +kernel) rfl (by decide)) <|
  mF (sn_iinc (pc := 115) (n := 1) X (by decide +kernel) (by decide) (by decide)) <|
  mF (sn_goto (pc := 118) (off := (-54)) X (by decide +kernel) (by decide)) <|
  mF (sn_iload_n (pc := 121) (j := 3) X (by decide +kernel) rfl) <|
  mF (sn_if_eq (pc := 122) (off := 7) X (by decide +kernel) (by decide)) <|
  mF0
set_option maxRecDepth 100000 in
set_option maxHeartbeats 4000000 in
theorem sd_X11_round_c1 (l : Launch) (B : mBs) (p : Program) (e : Env) (s : State) (m : MethodId) (args : Array Value) (below : List Frame) (meth : Method) (c : Code) (Q : mQo) (X : mCx l B RX11 cX11_round 5 p s m args c) (hr : meth.sig.returnType = (some .long)) (hk : meth.locks = false) (hn : meth.name = "round") : ∀ q ∈ tb_X11_round_c1, mSnd l B 5 p e (mRm 2 0 0) s m args below meth c (MQ below (mPo B Q) args s 0 0 (mA B)) (fun r h' => (h'.1.2.1 ≤ 0 ∧ h'.1.2.2 ≤ 0) ∧ Q r h') q.2 q.1 :=
  mF (sn_lconst (pc := 125) (n := 1) X (by decide +kernel) (by decide)) <|
  mF (sn_goto (pc := 126) (off := 4) X (by decide +kernel) (by decide)) <|
  mF (sn_lconst (pc := 129) (n := 0) X (by decide +kernel) (by decide)) <|
  mF (sn_lret (pc := 130) X hr hk (by decide +kernel)) <|
  mF0
theorem sd_X11_round (l : Launch) (B : mBs) (p : Program) (e : Env) (s : State) (m : MethodId) (args : Array Value) (below : List Frame) (meth : Method) (c : Code) (Q : mQo) (X : mCx l B RX11 cX11_round 5 p s m args c) (hr : meth.sig.returnType = (some .long)) (hk : meth.locks = false) (hn : meth.name = "round") : ∀ q ∈ tb_X11_round, mSnd l B 5 p e (mRm 2 0 0) s m args below meth c (MQ below (mPo B Q) args s 0 0 (mA B)) (fun r h' => (h'.1.2.1 ≤ 0 ∧ h'.1.2.2 ≤ 0) ∧ Q r h') q.2 q.1 := mFA (sd_X11_round_c0 l B p e s m args below meth c Q X hr hk hn) (sd_X11_round_c1 l B p e s m args below meth c Q X hr hk hn)
theorem me_X11_round (l : Launch) (B : mBs) : mMet l B yX11_round cX11_round 5 (some .long) 2 0 0 C_X11_round := mMet_of (own := RX11) (by decide) rfl (fun p e s m args below meth c Q X hr hk hn => sd_X11_round l B p e s m args below meth c Q X hr hk hn)
/-! PuppetStageModel.reach(IIII)J: 130 instructions, depth 9, makes 0 cells of 0 slots -/
def tb_X11_reach_c0 : mTb := [(0, aLA 0 1), (1, aLI 1 2), (2, aLI 2 3), (3, aCV 11 2 C_X11_isLimb 6), (6, aIf (fun x => x = 0) 18 9), (9, aLI 3 10), (10, aLI 4 12), (12, aCS 2 C_X11_isPlace 15), (15, aIf (fun x => x = 0) 18 22), (18, aPL (-9000000000000000001) 21), (21, aRL), (22, aLA 0 23), (23, aCV 11 0 C_X11_keep 26), (26, aLA 0 27), (27, aLI 1 28), (28, aCV 11 1 C_X11_noteBends 31), (31, aLA 0 32), (32, aLI 1 33), (33, aPI 42 35), (35, aCV 11 2 C_X11_get 38), (38, aSI 5 40), (40, aLI 5 42), (42, aSI 6 44), (44, aPL (-1) 47), (47, aSL 7 49), (49, aLI 5 51), (51, aPI 4 52), (52, aB (fun x y => x - y) 53), (53, aSI 9 55), (55, aLI 9 57), (57, aLI 5 59), (59, aPI 4 60), (60, aB (fun x y => x + y) 61), (61, aIc (fun x y => y < x) 198 64), (64, aLI 9 66), (66, aPI (-32) 68), (68, aPI 31 70), (70, aCS 3 C_X11_isIn 73), (73, aIf (fun x => x = 0) 192 76), (76, aLA 0 77), (77, aLI 1 78), (78, aCV 11 1 C_X11_bringBends 81), (81, aLA 0 82), (82, aLI 1 83), (83, aPI 42 85), (85, aLI 9 87), (87, aCV 11 3 C_X11_put 90), (90, aLA 0 91), (91, aLI 1 92), (92, aPI 60 94), (94, aCV 11 2 C_X11_restOf 97), (97, aSI 10 99), (99, aLA 0 100), (100, aLI 1 101), (101, aCV 11 1 C_X11_lay 104), (104, aLA 0 105), (105, aGR 11 7 108), (108, aLI 2 109), (109, aJA 110), (110, aPL 1024 113), (113, aLI 3 114), (114, aI2L 115), (115, aBL (fun x y => x * y) 116), (116, aBL (fun x y => x - y) 117), (117, aLA 0 118), (118, aGR 11 8 121), (121, aLI 2 122), (122, aJA 123), (123, aPL 1024 126), (126, aLI 4 128)]
theorem mt_X11_reach_c0 : mMT tb_X11_reach_c0 :=
  mF (mn_LA _ _) <|
  mF (mn_LI _ _) <|
  mF (mn_LI _ _) <|
  mF (mn_CV _ _ mc_X11_isLimb _) <|
  mF (mn_If _ _ _) <|
  mF (mn_LI _ _) <|
  mF (mn_LI _ _) <|
  mF (mn_CS _ mc_X11_isPlace _) <|
  mF (mn_If _ _ _) <|
  mF (mn_PL _ _) <|
  mF (mn_RL) <|
  mF (mn_LA _ _) <|
  mF (mn_CV _ _ mc_X11_keep _) <|
  mF (mn_LA _ _) <|
  mF (mn_LI _ _) <|
  mF (mn_CV _ _ mc_X11_noteBends _) <|
  mF (mn_LA _ _) <|
  mF (mn_LI _ _) <|
  mF (mn_PI _ _) <|
  mF (mn_CV _ _ mc_X11_get _) <|
  mF (mn_SI _ _) <|
  mF (mn_LI _ _) <|
  mF (mn_SI _ _) <|
  mF (mn_PL _ _) <|
  mF (mn_SL _ _) <|
  mF (mn_LI _ _) <|
  mF (mn_PI _ _) <|
  mF (mn_B _ _) <|
  mF (mn_SI _ _) <|
  mF (mn_LI _ _) <|
  mF (mn_LI _ _) <|
  mF (mn_PI _ _) <|
  mF (mn_B _ _) <|
  mF (mn_Ic _ _ _) <|
  mF (mn_LI _ _) <|
  mF (mn_PI _ _) <|
  mF (mn_PI _ _) <|
  mF (mn_CS _ mc_X11_isIn _) <|
  mF (mn_If _ _ _) <|
  mF (mn_LA _ _) <|
  mF (mn_LI _ _) <|
  mF (mn_CV _ _ mc_X11_bringBends _) <|
  mF (mn_LA _ _) <|
  mF (mn_LI _ _) <|
  mF (mn_PI _ _) <|
  mF (mn_LI _ _) <|
  mF (mn_CV _ _ mc_X11_put _) <|
  mF (mn_LA _ _) <|
  mF (mn_LI _ _) <|
  mF (mn_PI _ _) <|
  mF (mn_CV _ _ mc_X11_restOf _) <|
  mF (mn_SI _ _) <|
  mF (mn_LA _ _) <|
  mF (mn_LI _ _) <|
  mF (mn_CV _ _ mc_X11_lay _) <|
  mF (mn_LA _ _) <|
  mF (mn_GR _ _ _) <|
  mF (mn_LI _ _) <|
  mF (mn_JA _) <|
  mF (mn_PL _ _) <|
  mF (mn_LI _ _) <|
  mF (mn_I2L _) <|
  mF (mn_BL _ _) <|
  mF (mn_BL _ _) <|
  mF (mn_LA _ _) <|
  mF (mn_GR _ _ _) <|
  mF (mn_LI _ _) <|
  mF (mn_JA _) <|
  mF (mn_PL _ _) <|
  mF (mn_LI _ _) <|
  mF0
def tb_X11_reach_c1 : mTb := [(128, aI2L 129), (129, aBL (fun x y => x * y) 130), (130, aBL (fun x y => x - y) 131), (131, aCS 2 C_X11_square 134), (134, aSL 11 136), (136, aLL 7 138), (138, aPL 0 139), (139, aCmp 140), (140, aIf (fun x => x < 0) 151 143), (143, aLL 11 145), (145, aLL 7 147), (147, aCmp 148), (148, aIf (fun x => 0 ≤ x) 192 151), (151, aLL 11 153), (153, aSL 7 155), (155, aLI 9 157), (157, aSI 6 159), (159, aPI 0 160), (160, aSI 13 162), (162, aLI 13 164), (164, aPI 6 166), (166, aIc (fun x y => y ≤ x) 192 169), (169, aLA 0 170), (170, aGR 11 13 173), (173, aLI 13 175), (175, aLA 0 176), (176, aLI 1 177), (177, aPI 19 179), (179, aLI 13 181), (181, aB (fun x y => x + y) 182), (182, aCV 11 2 C_X11_get 185), (185, aIS 186), (186, aInc 13 1 189), (189, aGo 162), (192, aInc 9 1 195), (195, aGo 55), (198, aLA 0 199), (199, aLI 1 200), (200, aPI 42 202), (202, aLI 6 204), (204, aCV 11 3 C_X11_put 207), (207, aPI 0 208), (208, aSI 9 210), (210, aLI 9 212), (212, aPI 6 214), (214, aIc (fun x y => y ≤ x) 240 217), (217, aLA 0 218), (218, aLI 1 219), (219, aPI 19 221), (221, aLI 9 223), (223, aB (fun x y => x + y) 224), (224, aLA 0 225), (225, aGR 11 13 228), (228, aLI 9 230), (230, aIA 231), (231, aCV 11 3 C_X11_put 234), (234, aInc 9 1 237), (237, aGo 210), (240, aLL 7 242), (242, aRL)]
theorem mt_X11_reach_c1 : mMT tb_X11_reach_c1 :=
  mF (mn_I2L _) <|
  mF (mn_BL _ _) <|
  mF (mn_BL _ _) <|
  mF (mn_CS _ mc_X11_square _) <|
  mF (mn_SL _ _) <|
  mF (mn_LL _ _) <|
  mF (mn_PL _ _) <|
  mF (mn_Cmp _) <|
  mF (mn_If _ _ _) <|
  mF (mn_LL _ _) <|
  mF (mn_LL _ _) <|
  mF (mn_Cmp _) <|
  mF (mn_If _ _ _) <|
  mF (mn_LL _ _) <|
  mF (mn_SL _ _) <|
  mF (mn_LI _ _) <|
  mF (mn_SI _ _) <|
  mF (mn_PI _ _) <|
  mF (mn_SI _ _) <|
  mF (mn_LI _ _) <|
  mF (mn_PI _ _) <|
  mF (mn_Ic _ _ _) <|
  mF (mn_LA _ _) <|
  mF (mn_GR _ _ _) <|
  mF (mn_LI _ _) <|
  mF (mn_LA _ _) <|
  mF (mn_LI _ _) <|
  mF (mn_PI _ _) <|
  mF (mn_LI _ _) <|
  mF (mn_B _ _) <|
  mF (mn_CV _ _ mc_X11_get _) <|
  mF (mn_IS _) <|
  mF (mn_Inc _ _ _) <|
  mF (mn_Go _) <|
  mF (mn_Inc _ _ _) <|
  mF (mn_Go _) <|
  mF (mn_LA _ _) <|
  mF (mn_LI _ _) <|
  mF (mn_PI _ _) <|
  mF (mn_LI _ _) <|
  mF (mn_CV _ _ mc_X11_put _) <|
  mF (mn_PI _ _) <|
  mF (mn_SI _ _) <|
  mF (mn_LI _ _) <|
  mF (mn_PI _ _) <|
  mF (mn_Ic _ _ _) <|
  mF (mn_LA _ _) <|
  mF (mn_LI _ _) <|
  mF (mn_PI _ _) <|
  mF (mn_LI _ _) <|
  mF (mn_B _ _) <|
  mF (mn_LA _ _) <|
  mF (mn_GR _ _ _) <|
  mF (mn_LI _ _) <|
  mF (mn_IA _) <|
  mF (mn_CV _ _ mc_X11_put _) <|
  mF (mn_Inc _ _ _) <|
  mF (mn_Go _) <|
  mF (mn_LL _ _) <|
  mF (mn_RL) <|
  mF0
def tb_X11_reach : mTb := tb_X11_reach_c0 ++ (tb_X11_reach_c1)
theorem mt_X11_reach : mMT tb_X11_reach := mFA mt_X11_reach_c0 mt_X11_reach_c1
def C_X11_reach : mCo := mRun tb_X11_reach 14
theorem mc_X11_reach : mMC C_X11_reach := mRun_mn mt_X11_reach 14
theorem yi_X11_reach : mYin yX11_reach cX11_reach 14 (some .long) 4 := ⟨wd_60, wd_1248, by decide +kernel, by decide⟩
set_option maxRecDepth 100000 in
set_option maxHeartbeats 4000000 in
theorem sd_X11_reach_c0 (l : Launch) (B : mBs) (p : Program) (e : Env) (s : State) (m : MethodId) (args : Array Value) (below : List Frame) (meth : Method) (c : Code) (Q : mQo) (X : mCx l B RX11 cX11_reach 14 p s m args c) (hr : meth.sig.returnType = (some .long)) (hk : meth.locks = false) (hn : meth.name = "reach") : ∀ q ∈ tb_X11_reach_c0, mSnd l B 14 p e (mRm 9 0 0) s m args below meth c (MQ below (mPo B Q) args s 0 0 (mA B)) (fun r h' => (h'.1.2.1 ≤ 0 ∧ h'.1.2.2 ≤ 0) ∧ Q r h') q.2 q.1 :=
  mF (sn_aload_n (pc := 0) (j := 0) X (by decide +kernel) rfl) <|
  mF (sn_iload_n (pc := 1) (j := 1) X (by decide +kernel) rfl) <|
  mF (sn_iload_n (pc := 2) (j := 2) X (by decide +kernel) rfl) <|
  mF (sn_callV (pc := 3) X mc_X11_isLimb (me_X11_isLimb l B) yi_X11_isLimb wd_1062 wd_1064 wd_20 (T := TX11) (N := 22) rfl (by decide) (by decide +kernel)) <|
  mF (sn_if_eq (pc := 6) (off := 12) X (by decide +kernel) (by decide)) <|
  mF (sn_iload_n (pc := 9) (j := 3) X (by decide +kernel) rfl) <|
  mF (sn_iload (pc := 10) X (by decide +kernel)) <|
  mF (sn_callS (pc := 12) X mc_X11_isPlace (me_X11_isPlace l B) yi_X11_isPlace wd_1033 wd_1034 (by decide) (by decide +kernel)) <|
  mF (sn_if_ne (pc := 15) (off := 7) X (by decide +kernel) (by decide)) <|
  mF (sn_ldc2 (pc := 18) X (by decide +kernel) wd_999) <|
  mF (sn_lret (pc := 21) X hr hk (by decide +kernel)) <|
  mF (sn_aload_n (pc := 22) (j := 0) X (by decide +kernel) rfl) <|
  mF (sn_callV (pc := 23) X mc_X11_keep (me_X11_keep l B) yi_X11_keep wd_1009 wd_1011 wd_15 (T := TX11) (N := 22) rfl (by decide) (by decide +kernel)) <|
  mF (sn_aload_n (pc := 26) (j := 0) X (by decide +kernel) rfl) <|
  mF (sn_iload_n (pc := 27) (j := 1) X (by decide +kernel) rfl) <|
  mF (sn_callV (pc := 28) X mc_X11_noteBends (me_X11_noteBends l B) yi_X11_noteBends wd_1213 wd_1215 wd_41 (T := TX11) (N := 22) rfl (by decide) (by decide +kernel)) <|
  mF (sn_aload_n (pc := 31) (j := 0) X (by decide +kernel) rfl) <|
  mF (sn_iload_n (pc := 32) (j := 1) X (by decide +kernel) rfl) <|
  mF (sn_bipush (pc := 33) (n := 42) X (by decide +kernel) (by decide)) <|
  mF (sn_callV (pc := 35) X mc_X11_get (me_X11_get l B) yi_X11_get wd_995 wd_997 wd_12 (T := TX11) (N := 22) rfl (by decide) (by decide +kernel)) <|
  mF (sn_istore (pc := 38) X (by decide +kernel) (by decide)) <|
  mF (sn_iload (pc := 40) X (by decide +kernel)) <|
  mF (sn_istore (pc := 42) X (by decide +kernel) (by decide)) <|
  mF (sn_ldc2 (pc := 44) X (by decide +kernel) wd_1249) <|
  mF (sn_lstore (pc := 47) X (by decide +kernel) (by decide)) <|
  mF (sn_iload (pc := 49) X (by decide +kernel)) <|
  mF (sn_iconst (pc := 51) (n := 4) X (by decide +kernel) (by decide)) <|
  mF (sn_isub (pc := 52) X (by decide +kernel)) <|
  mF (sn_istore (pc := 53) X (by decide +kernel) (by decide)) <|
  mF (sn_iload (pc := 55) X (by decide +kernel)) <|
  mF (sn_iload (pc := 57) X (by decide +kernel)) <|
  mF (sn_iconst (pc := 59) (n := 4) X (by decide +kernel) (by decide)) <|
  mF (sn_iadd (pc := 60) X (by decide +kernel)) <|
  mF (sn_icmp_gt (pc := 61) (off := 137) X (by decide +kernel) (by decide)) <|
  mF (sn_iload (pc := 64) X (by decide +kernel)) <|
  mF (sn_bipush (pc := 66) (n := (-32)) X (by decide +kernel) (by decide)) <|
  mF (sn_bipush (pc := 68) (n := 31) X (by decide +kernel) (by decide)) <|
  mF (sn_callS (pc := 70) X mc_X11_isIn (me_X11_isIn l B) yi_X11_isIn wd_992 wd_993 (by decide) (by decide +kernel)) <|
  mF (sn_if_eq (pc := 73) (off := 119) X (by decide +kernel) (by decide)) <|
  mF (sn_aload_n (pc := 76) (j := 0) X (by decide +kernel) rfl) <|
  mF (sn_iload_n (pc := 77) (j := 1) X (by decide +kernel) rfl) <|
  mF (sn_callV (pc := 78) X mc_X11_bringBends (me_X11_bringBends l B) yi_X11_bringBends wd_1217 wd_1219 wd_42 (T := TX11) (N := 22) rfl (by decide) (by decide +kernel)) <|
  mF (sn_aload_n (pc := 81) (j := 0) X (by decide +kernel) rfl) <|
  mF (sn_iload_n (pc := 82) (j := 1) X (by decide +kernel) rfl) <|
  mF (sn_bipush (pc := 83) (n := 42) X (by decide +kernel) (by decide)) <|
  mF (sn_iload (pc := 85) X (by decide +kernel)) <|
  mF (sn_callV (pc := 87) X mc_X11_put (me_X11_put l B) yi_X11_put wd_1013 wd_1015 wd_16 (T := TX11) (N := 22) rfl (by decide) (by decide +kernel)) <|
  mF (sn_aload_n (pc := 90) (j := 0) X (by decide +kernel) rfl) <|
  mF (sn_iload_n (pc := 91) (j := 1) X (by decide +kernel) rfl) <|
  mF (sn_bipush (pc := 92) (n := 60) X (by decide +kernel) (by decide)) <|
  mF (sn_callV (pc := 94) X mc_X11_restOf (me_X11_restOf l B) yi_X11_restOf wd_1189 wd_1191 wd_36 (T := TX11) (N := 22) rfl (by decide) (by decide +kernel)) <|
  mF (sn_istore (pc := 97) X (by decide +kernel) (by decide)) <|
  mF (sn_aload_n (pc := 99) (j := 0) X (by decide +kernel) rfl) <|
  mF (sn_iload_n (pc := 100) (j := 1) X (by decide +kernel) rfl) <|
  mF (sn_callV (pc := 101) X mc_X11_lay (me_X11_lay l B) yi_X11_lay wd_1083 wd_1085 wd_22 (T := TX11) (N := 22) rfl (by decide) (by decide +kernel)) <|
  mF (sn_aload_n (pc := 104) (j := 0) X (by decide +kernel) rfl) <|
  mF (sn_getR (pc := 105) X fd_X11_26 (by decide +kernel)) <|
  mF (sn_iload_n (pc := 108) (j := 2) X (by decide +kernel) rfl) <|
  mF (sn_laload (pc := 109) X (by decide +kernel)) <|
  mF (sn_ldc2 (pc := 110) X (by decide +kernel) wd_1087) <|
  mF (sn_iload_n (pc := 113) (j := 3) X (by decide +kernel) rfl) <|
  mF (sn_i2l (pc := 114) X (by decide +kernel)) <|
  mF (sn_lmul (pc := 115) X (by decide +kernel)) <|
  mF (sn_lsub (pc := 116) X (by decide +kernel)) <|
  mF (sn_aload_n (pc := 117) (j := 0) X (by decide +kernel) rfl) <|
  mF (sn_getR (pc := 118) X fd_X11_29 (by decide +kernel)) <|
  mF (sn_iload_n (pc := 121) (j := 2) X (by decide +kernel) rfl) <|
  mF (sn_laload (pc := 122) X (by decide +kernel)) <|
  mF (sn_ldc2 (pc := 123) X (by decide +kernel) wd_1087) <|
  mF (sn_iload (pc := 126) X (by decide +kernel)) <|
  mF0
set_option maxRecDepth 100000 in
set_option maxHeartbeats 4000000 in
theorem sd_X11_reach_c1 (l : Launch) (B : mBs) (p : Program) (e : Env) (s : State) (m : MethodId) (args : Array Value) (below : List Frame) (meth : Method) (c : Code) (Q : mQo) (X : mCx l B RX11 cX11_reach 14 p s m args c) (hr : meth.sig.returnType = (some .long)) (hk : meth.locks = false) (hn : meth.name = "reach") : ∀ q ∈ tb_X11_reach_c1, mSnd l B 14 p e (mRm 9 0 0) s m args below meth c (MQ below (mPo B Q) args s 0 0 (mA B)) (fun r h' => (h'.1.2.1 ≤ 0 ∧ h'.1.2.2 ≤ 0) ∧ Q r h') q.2 q.1 :=
  mF (sn_i2l (pc := 128) X (by decide +kernel)) <|
  mF (sn_lmul (pc := 129) X (by decide +kernel)) <|
  mF (sn_lsub (pc := 130) X (by decide +kernel)) <|
  mF (sn_callS (pc := 131) X mc_X11_square (me_X11_square l B) yi_X11_square wd_1144 wd_1145 (by decide) (by decide +kernel)) <|
  mF (sn_lstore (pc := 134) X (by decide +kernel) (by decide)) <|
  mF (sn_lload (pc := 136) X (by decide +kernel)) <|
  mF (sn_lconst (pc := 138) (n := 0) X (by decide +kernel) (by decide)) <|
  mF (sn_lcmp (pc := 139) X (by decide +kernel)) <|
  mF (sn_if_lt (pc := 140) (off := 11) X (by decide +kernel) (by decide)) <|
  mF (sn_lload (pc := 143) X (by decide +kernel)) <|
  mF (sn_lload (pc := 145) X (by decide +kernel)) <|
  mF (sn_lcmp (pc := 147) X (by decide +kernel)) <|
  mF (sn_if_ge (pc := 148) (off := 44) X (by decide +kernel) (by decide)) <|
  mF (sn_lload (pc := 151) X (by decide +kernel)) <|
  mF (sn_lstore (pc := 153) X (by decide +kernel) (by decide)) <|
  mF (sn_iload (pc := 155) X (by decide +kernel)) <|
  mF (sn_istore (pc := 157) X (by decide +kernel) (by decide)) <|
  mF (sn_iconst (pc := 159) (n := 0) X (by decide +kernel) (by decide)) <|
  mF (sn_istore (pc := 160) X (by decide +kernel) (by decide)) <|
  mF (sn_iload (pc := 162) X (by decide +kernel)) <|
  mF (sn_bipush (pc := 164) (n := 6) X (by decide +kernel) (by decide)) <|
  mF (sn_icmp_ge (pc := 166) (off := 26) X (by decide +kernel) (by decide)) <|
  mF (sn_aload_n (pc := 169) (j := 0) X (by decide +kernel) rfl) <|
  mF (sn_getR (pc := 170) X fd_X11_38 (by decide +kernel)) <|
  mF (sn_iload (pc := 173) X (by decide +kernel)) <|
  mF (sn_aload_n (pc := 175) (j := 0) X (by decide +kernel) rfl) <|
  mF (sn_iload_n (pc := 176) (j := 1) X (by decide +kernel) rfl) <|
  mF (sn_bipush (pc := 177) (n := 19) X (by decide +kernel) (by decide)) <|
  mF (sn_iload (pc := 179) X (by decide +kernel)) <|
  mF (sn_iadd (pc := 181) X (by decide +kernel)) <|
  mF (sn_callV (pc := 182) X mc_X11_get (me_X11_get l B) yi_X11_get wd_995 wd_997 wd_12 (T := TX11) (N := 22) rfl (by decide) (by decide +kernel)) <|
  mF (sn_iastore (pc := 185) X (by decide +kernel)) <|
  mF (sn_iinc (pc := 186) (n := 1) X (by decide +kernel) (by decide) (by decide)) <|
  mF (sn_goto (pc := 189) (off := (-27)) X (by decide +kernel) (by decide)) <|
  mF (sn_iinc (pc := 192) (n := 1) X (by decide +kernel) (by decide) (by decide)) <|
  mF (sn_goto (pc := 195) (off := (-140)) X (by decide +kernel) (by decide)) <|
  mF (sn_aload_n (pc := 198) (j := 0) X (by decide +kernel) rfl) <|
  mF (sn_iload_n (pc := 199) (j := 1) X (by decide +kernel) rfl) <|
  mF (sn_bipush (pc := 200) (n := 42) X (by decide +kernel) (by decide)) <|
  mF (sn_iload (pc := 202) X (by decide +kernel)) <|
  mF (sn_callV (pc := 204) X mc_X11_put (me_X11_put l B) yi_X11_put wd_1013 wd_1015 wd_16 (T := TX11) (N := 22) rfl (by decide) (by decide +kernel)) <|
  mF (sn_iconst (pc := 207) (n := 0) X (by decide +kernel) (by decide)) <|
  mF (sn_istore (pc := 208) X (by decide +kernel) (by decide)) <|
  mF (sn_iload (pc := 210) X (by decide +kernel)) <|
  mF (sn_bipush (pc := 212) (n := 6) X (by decide +kernel) (by decide)) <|
  mF (sn_icmp_ge (pc := 214) (off := 26) X (by decide +kernel) (by decide)) <|
  mF (sn_aload_n (pc := 217) (j := 0) X (by decide +kernel) rfl) <|
  mF (sn_iload_n (pc := 218) (j := 1) X (by decide +kernel) rfl) <|
  mF (sn_bipush (pc := 219) (n := 19) X (by decide +kernel) (by decide)) <|
  mF (sn_iload (pc := 221) X (by decide +kernel)) <|
  mF (sn_iadd (pc := 223) X (by decide +kernel)) <|
  mF (sn_aload_n (pc := 224) (j := 0) X (by decide +kernel) rfl) <|
  mF (sn_getR (pc := 225) X fd_X11_38 (by decide +kernel)) <|
  mF (sn_iload (pc := 228) X (by decide +kernel)) <|
  mF (sn_iaload (pc := 230) X (by decide +kernel)) <|
  mF (sn_callV (pc := 231) X mc_X11_put (me_X11_put l B) yi_X11_put wd_1013 wd_1015 wd_16 (T := TX11) (N := 22) rfl (by decide) (by decide +kernel)) <|
  mF (sn_iinc (pc := 234) (n := 1) X (by decide +kernel) (by decide) (by decide)) <|
  mF (sn_goto (pc := 237) (off := (-27)) X (by decide +kernel) (by decide)) <|
  mF (sn_lload (pc := 240) X (by decide +kernel)) <|
  mF (sn_lret (pc := 242) X hr hk (by decide +kernel)) <|
  mF0
theorem sd_X11_reach (l : Launch) (B : mBs) (p : Program) (e : Env) (s : State) (m : MethodId) (args : Array Value) (below : List Frame) (meth : Method) (c : Code) (Q : mQo) (X : mCx l B RX11 cX11_reach 14 p s m args c) (hr : meth.sig.returnType = (some .long)) (hk : meth.locks = false) (hn : meth.name = "reach") : ∀ q ∈ tb_X11_reach, mSnd l B 14 p e (mRm 9 0 0) s m args below meth c (MQ below (mPo B Q) args s 0 0 (mA B)) (fun r h' => (h'.1.2.1 ≤ 0 ∧ h'.1.2.2 ≤ 0) ∧ Q r h') q.2 q.1 := mFA (sd_X11_reach_c0 l B p e s m args below meth c Q X hr hk hn) (sd_X11_reach_c1 l B p e s m args below meth c Q X hr hk hn)
theorem me_X11_reach (l : Launch) (B : mBs) : mMet l B yX11_reach cX11_reach 14 (some .long) 9 0 0 C_X11_reach := mMet_of (own := RX11) (by decide) rfl (fun p e s m args below meth c Q X hr hk hn => sd_X11_reach l B p e s m args below meth c Q X hr hk hn)
/-! PuppetStageModel.side(JJJJJJ)I: 30 instructions, depth 0, makes 0 cells of 0 slots -/
def tb_X11_side : mTb := [(0, aLL 4 2), (2, aLL 0 3), (3, aBL (fun x y => x - y) 4), (4, aLL 10 6), (6, aLL 2 7), (7, aBL (fun x y => x - y) 8), (8, aBL (fun x y => x * y) 9), (9, aLL 6 11), (11, aLL 2 12), (12, aBL (fun x y => x - y) 13), (13, aLL 8 15), (15, aLL 0 16), (16, aBL (fun x y => x - y) 17), (17, aBL (fun x y => x * y) 18), (18, aBL (fun x y => x - y) 19), (19, aSL 12 21), (21, aLL 12 23), (23, aPL 0 24), (24, aCmp 25), (25, aIf (fun x => 0 ≤ x) 32 28), (28, aPI (-1) 29), (29, aGo 44), (32, aLL 12 34), (34, aPL 0 35), (35, aCmp 36), (36, aIf (fun x => x ≤ 0) 43 39), (39, aPI 1 40), (40, aGo 44), (43, aPI 0 44), (44, aRI)]
theorem mt_X11_side : mMT tb_X11_side :=
  mF (mn_LL _ _) <|
  mF (mn_LL _ _) <|
  mF (mn_BL _ _) <|
  mF (mn_LL _ _) <|
  mF (mn_LL _ _) <|
  mF (mn_BL _ _) <|
  mF (mn_BL _ _) <|
  mF (mn_LL _ _) <|
  mF (mn_LL _ _) <|
  mF (mn_BL _ _) <|
  mF (mn_LL _ _) <|
  mF (mn_LL _ _) <|
  mF (mn_BL _ _) <|
  mF (mn_BL _ _) <|
  mF (mn_BL _ _) <|
  mF (mn_SL _ _) <|
  mF (mn_LL _ _) <|
  mF (mn_PL _ _) <|
  mF (mn_Cmp _) <|
  mF (mn_If _ _ _) <|
  mF (mn_PI _ _) <|
  mF (mn_Go _) <|
  mF (mn_LL _ _) <|
  mF (mn_PL _ _) <|
  mF (mn_Cmp _) <|
  mF (mn_If _ _ _) <|
  mF (mn_PI _ _) <|
  mF (mn_Go _) <|
  mF (mn_PI _ _) <|
  mF (mn_RI) <|
  mF0
def C_X11_side : mCo := mRun tb_X11_side 14
theorem mc_X11_side : mMC C_X11_side := mRun_mn mt_X11_side 14
theorem yi_X11_side : mYin yX11_side cX11_side 14 (some .int) 6 := ⟨wd_60, wd_1264, by decide +kernel, by decide⟩
set_option maxRecDepth 100000 in
set_option maxHeartbeats 4000000 in
theorem sd_X11_side (l : Launch) (B : mBs) (p : Program) (e : Env) (s : State) (m : MethodId) (args : Array Value) (below : List Frame) (meth : Method) (c : Code) (Q : mQo) (X : mCx l B RX11 cX11_side 14 p s m args c) (hr : meth.sig.returnType = (some .int)) (hk : meth.locks = false) (hn : meth.name = "side") : ∀ q ∈ tb_X11_side, mSnd l B 14 p e (mRm 0 0 0) s m args below meth c (MQ below (mPo B Q) args s 0 0 (mA B)) (fun r h' => (h'.1.2.1 ≤ 0 ∧ h'.1.2.2 ≤ 0) ∧ Q r h') q.2 q.1 :=
  mF (sn_lload (pc := 0) X (by decide +kernel)) <|
  mF (sn_lload_n (pc := 2) (j := 0) X (by decide +kernel) rfl) <|
  mF (sn_lsub (pc := 3) X (by decide +kernel)) <|
  mF (sn_lload (pc := 4) X (by decide +kernel)) <|
  mF (sn_lload_n (pc := 6) (j := 2) X (by decide +kernel) rfl) <|
  mF (sn_lsub (pc := 7) X (by decide +kernel)) <|
  mF (sn_lmul (pc := 8) X (by decide +kernel)) <|
  mF (sn_lload (pc := 9) X (by decide +kernel)) <|
  mF (sn_lload_n (pc := 11) (j := 2) X (by decide +kernel) rfl) <|
  mF (sn_lsub (pc := 12) X (by decide +kernel)) <|
  mF (sn_lload (pc := 13) X (by decide +kernel)) <|
  mF (sn_lload_n (pc := 15) (j := 0) X (by decide +kernel) rfl) <|
  mF (sn_lsub (pc := 16) X (by decide +kernel)) <|
  mF (sn_lmul (pc := 17) X (by decide +kernel)) <|
  mF (sn_lsub (pc := 18) X (by decide +kernel)) <|
  mF (sn_lstore (pc := 19) X (by decide +kernel) (by decide)) <|
  mF (sn_lload (pc := 21) X (by decide +kernel)) <|
  mF (sn_lconst (pc := 23) (n := 0) X (by decide +kernel) (by decide)) <|
  mF (sn_lcmp (pc := 24) X (by decide +kernel)) <|
  mF (sn_if_ge (pc := 25) (off := 7) X (by decide +kernel) (by decide)) <|
  mF (sn_iconst (pc := 28) (n := (-1)) X (by decide +kernel) (by decide)) <|
  mF (sn_goto (pc := 29) (off := 15) X (by decide +kernel) (by decide)) <|
  mF (sn_lload (pc := 32) X (by decide +kernel)) <|
  mF (sn_lconst (pc := 34) (n := 0) X (by decide +kernel) (by decide)) <|
  mF (sn_lcmp (pc := 35) X (by decide +kernel)) <|
  mF (sn_if_le (pc := 36) (off := 7) X (by decide +kernel) (by decide)) <|
  mF (sn_iconst (pc := 39) (n := 1) X (by decide +kernel) (by decide)) <|
  mF (sn_goto (pc := 40) (off := 4) X (by decide +kernel) (by decide)) <|
  mF (sn_iconst (pc := 43) (n := 0) X (by decide +kernel) (by decide)) <|
  mF (sn_iret (pc := 44) X hr hk (by decide +kernel)) <|
  mF0
theorem me_X11_side (l : Launch) (B : mBs) : mMet l B yX11_side cX11_side 14 (some .int) 0 0 0 C_X11_side := mMet_of (own := RX11) (by decide) rfl (fun p e s m args below meth c Q X hr hk hn => sd_X11_side l B p e s m args below meth c Q X hr hk hn)
/-! PuppetStageModel.crosses()Z: 60 instructions, depth 1, makes 0 cells of 0 slots -/
def tb_X11_crosses : mTb := [(0, aLA 0 1), (1, aGL 11 14 4), (4, aLA 0 5), (5, aGL 11 15 8), (8, aLA 0 9), (9, aGL 11 16 12), (12, aLA 0 13), (13, aGL 11 17 16), (16, aLA 0 17), (17, aGL 11 18 20), (20, aLA 0 21), (21, aGL 11 19 24), (24, aCS 6 C_X11_side 27), (27, aLA 0 28), (28, aGL 11 14 31), (31, aLA 0 32), (32, aGL 11 15 35), (35, aLA 0 36), (36, aGL 11 16 39), (39, aLA 0 40), (40, aGL 11 17 43), (43, aLA 0 44), (44, aGL 11 20 47), (47, aLA 0 48), (48, aGL 11 21 51), (51, aCS 6 C_X11_side 54), (54, aB (fun x y => x * y) 55), (55, aIf (fun x => 0 ≤ x) 120 58), (58, aLA 0 59), (59, aGL 11 18 62), (62, aLA 0 63), (63, aGL 11 19 66), (66, aLA 0 67), (67, aGL 11 20 70), (70, aLA 0 71), (71, aGL 11 21 74), (74, aLA 0 75), (75, aGL 11 14 78), (78, aLA 0 79), (79, aGL 11 15 82), (82, aCS 6 C_X11_side 85), (85, aLA 0 86), (86, aGL 11 18 89), (89, aLA 0 90), (90, aGL 11 19 93), (93, aLA 0 94), (94, aGL 11 20 97), (97, aLA 0 98), (98, aGL 11 21 101), (101, aLA 0 102), (102, aGL 11 16 105), (105, aLA 0 106), (106, aGL 11 17 109), (109, aCS 6 C_X11_side 112), (112, aB (fun x y => x * y) 113), (113, aIf (fun x => 0 ≤ x) 120 116), (116, aPI 1 117), (117, aGo 121), (120, aPI 0 121), (121, aRZ)]
theorem mt_X11_crosses : mMT tb_X11_crosses :=
  mF (mn_LA _ _) <|
  mF (mn_GL _ _ _) <|
  mF (mn_LA _ _) <|
  mF (mn_GL _ _ _) <|
  mF (mn_LA _ _) <|
  mF (mn_GL _ _ _) <|
  mF (mn_LA _ _) <|
  mF (mn_GL _ _ _) <|
  mF (mn_LA _ _) <|
  mF (mn_GL _ _ _) <|
  mF (mn_LA _ _) <|
  mF (mn_GL _ _ _) <|
  mF (mn_CS _ mc_X11_side _) <|
  mF (mn_LA _ _) <|
  mF (mn_GL _ _ _) <|
  mF (mn_LA _ _) <|
  mF (mn_GL _ _ _) <|
  mF (mn_LA _ _) <|
  mF (mn_GL _ _ _) <|
  mF (mn_LA _ _) <|
  mF (mn_GL _ _ _) <|
  mF (mn_LA _ _) <|
  mF (mn_GL _ _ _) <|
  mF (mn_LA _ _) <|
  mF (mn_GL _ _ _) <|
  mF (mn_CS _ mc_X11_side _) <|
  mF (mn_B _ _) <|
  mF (mn_If _ _ _) <|
  mF (mn_LA _ _) <|
  mF (mn_GL _ _ _) <|
  mF (mn_LA _ _) <|
  mF (mn_GL _ _ _) <|
  mF (mn_LA _ _) <|
  mF (mn_GL _ _ _) <|
  mF (mn_LA _ _) <|
  mF (mn_GL _ _ _) <|
  mF (mn_LA _ _) <|
  mF (mn_GL _ _ _) <|
  mF (mn_LA _ _) <|
  mF (mn_GL _ _ _) <|
  mF (mn_CS _ mc_X11_side _) <|
  mF (mn_LA _ _) <|
  mF (mn_GL _ _ _) <|
  mF (mn_LA _ _) <|
  mF (mn_GL _ _ _) <|
  mF (mn_LA _ _) <|
  mF (mn_GL _ _ _) <|
  mF (mn_LA _ _) <|
  mF (mn_GL _ _ _) <|
  mF (mn_LA _ _) <|
  mF (mn_GL _ _ _) <|
  mF (mn_LA _ _) <|
  mF (mn_GL _ _ _) <|
  mF (mn_CS _ mc_X11_side _) <|
  mF (mn_B _ _) <|
  mF (mn_If _ _ _) <|
  mF (mn_PI _ _) <|
  mF (mn_Go _) <|
  mF (mn_PI _ _) <|
  mF (mn_RZ) <|
  mF0
def C_X11_crosses : mCo := mRun tb_X11_crosses 1
theorem mc_X11_crosses : mMC C_X11_crosses := mRun_mn mt_X11_crosses 1
theorem yi_X11_crosses : mYin yX11_crosses cX11_crosses 1 (some .boolean) 0 := ⟨wd_60, wd_1261, by decide +kernel, by decide⟩
set_option maxRecDepth 100000 in
set_option maxHeartbeats 4000000 in
theorem sd_X11_crosses (l : Launch) (B : mBs) (p : Program) (e : Env) (s : State) (m : MethodId) (args : Array Value) (below : List Frame) (meth : Method) (c : Code) (Q : mQo) (X : mCx l B RX11 cX11_crosses 1 p s m args c) (hr : meth.sig.returnType = (some .boolean)) (hk : meth.locks = false) (hn : meth.name = "crosses") : ∀ q ∈ tb_X11_crosses, mSnd l B 1 p e (mRm 1 0 0) s m args below meth c (MQ below (mPo B Q) args s 0 0 (mA B)) (fun r h' => (h'.1.2.1 ≤ 0 ∧ h'.1.2.2 ≤ 0) ∧ Q r h') q.2 q.1 :=
  mF (sn_aload_n (pc := 0) (j := 0) X (by decide +kernel) rfl) <|
  mF (sn_getL (pc := 1) X fd_X11_204 (by decide +kernel)) <|
  mF (sn_aload_n (pc := 4) (j := 0) X (by decide +kernel) rfl) <|
  mF (sn_getL (pc := 5) X fd_X11_207 (by decide +kernel)) <|
  mF (sn_aload_n (pc := 8) (j := 0) X (by decide +kernel) rfl) <|
  mF (sn_getL (pc := 9) X fd_X11_210 (by decide +kernel)) <|
  mF (sn_aload_n (pc := 12) (j := 0) X (by decide +kernel) rfl) <|
  mF (sn_getL (pc := 13) X fd_X11_213 (by decide +kernel)) <|
  mF (sn_aload_n (pc := 16) (j := 0) X (by decide +kernel) rfl) <|
  mF (sn_getL (pc := 17) X fd_X11_216 (by decide +kernel)) <|
  mF (sn_aload_n (pc := 20) (j := 0) X (by decide +kernel) rfl) <|
  mF (sn_getL (pc := 21) X fd_X11_219 (by decide +kernel)) <|
  mF (sn_callS (pc := 24) X mc_X11_side (me_X11_side l B) yi_X11_side wd_1262 wd_1263 (by decide) (by decide +kernel)) <|
  mF (sn_aload_n (pc := 27) (j := 0) X (by decide +kernel) rfl) <|
  mF (sn_getL (pc := 28) X fd_X11_204 (by decide +kernel)) <|
  mF (sn_aload_n (pc := 31) (j := 0) X (by decide +kernel) rfl) <|
  mF (sn_getL (pc := 32) X fd_X11_207 (by decide +kernel)) <|
  mF (sn_aload_n (pc := 35) (j := 0) X (by decide +kernel) rfl) <|
  mF (sn_getL (pc := 36) X fd_X11_210 (by decide +kernel)) <|
  mF (sn_aload_n (pc := 39) (j := 0) X (by decide +kernel) rfl) <|
  mF (sn_getL (pc := 40) X fd_X11_213 (by decide +kernel)) <|
  mF (sn_aload_n (pc := 43) (j := 0) X (by decide +kernel) rfl) <|
  mF (sn_getL (pc := 44) X fd_X11_226 (by decide +kernel)) <|
  mF (sn_aload_n (pc := 47) (j := 0) X (by decide +kernel) rfl) <|
  mF (sn_getL (pc := 48) X fd_X11_229 (by decide +kernel)) <|
  mF (sn_callS (pc := 51) X mc_X11_side (me_X11_side l B) yi_X11_side wd_1262 wd_1263 (by decide) (by decide +kernel)) <|
  mF (sn_imul (pc := 54) X (by decide +kernel)) <|
  mF (sn_if_ge (pc := 55) (off := 65) X (by decide +kernel) (by decide)) <|
  mF (sn_aload_n (pc := 58) (j := 0) X (by decide +kernel) rfl) <|
  mF (sn_getL (pc := 59) X fd_X11_216 (by decide +kernel)) <|
  mF (sn_aload_n (pc := 62) (j := 0) X (by decide +kernel) rfl) <|
  mF (sn_getL (pc := 63) X fd_X11_219 (by decide +kernel)) <|
  mF (sn_aload_n (pc := 66) (j := 0) X (by decide +kernel) rfl) <|
  mF (sn_getL (pc := 67) X fd_X11_226 (by decide +kernel)) <|
  mF (sn_aload_n (pc := 70) (j := 0) X (by decide +kernel) rfl) <|
  mF (sn_getL (pc := 71) X fd_X11_229 (by decide +kernel)) <|
  mF (sn_aload_n (pc := 74) (j := 0) X (by decide +kernel) rfl) <|
  mF (sn_getL (pc := 75) X fd_X11_204 (by decide +kernel)) <|
  mF (sn_aload_n (pc := 78) (j := 0) X (by decide +kernel) rfl) <|
  mF (sn_getL (pc := 79) X fd_X11_207 (by decide +kernel)) <|
  mF (sn_callS (pc := 82) X mc_X11_side (me_X11_side l B) yi_X11_side wd_1262 wd_1263 (by decide) (by decide +kernel)) <|
  mF (sn_aload_n (pc := 85) (j := 0) X (by decide +kernel) rfl) <|
  mF (sn_getL (pc := 86) X fd_X11_216 (by decide +kernel)) <|
  mF (sn_aload_n (pc := 89) (j := 0) X (by decide +kernel) rfl) <|
  mF (sn_getL (pc := 90) X fd_X11_219 (by decide +kernel)) <|
  mF (sn_aload_n (pc := 93) (j := 0) X (by decide +kernel) rfl) <|
  mF (sn_getL (pc := 94) X fd_X11_226 (by decide +kernel)) <|
  mF (sn_aload_n (pc := 97) (j := 0) X (by decide +kernel) rfl) <|
  mF (sn_getL (pc := 98) X fd_X11_229 (by decide +kernel)) <|
  mF (sn_aload_n (pc := 101) (j := 0) X (by decide +kernel) rfl) <|
  mF (sn_getL (pc := 102) X fd_X11_210 (by decide +kernel)) <|
  mF (sn_aload_n (pc := 105) (j := 0) X (by decide +kernel) rfl) <|
  mF (sn_getL (pc := 106) X fd_X11_213 (by decide +kernel)) <|
  mF (sn_callS (pc := 109) X mc_X11_side (me_X11_side l B) yi_X11_side wd_1262 wd_1263 (by decide) (by decide +kernel)) <|
  mF (sn_imul (pc := 112) X (by decide +kernel)) <|
  mF (sn_if_ge (pc := 113) (off := 7) X (by decide +kernel) (by decide)) <|
  mF (sn_iconst (pc := 116) (n := 1) X (by decide +kernel) (by decide)) <|
  mF (sn_goto (pc := 117) (off := 4) X (by decide +kernel) (by decide)) <|
  mF (sn_iconst (pc := 120) (n := 0) X (by decide +kernel) (by decide)) <|
  mF (sn_zret (pc := 121) X hr hk (by decide +kernel)) <|
  mF0
theorem me_X11_crosses (l : Launch) (B : mBs) : mMet l B yX11_crosses cX11_crosses 1 (some .boolean) 1 0 0 C_X11_crosses := mMet_of (own := RX11) (by decide) rfl (fun p e s m args below meth c Q X hr hk hn => sd_X11_crosses l B p e s m args below meth c Q X hr hk hn)
/-! PuppetStageModel.isBetween(JJJ)Z: 20 instructions, depth 0, makes 0 cells of 0 slots -/
def tb_X11_isBetween : mTb := [(0, aLL 0 1), (1, aLL 2 2), (2, aCmp 3), (3, aIf (fun x => x < 0) 13 6), (6, aLL 0 7), (7, aLL 4 9), (9, aCmp 10), (10, aIf (fun x => x ≤ 0) 26 13), (13, aLL 0 14), (14, aLL 4 16), (16, aCmp 17), (17, aIf (fun x => x < 0) 30 20), (20, aLL 0 21), (21, aLL 2 22), (22, aCmp 23), (23, aIf (fun x => 0 < x) 30 26), (26, aPI 1 27), (27, aGo 31), (30, aPI 0 31), (31, aRZ)]
theorem mt_X11_isBetween : mMT tb_X11_isBetween :=
  mF (mn_LL _ _) <|
  mF (mn_LL _ _) <|
  mF (mn_Cmp _) <|
  mF (mn_If _ _ _) <|
  mF (mn_LL _ _) <|
  mF (mn_LL _ _) <|
  mF (mn_Cmp _) <|
  mF (mn_If _ _ _) <|
  mF (mn_LL _ _) <|
  mF (mn_LL _ _) <|
  mF (mn_Cmp _) <|
  mF (mn_If _ _ _) <|
  mF (mn_LL _ _) <|
  mF (mn_LL _ _) <|
  mF (mn_Cmp _) <|
  mF (mn_If _ _ _) <|
  mF (mn_PI _ _) <|
  mF (mn_Go _) <|
  mF (mn_PI _ _) <|
  mF (mn_RZ) <|
  mF0
def C_X11_isBetween : mCo := mRun tb_X11_isBetween 6
theorem mc_X11_isBetween : mMC C_X11_isBetween := mRun_mn mt_X11_isBetween 6
theorem yi_X11_isBetween : mYin yX11_isBetween cX11_isBetween 6 (some .boolean) 3 := ⟨wd_60, wd_1279, by decide +kernel, by decide⟩
set_option maxRecDepth 100000 in
set_option maxHeartbeats 4000000 in
theorem sd_X11_isBetween (l : Launch) (B : mBs) (p : Program) (e : Env) (s : State) (m : MethodId) (args : Array Value) (below : List Frame) (meth : Method) (c : Code) (Q : mQo) (X : mCx l B RX11 cX11_isBetween 6 p s m args c) (hr : meth.sig.returnType = (some .boolean)) (hk : meth.locks = false) (hn : meth.name = "isBetween") : ∀ q ∈ tb_X11_isBetween, mSnd l B 6 p e (mRm 0 0 0) s m args below meth c (MQ below (mPo B Q) args s 0 0 (mA B)) (fun r h' => (h'.1.2.1 ≤ 0 ∧ h'.1.2.2 ≤ 0) ∧ Q r h') q.2 q.1 :=
  mF (sn_lload_n (pc := 0) (j := 0) X (by decide +kernel) rfl) <|
  mF (sn_lload_n (pc := 1) (j := 2) X (by decide +kernel) rfl) <|
  mF (sn_lcmp (pc := 2) X (by decide +kernel)) <|
  mF (sn_if_lt (pc := 3) (off := 10) X (by decide +kernel) (by decide)) <|
  mF (sn_lload_n (pc := 6) (j := 0) X (by decide +kernel) rfl) <|
  mF (sn_lload (pc := 7) X (by decide +kernel)) <|
  mF (sn_lcmp (pc := 9) X (by decide +kernel)) <|
  mF (sn_if_le (pc := 10) (off := 16) X (by decide +kernel) (by decide)) <|
  mF (sn_lload_n (pc := 13) (j := 0) X (by decide +kernel) rfl) <|
  mF (sn_lload (pc := 14) X (by decide +kernel)) <|
  mF (sn_lcmp (pc := 16) X (by decide +kernel)) <|
  mF (sn_if_lt (pc := 17) (off := 13) X (by decide +kernel) (by decide)) <|
  mF (sn_lload_n (pc := 20) (j := 0) X (by decide +kernel) rfl) <|
  mF (sn_lload_n (pc := 21) (j := 2) X (by decide +kernel) rfl) <|
  mF (sn_lcmp (pc := 22) X (by decide +kernel)) <|
  mF (sn_if_gt (pc := 23) (off := 7) X (by decide +kernel) (by decide)) <|
  mF (sn_iconst (pc := 26) (n := 1) X (by decide +kernel) (by decide)) <|
  mF (sn_goto (pc := 27) (off := 4) X (by decide +kernel) (by decide)) <|
  mF (sn_iconst (pc := 30) (n := 0) X (by decide +kernel) (by decide)) <|
  mF (sn_zret (pc := 31) X hr hk (by decide +kernel)) <|
  mF0
theorem me_X11_isBetween (l : Launch) (B : mBs) : mMet l B yX11_isBetween cX11_isBetween 6 (some .boolean) 0 0 0 C_X11_isBetween := mMet_of (own := RX11) (by decide) rfl (fun p e s m args below meth c Q X hr hk hn => sd_X11_isBetween l B p e s m args below meth c Q X hr hk hn)
/-! PuppetStageModel.isOn(JJJJJJ)Z: 22 instructions, depth 1, makes 0 cells of 0 slots -/
def tb_X11_isOn : mTb := [(0, aLL 0 1), (1, aLL 2 2), (2, aLL 4 4), (4, aLL 6 6), (6, aLL 8 8), (8, aLL 10 10), (10, aCS 6 C_X11_side 13), (13, aIf (fun x => x = 0) 16 42), (16, aLL 8 18), (18, aLL 0 19), (19, aLL 4 21), (21, aCS 3 C_X11_isBetween 24), (24, aIf (fun x => x = 0) 42 27), (27, aLL 10 29), (29, aLL 2 30), (30, aLL 6 32), (32, aCS 3 C_X11_isBetween 35), (35, aIf (fun x => x = 0) 42 38), (38, aPI 1 39), (39, aGo 43), (42, aPI 0 43), (43, aRZ)]
theorem mt_X11_isOn : mMT tb_X11_isOn :=
  mF (mn_LL _ _) <|
  mF (mn_LL _ _) <|
  mF (mn_LL _ _) <|
  mF (mn_LL _ _) <|
  mF (mn_LL _ _) <|
  mF (mn_LL _ _) <|
  mF (mn_CS _ mc_X11_side _) <|
  mF (mn_If _ _ _) <|
  mF (mn_LL _ _) <|
  mF (mn_LL _ _) <|
  mF (mn_LL _ _) <|
  mF (mn_CS _ mc_X11_isBetween _) <|
  mF (mn_If _ _ _) <|
  mF (mn_LL _ _) <|
  mF (mn_LL _ _) <|
  mF (mn_LL _ _) <|
  mF (mn_CS _ mc_X11_isBetween _) <|
  mF (mn_If _ _ _) <|
  mF (mn_PI _ _) <|
  mF (mn_Go _) <|
  mF (mn_PI _ _) <|
  mF (mn_RZ) <|
  mF0
def C_X11_isOn : mCo := mRun tb_X11_isOn 12
theorem mc_X11_isOn : mMC C_X11_isOn := mRun_mn mt_X11_isOn 12
theorem yi_X11_isOn : mYin yX11_isOn cX11_isOn 12 (some .boolean) 6 := ⟨wd_60, wd_1276, by decide +kernel, by decide⟩
set_option maxRecDepth 100000 in
set_option maxHeartbeats 4000000 in
theorem sd_X11_isOn (l : Launch) (B : mBs) (p : Program) (e : Env) (s : State) (m : MethodId) (args : Array Value) (below : List Frame) (meth : Method) (c : Code) (Q : mQo) (X : mCx l B RX11 cX11_isOn 12 p s m args c) (hr : meth.sig.returnType = (some .boolean)) (hk : meth.locks = false) (hn : meth.name = "isOn") : ∀ q ∈ tb_X11_isOn, mSnd l B 12 p e (mRm 1 0 0) s m args below meth c (MQ below (mPo B Q) args s 0 0 (mA B)) (fun r h' => (h'.1.2.1 ≤ 0 ∧ h'.1.2.2 ≤ 0) ∧ Q r h') q.2 q.1 :=
  mF (sn_lload_n (pc := 0) (j := 0) X (by decide +kernel) rfl) <|
  mF (sn_lload_n (pc := 1) (j := 2) X (by decide +kernel) rfl) <|
  mF (sn_lload (pc := 2) X (by decide +kernel)) <|
  mF (sn_lload (pc := 4) X (by decide +kernel)) <|
  mF (sn_lload (pc := 6) X (by decide +kernel)) <|
  mF (sn_lload (pc := 8) X (by decide +kernel)) <|
  mF (sn_callS (pc := 10) X mc_X11_side (me_X11_side l B) yi_X11_side wd_1262 wd_1263 (by decide) (by decide +kernel)) <|
  mF (sn_if_ne (pc := 13) (off := 29) X (by decide +kernel) (by decide)) <|
  mF (sn_lload (pc := 16) X (by decide +kernel)) <|
  mF (sn_lload_n (pc := 18) (j := 0) X (by decide +kernel) rfl) <|
  mF (sn_lload (pc := 19) X (by decide +kernel)) <|
  mF (sn_callS (pc := 21) X mc_X11_isBetween (me_X11_isBetween l B) yi_X11_isBetween wd_1277 wd_1278 (by decide) (by decide +kernel)) <|
  mF (sn_if_eq (pc := 24) (off := 18) X (by decide +kernel) (by decide)) <|
  mF (sn_lload (pc := 27) X (by decide +kernel)) <|
  mF (sn_lload_n (pc := 29) (j := 2) X (by decide +kernel) rfl) <|
  mF (sn_lload (pc := 30) X (by decide +kernel)) <|
  mF (sn_callS (pc := 32) X mc_X11_isBetween (me_X11_isBetween l B) yi_X11_isBetween wd_1277 wd_1278 (by decide) (by decide +kernel)) <|
  mF (sn_if_eq (pc := 35) (off := 7) X (by decide +kernel) (by decide)) <|
  mF (sn_iconst (pc := 38) (n := 1) X (by decide +kernel) (by decide)) <|
  mF (sn_goto (pc := 39) (off := 4) X (by decide +kernel) (by decide)) <|
  mF (sn_iconst (pc := 42) (n := 0) X (by decide +kernel) (by decide)) <|
  mF (sn_zret (pc := 43) X hr hk (by decide +kernel)) <|
  mF0
theorem me_X11_isOn (l : Launch) (B : mBs) : mMet l B yX11_isOn cX11_isOn 12 (some .boolean) 1 0 0 C_X11_isOn := mMet_of (own := RX11) (by decide) rfl (fun p e s m args below meth c Q X hr hk hn => sd_X11_isOn l B p e s m args below meth c Q X hr hk hn)
/-! PuppetStageModel.meets()Z: 63 instructions, depth 2, makes 0 cells of 0 slots -/
def tb_X11_meets : mTb := [(0, aLA 0 1), (1, aCV 11 0 C_X11_crosses 4), (4, aIf (fun x => x = 0) 7 127), (7, aLA 0 8), (8, aGL 11 14 11), (11, aLA 0 12), (12, aGL 11 15 15), (15, aLA 0 16), (16, aGL 11 16 19), (19, aLA 0 20), (20, aGL 11 17 23), (23, aLA 0 24), (24, aGL 11 18 27), (27, aLA 0 28), (28, aGL 11 19 31), (31, aCS 6 C_X11_isOn 34), (34, aIf (fun x => x = 0) 37 127), (37, aLA 0 38), (38, aGL 11 14 41), (41, aLA 0 42), (42, aGL 11 15 45), (45, aLA 0 46), (46, aGL 11 16 49), (49, aLA 0 50), (50, aGL 11 17 53), (53, aLA 0 54), (54, aGL 11 20 57), (57, aLA 0 58), (58, aGL 11 21 61), (61, aCS 6 C_X11_isOn 64), (64, aIf (fun x => x = 0) 67 127), (67, aLA 0 68), (68, aGL 11 18 71), (71, aLA 0 72), (72, aGL 11 19 75), (75, aLA 0 76), (76, aGL 11 20 79), (79, aLA 0 80), (80, aGL 11 21 83), (83, aLA 0 84), (84, aGL 11 14 87), (87, aLA 0 88), (88, aGL 11 15 91), (91, aCS 6 C_X11_isOn 94), (94, aIf (fun x => x = 0) 97 127), (97, aLA 0 98), (98, aGL 11 18 101), (101, aLA 0 102), (102, aGL 11 19 105), (105, aLA 0 106), (106, aGL 11 20 109), (109, aLA 0 110), (110, aGL 11 21 113), (113, aLA 0 114), (114, aGL 11 16 117), (117, aLA 0 118), (118, aGL 11 17 121), (121, aCS 6 C_X11_isOn 124), (124, aIf (fun x => x = 0) 131 127), (127, aPI 1 128), (128, aGo 132), (131, aPI 0 132), (132, aRZ)]
theorem mt_X11_meets : mMT tb_X11_meets :=
  mF (mn_LA _ _) <|
  mF (mn_CV _ _ mc_X11_crosses _) <|
  mF (mn_If _ _ _) <|
  mF (mn_LA _ _) <|
  mF (mn_GL _ _ _) <|
  mF (mn_LA _ _) <|
  mF (mn_GL _ _ _) <|
  mF (mn_LA _ _) <|
  mF (mn_GL _ _ _) <|
  mF (mn_LA _ _) <|
  mF (mn_GL _ _ _) <|
  mF (mn_LA _ _) <|
  mF (mn_GL _ _ _) <|
  mF (mn_LA _ _) <|
  mF (mn_GL _ _ _) <|
  mF (mn_CS _ mc_X11_isOn _) <|
  mF (mn_If _ _ _) <|
  mF (mn_LA _ _) <|
  mF (mn_GL _ _ _) <|
  mF (mn_LA _ _) <|
  mF (mn_GL _ _ _) <|
  mF (mn_LA _ _) <|
  mF (mn_GL _ _ _) <|
  mF (mn_LA _ _) <|
  mF (mn_GL _ _ _) <|
  mF (mn_LA _ _) <|
  mF (mn_GL _ _ _) <|
  mF (mn_LA _ _) <|
  mF (mn_GL _ _ _) <|
  mF (mn_CS _ mc_X11_isOn _) <|
  mF (mn_If _ _ _) <|
  mF (mn_LA _ _) <|
  mF (mn_GL _ _ _) <|
  mF (mn_LA _ _) <|
  mF (mn_GL _ _ _) <|
  mF (mn_LA _ _) <|
  mF (mn_GL _ _ _) <|
  mF (mn_LA _ _) <|
  mF (mn_GL _ _ _) <|
  mF (mn_LA _ _) <|
  mF (mn_GL _ _ _) <|
  mF (mn_LA _ _) <|
  mF (mn_GL _ _ _) <|
  mF (mn_CS _ mc_X11_isOn _) <|
  mF (mn_If _ _ _) <|
  mF (mn_LA _ _) <|
  mF (mn_GL _ _ _) <|
  mF (mn_LA _ _) <|
  mF (mn_GL _ _ _) <|
  mF (mn_LA _ _) <|
  mF (mn_GL _ _ _) <|
  mF (mn_LA _ _) <|
  mF (mn_GL _ _ _) <|
  mF (mn_LA _ _) <|
  mF (mn_GL _ _ _) <|
  mF (mn_LA _ _) <|
  mF (mn_GL _ _ _) <|
  mF (mn_CS _ mc_X11_isOn _) <|
  mF (mn_If _ _ _) <|
  mF (mn_PI _ _) <|
  mF (mn_Go _) <|
  mF (mn_PI _ _) <|
  mF (mn_RZ) <|
  mF0
def C_X11_meets : mCo := mRun tb_X11_meets 1
theorem mc_X11_meets : mMC C_X11_meets := mRun_mn mt_X11_meets 1
theorem yi_X11_meets : mYin yX11_meets cX11_meets 1 (some .boolean) 0 := ⟨wd_60, wd_1273, by decide +kernel, by decide⟩
set_option maxRecDepth 100000 in
set_option maxHeartbeats 4000000 in
theorem sd_X11_meets (l : Launch) (B : mBs) (p : Program) (e : Env) (s : State) (m : MethodId) (args : Array Value) (below : List Frame) (meth : Method) (c : Code) (Q : mQo) (X : mCx l B RX11 cX11_meets 1 p s m args c) (hr : meth.sig.returnType = (some .boolean)) (hk : meth.locks = false) (hn : meth.name = "meets") : ∀ q ∈ tb_X11_meets, mSnd l B 1 p e (mRm 2 0 0) s m args below meth c (MQ below (mPo B Q) args s 0 0 (mA B)) (fun r h' => (h'.1.2.1 ≤ 0 ∧ h'.1.2.2 ≤ 0) ∧ Q r h') q.2 q.1 :=
  mF (sn_aload_n (pc := 0) (j := 0) X (by decide +kernel) rfl) <|
  mF (sn_callV (pc := 1) X mc_X11_crosses (me_X11_crosses l B) yi_X11_crosses wd_1258 wd_1260 wd_44 (T := TX11) (N := 22) rfl (by decide) (by decide +kernel)) <|
  mF (sn_if_ne (pc := 4) (off := 123) X (by decide +kernel) (by decide)) <|
  mF (sn_aload_n (pc := 7) (j := 0) X (by decide +kernel) rfl) <|
  mF (sn_getL (pc := 8) X fd_X11_204 (by decide +kernel)) <|
  mF (sn_aload_n (pc := 11) (j := 0) X (by decide +kernel) rfl) <|
  mF (sn_getL (pc := 12) X fd_X11_207 (by decide +kernel)) <|
  mF (sn_aload_n (pc := 15) (j := 0) X (by decide +kernel) rfl) <|
  mF (sn_getL (pc := 16) X fd_X11_210 (by decide +kernel)) <|
  mF (sn_aload_n (pc := 19) (j := 0) X (by decide +kernel) rfl) <|
  mF (sn_getL (pc := 20) X fd_X11_213 (by decide +kernel)) <|
  mF (sn_aload_n (pc := 23) (j := 0) X (by decide +kernel) rfl) <|
  mF (sn_getL (pc := 24) X fd_X11_216 (by decide +kernel)) <|
  mF (sn_aload_n (pc := 27) (j := 0) X (by decide +kernel) rfl) <|
  mF (sn_getL (pc := 28) X fd_X11_219 (by decide +kernel)) <|
  mF (sn_callS (pc := 31) X mc_X11_isOn (me_X11_isOn l B) yi_X11_isOn wd_1274 wd_1275 (by decide) (by decide +kernel)) <|
  mF (sn_if_ne (pc := 34) (off := 93) X (by decide +kernel) (by decide)) <|
  mF (sn_aload_n (pc := 37) (j := 0) X (by decide +kernel) rfl) <|
  mF (sn_getL (pc := 38) X fd_X11_204 (by decide +kernel)) <|
  mF (sn_aload_n (pc := 41) (j := 0) X (by decide +kernel) rfl) <|
  mF (sn_getL (pc := 42) X fd_X11_207 (by decide +kernel)) <|
  mF (sn_aload_n (pc := 45) (j := 0) X (by decide +kernel) rfl) <|
  mF (sn_getL (pc := 46) X fd_X11_210 (by decide +kernel)) <|
  mF (sn_aload_n (pc := 49) (j := 0) X (by decide +kernel) rfl) <|
  mF (sn_getL (pc := 50) X fd_X11_213 (by decide +kernel)) <|
  mF (sn_aload_n (pc := 53) (j := 0) X (by decide +kernel) rfl) <|
  mF (sn_getL (pc := 54) X fd_X11_226 (by decide +kernel)) <|
  mF (sn_aload_n (pc := 57) (j := 0) X (by decide +kernel) rfl) <|
  mF (sn_getL (pc := 58) X fd_X11_229 (by decide +kernel)) <|
  mF (sn_callS (pc := 61) X mc_X11_isOn (me_X11_isOn l B) yi_X11_isOn wd_1274 wd_1275 (by decide) (by decide +kernel)) <|
  mF (sn_if_ne (pc := 64) (off := 63) X (by decide +kernel) (by decide)) <|
  mF (sn_aload_n (pc := 67) (j := 0) X (by decide +kernel) rfl) <|
  mF (sn_getL (pc := 68) X fd_X11_216 (by decide +kernel)) <|
  mF (sn_aload_n (pc := 71) (j := 0) X (by decide +kernel) rfl) <|
  mF (sn_getL (pc := 72) X fd_X11_219 (by decide +kernel)) <|
  mF (sn_aload_n (pc := 75) (j := 0) X (by decide +kernel) rfl) <|
  mF (sn_getL (pc := 76) X fd_X11_226 (by decide +kernel)) <|
  mF (sn_aload_n (pc := 79) (j := 0) X (by decide +kernel) rfl) <|
  mF (sn_getL (pc := 80) X fd_X11_229 (by decide +kernel)) <|
  mF (sn_aload_n (pc := 83) (j := 0) X (by decide +kernel) rfl) <|
  mF (sn_getL (pc := 84) X fd_X11_204 (by decide +kernel)) <|
  mF (sn_aload_n (pc := 87) (j := 0) X (by decide +kernel) rfl) <|
  mF (sn_getL (pc := 88) X fd_X11_207 (by decide +kernel)) <|
  mF (sn_callS (pc := 91) X mc_X11_isOn (me_X11_isOn l B) yi_X11_isOn wd_1274 wd_1275 (by decide) (by decide +kernel)) <|
  mF (sn_if_ne (pc := 94) (off := 33) X (by decide +kernel) (by decide)) <|
  mF (sn_aload_n (pc := 97) (j := 0) X (by decide +kernel) rfl) <|
  mF (sn_getL (pc := 98) X fd_X11_216 (by decide +kernel)) <|
  mF (sn_aload_n (pc := 101) (j := 0) X (by decide +kernel) rfl) <|
  mF (sn_getL (pc := 102) X fd_X11_219 (by decide +kernel)) <|
  mF (sn_aload_n (pc := 105) (j := 0) X (by decide +kernel) rfl) <|
  mF (sn_getL (pc := 106) X fd_X11_226 (by decide +kernel)) <|
  mF (sn_aload_n (pc := 109) (j := 0) X (by decide +kernel) rfl) <|
  mF (sn_getL (pc := 110) X fd_X11_229 (by decide +kernel)) <|
  mF (sn_aload_n (pc := 113) (j := 0) X (by decide +kernel) rfl) <|
  mF (sn_getL (pc := 114) X fd_X11_210 (by decide +kernel)) <|
  mF (sn_aload_n (pc := 117) (j := 0) X (by decide +kernel) rfl) <|
  mF (sn_getL (pc := 118) X fd_X11_213 (by decide +kernel)) <|
  mF (sn_callS (pc := 121) X mc_X11_isOn (me_X11_isOn l B) yi_X11_isOn wd_1274 wd_1275 (by decide) (by decide +kernel)) <|
  mF (sn_if_eq (pc := 124) (off := 7) X (by decide +kernel) (by decide)) <|
  mF (sn_iconst (pc := 127) (n := 1) X (by decide +kernel) (by decide)) <|
  mF (sn_goto (pc := 128) (off := 4) X (by decide +kernel) (by decide)) <|
  mF (sn_iconst (pc := 131) (n := 0) X (by decide +kernel) (by decide)) <|
  mF (sn_zret (pc := 132) X hr hk (by decide +kernel)) <|
  mF0
theorem me_X11_meets (l : Launch) (B : mBs) : mMet l B yX11_meets cX11_meets 1 (some .boolean) 2 0 0 C_X11_meets := mMet_of (own := RX11) (by decide) rfl (fun p e s m args below meth c Q X hr hk hn => sd_X11_meets l B p e s m args below meth c Q X hr hk hn)
/-! PuppetStageModel.lineA(II)V: 51 instructions, depth 2, makes 0 cells of 0 slots -/
def tb_X11_lineA : mTb := [(0, aLA 0 1), (1, aLA 0 2), (2, aLI 1 3), (3, aLA 0 4), (4, aLI 1 5), (5, aLI 2 6), (6, aPI 3 7), (7, aCV 11 3 C_X11_of 10), (10, aCV 11 2 C_X11_barX 13), (13, aWL 11 14 16), (16, aLA 0 17), (17, aLA 0 18), (18, aLI 1 19), (19, aLA 0 20), (20, aLI 1 21), (21, aLI 2 22), (22, aPI 3 23), (23, aCV 11 3 C_X11_of 26), (26, aCV 11 2 C_X11_barY 29), (29, aWL 11 15 32), (32, aLA 0 33), (33, aLA 0 34), (34, aLI 1 35), (35, aLA 0 36), (36, aLI 1 37), (37, aLI 2 38), (38, aPI 1 39), (39, aCV 11 3 C_X11_of 42), (42, aLA 0 43), (43, aLI 1 44), (44, aLI 2 45), (45, aPI 2 46), (46, aCV 11 3 C_X11_of 49), (49, aCV 11 3 C_X11_spotX 52), (52, aWL 11 16 55), (55, aLA 0 56), (56, aLA 0 57), (57, aLI 1 58), (58, aLA 0 59), (59, aLI 1 60), (60, aLI 2 61), (61, aPI 1 62), (62, aCV 11 3 C_X11_of 65), (65, aLA 0 66), (66, aLI 1 67), (67, aLI 2 68), (68, aPI 2 69), (69, aCV 11 3 C_X11_of 72), (72, aCV 11 3 C_X11_spotY 75), (75, aWL 11 17 78), (78, aRV)]
theorem mt_X11_lineA : mMT tb_X11_lineA :=
  mF (mn_LA _ _) <|
  mF (mn_LA _ _) <|
  mF (mn_LI _ _) <|
  mF (mn_LA _ _) <|
  mF (mn_LI _ _) <|
  mF (mn_LI _ _) <|
  mF (mn_PI _ _) <|
  mF (mn_CV _ _ mc_X11_of _) <|
  mF (mn_CV _ _ mc_X11_barX _) <|
  mF (mn_WL _ _ _) <|
  mF (mn_LA _ _) <|
  mF (mn_LA _ _) <|
  mF (mn_LI _ _) <|
  mF (mn_LA _ _) <|
  mF (mn_LI _ _) <|
  mF (mn_LI _ _) <|
  mF (mn_PI _ _) <|
  mF (mn_CV _ _ mc_X11_of _) <|
  mF (mn_CV _ _ mc_X11_barY _) <|
  mF (mn_WL _ _ _) <|
  mF (mn_LA _ _) <|
  mF (mn_LA _ _) <|
  mF (mn_LI _ _) <|
  mF (mn_LA _ _) <|
  mF (mn_LI _ _) <|
  mF (mn_LI _ _) <|
  mF (mn_PI _ _) <|
  mF (mn_CV _ _ mc_X11_of _) <|
  mF (mn_LA _ _) <|
  mF (mn_LI _ _) <|
  mF (mn_LI _ _) <|
  mF (mn_PI _ _) <|
  mF (mn_CV _ _ mc_X11_of _) <|
  mF (mn_CV _ _ mc_X11_spotX _) <|
  mF (mn_WL _ _ _) <|
  mF (mn_LA _ _) <|
  mF (mn_LA _ _) <|
  mF (mn_LI _ _) <|
  mF (mn_LA _ _) <|
  mF (mn_LI _ _) <|
  mF (mn_LI _ _) <|
  mF (mn_PI _ _) <|
  mF (mn_CV _ _ mc_X11_of _) <|
  mF (mn_LA _ _) <|
  mF (mn_LI _ _) <|
  mF (mn_LI _ _) <|
  mF (mn_PI _ _) <|
  mF (mn_CV _ _ mc_X11_of _) <|
  mF (mn_CV _ _ mc_X11_spotY _) <|
  mF (mn_WL _ _ _) <|
  mF (mn_RV) <|
  mF0
def C_X11_lineA : mCo := mRun tb_X11_lineA 3
theorem mc_X11_lineA : mMC C_X11_lineA := mRun_mn mt_X11_lineA 3
theorem yi_X11_lineA : mYin yX11_lineA cX11_lineA 3 none 2 := ⟨wd_60, wd_1257, by decide +kernel, by decide⟩
set_option maxRecDepth 100000 in
set_option maxHeartbeats 4000000 in
theorem sd_X11_lineA (l : Launch) (B : mBs) (p : Program) (e : Env) (s : State) (m : MethodId) (args : Array Value) (below : List Frame) (meth : Method) (c : Code) (Q : mQo) (X : mCx l B RX11 cX11_lineA 3 p s m args c) (hr : meth.sig.returnType = none) (hk : meth.locks = false) (hn : meth.name = "lineA") : ∀ q ∈ tb_X11_lineA, mSnd l B 3 p e (mRm 2 0 0) s m args below meth c (MQ below (mPo B Q) args s 0 0 (mA B)) (fun r h' => (h'.1.2.1 ≤ 0 ∧ h'.1.2.2 ≤ 0) ∧ Q r h') q.2 q.1 :=
  mF (sn_aload_n (pc := 0) (j := 0) X (by decide +kernel) rfl) <|
  mF (sn_aload_n (pc := 1) (j := 0) X (by decide +kernel) rfl) <|
  mF (sn_iload_n (pc := 2) (j := 1) X (by decide +kernel) rfl) <|
  mF (sn_aload_n (pc := 3) (j := 0) X (by decide +kernel) rfl) <|
  mF (sn_iload_n (pc := 4) (j := 1) X (by decide +kernel) rfl) <|
  mF (sn_iload_n (pc := 5) (j := 2) X (by decide +kernel) rfl) <|
  mF (sn_iconst (pc := 6) (n := 3) X (by decide +kernel) (by decide)) <|
  mF (sn_callV (pc := 7) X mc_X11_of (me_X11_of l B) yi_X11_of wd_1021 wd_1023 wd_17 (T := TX11) (N := 22) rfl (by decide) (by decide +kernel)) <|
  mF (sn_callV (pc := 10) X mc_X11_barX (me_X11_barX l B) yi_X11_barX wd_1112 wd_1114 wd_27 (T := TX11) (N := 22) rfl (by decide) (by decide +kernel)) <|
  mF (sn_putL (pc := 13) X fd_X11_204 ⟨tyX11_ok, nmX11⟩ rfl rfl (by decide +kernel)) <|
  mF (sn_aload_n (pc := 16) (j := 0) X (by decide +kernel) rfl) <|
  mF (sn_aload_n (pc := 17) (j := 0) X (by decide +kernel) rfl) <|
  mF (sn_iload_n (pc := 18) (j := 1) X (by decide +kernel) rfl) <|
  mF (sn_aload_n (pc := 19) (j := 0) X (by decide +kernel) rfl) <|
  mF (sn_iload_n (pc := 20) (j := 1) X (by decide +kernel) rfl) <|
  mF (sn_iload_n (pc := 21) (j := 2) X (by decide +kernel) rfl) <|
  mF (sn_iconst (pc := 22) (n := 3) X (by decide +kernel) (by decide)) <|
  mF (sn_callV (pc := 23) X mc_X11_of (me_X11_of l B) yi_X11_of wd_1021 wd_1023 wd_17 (T := TX11) (N := 22) rfl (by decide) (by decide +kernel)) <|
  mF (sn_callV (pc := 26) X mc_X11_barY (me_X11_barY l B) yi_X11_barY wd_1116 wd_1118 wd_28 (T := TX11) (N := 22) rfl (by decide) (by decide +kernel)) <|
  mF (sn_putL (pc := 29) X fd_X11_207 ⟨tyX11_ok, nmX11⟩ rfl rfl (by decide +kernel)) <|
  mF (sn_aload_n (pc := 32) (j := 0) X (by decide +kernel) rfl) <|
  mF (sn_aload_n (pc := 33) (j := 0) X (by decide +kernel) rfl) <|
  mF (sn_iload_n (pc := 34) (j := 1) X (by decide +kernel) rfl) <|
  mF (sn_aload_n (pc := 35) (j := 0) X (by decide +kernel) rfl) <|
  mF (sn_iload_n (pc := 36) (j := 1) X (by decide +kernel) rfl) <|
  mF (sn_iload_n (pc := 37) (j := 2) X (by decide +kernel) rfl) <|
  mF (sn_iconst (pc := 38) (n := 1) X (by decide +kernel) (by decide)) <|
  mF (sn_callV (pc := 39) X mc_X11_of (me_X11_of l B) yi_X11_of wd_1021 wd_1023 wd_17 (T := TX11) (N := 22) rfl (by decide) (by decide +kernel)) <|
  mF (sn_aload_n (pc := 42) (j := 0) X (by decide +kernel) rfl) <|
  mF (sn_iload_n (pc := 43) (j := 1) X (by decide +kernel) rfl) <|
  mF (sn_iload_n (pc := 44) (j := 2) X (by decide +kernel) rfl) <|
  mF (sn_iconst (pc := 45) (n := 2) X (by decide +kernel) (by decide)) <|
  mF (sn_callV (pc := 46) X mc_X11_of (me_X11_of l B) yi_X11_of wd_1021 wd_1023 wd_17 (T := TX11) (N := 22) rfl (by decide) (by decide +kernel)) <|
  mF (sn_callV (pc := 49) X mc_X11_spotX (me_X11_spotX l B) yi_X11_spotX wd_1088 wd_1090 wd_23 (T := TX11) (N := 22) rfl (by decide) (by decide +kernel)) <|
  mF (sn_putL (pc := 52) X fd_X11_210 ⟨tyX11_ok, nmX11⟩ rfl rfl (by decide +kernel)) <|
  mF (sn_aload_n (pc := 55) (j := 0) X (by decide +kernel) rfl) <|
  mF (sn_aload_n (pc := 56) (j := 0) X (by decide +kernel) rfl) <|
  mF (sn_iload_n (pc := 57) (j := 1) X (by decide +kernel) rfl) <|
  mF (sn_aload_n (pc := 58) (j := 0) X (by decide +kernel) rfl) <|
  mF (sn_iload_n (pc := 59) (j := 1) X (by decide +kernel) rfl) <|
  mF (sn_iload_n (pc := 60) (j := 2) X (by decide +kernel) rfl) <|
  mF (sn_iconst (pc := 61) (n := 1) X (by decide +kernel) (by decide)) <|
  mF (sn_callV (pc := 62) X mc_X11_of (me_X11_of l B) yi_X11_of wd_1021 wd_1023 wd_17 (T := TX11) (N := 22) rfl (by decide) (by decide +kernel)) <|
  mF (sn_aload_n (pc := 65) (j := 0) X (by decide +kernel) rfl) <|
  mF (sn_iload_n (pc := 66) (j := 1) X (by decide +kernel) rfl) <|
  mF (sn_iload_n (pc := 67) (j := 2) X (by decide +kernel) rfl) <|
  mF (sn_iconst (pc := 68) (n := 2) X (by decide +kernel) (by decide)) <|
  mF (sn_callV (pc := 69) X mc_X11_of (me_X11_of l B) yi_X11_of wd_1021 wd_1023 wd_17 (T := TX11) (N := 22) rfl (by decide) (by decide +kernel)) <|
  mF (sn_callV (pc := 72) X mc_X11_spotY (me_X11_spotY l B) yi_X11_spotY wd_1096 wd_1098 wd_25 (T := TX11) (N := 22) rfl (by decide) (by decide +kernel)) <|
  mF (sn_putL (pc := 75) X fd_X11_213 ⟨tyX11_ok, nmX11⟩ rfl rfl (by decide +kernel)) <|
  mF (sn_vret (pc := 78) X hr hk (by decide +kernel)) <|
  mF0
theorem me_X11_lineA (l : Launch) (B : mBs) : mMet l B yX11_lineA cX11_lineA 3 none 2 0 0 C_X11_lineA := mMet_of (own := RX11) (by decide) rfl (fun p e s m args below meth c Q X hr hk hn => sd_X11_lineA l B p e s m args below meth c Q X hr hk hn)
