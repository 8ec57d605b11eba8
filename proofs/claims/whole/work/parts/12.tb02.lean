/-! PuppetStage$Settler.tryTwo(LPuppetStage$Puppet;IIII)Z: 63 instructions, depth 4, makes 0 cells of 0 slots -/
def tb_X8_tryTwo : mTb := [(0, aLA 1 1), (1, aGR 7 0 4), (4, aGR 5 3 7), (7, aSA 6 9), (9, aLA 1 10), (10, aGR 7 1 13), (13, aLI 2 14), (14, aLA 6 16), (16, aLI 2 17), (17, aIA 18), (18, aLI 3 19), (19, aB (fun x y => x + y) 20), (20, aCV 9 2 C_X9_allow 23), (23, aIf (fun x => x = 0) 46 26), (26, aLA 1 27), (27, aGR 7 1 30), (30, aLI 4 32), (32, aLA 6 34), (34, aLI 4 36), (36, aIA 37), (37, aLI 5 39), (39, aB (fun x y => x + y) 40), (40, aCV 9 2 C_X9_allow 43), (43, aIf (fun x => x = 0) 46 48), (46, aPI 0 47), (47, aRZ), (48, aLA 6 50), (50, aLI 2 51), (51, aDup2 52), (52, aIA 53), (53, aLI 3 54), (54, aB (fun x y => x + y) 55), (55, aIS 56), (56, aLA 6 58), (58, aLI 4 60), (60, aDup2 61), (61, aIA 62), (62, aLI 5 64), (64, aB (fun x y => x + y) 65), (65, aIS 66), (66, aLA 0 67), (67, aGR 8 0 70), (70, aLA 1 71), (71, aCV 1 1 C_X1_isBetter 74), (74, aIf (fun x => x = 0) 79 77), (77, aPI 1 78), (78, aRZ), (79, aLA 6 81), (81, aLI 2 82), (82, aDup2 83), (83, aIA 84), (84, aLI 3 85), (85, aB (fun x y => x - y) 86), (86, aIS 87), (87, aLA 6 89), (89, aLI 4 91), (91, aDup2 92), (92, aIA 93), (93, aLI 5 95), (95, aB (fun x y => x - y) 96), (96, aIS 97), (97, aPI 0 98), (98, aRZ)]
theorem mt_X8_tryTwo : mMT tb_X8_tryTwo :=
  mF (mn_LA _ _) <|
  mF (mn_GR _ _ _) <|
  mF (mn_GR _ _ _) <|
  mF (mn_SA _ _) <|
  mF (mn_LA _ _) <|
  mF (mn_GR _ _ _) <|
  mF (mn_LI _ _) <|
  mF (mn_LA _ _) <|
  mF (mn_LI _ _) <|
  mF (mn_IA _) <|
  mF (mn_LI _ _) <|
  mF (mn_B _ _) <|
  mF (mn_CV _ _ mc_X9_allow _) <|
  mF (mn_If _ _ _) <|
  mF (mn_LA _ _) <|
  mF (mn_GR _ _ _) <|
  mF (mn_LI _ _) <|
  mF (mn_LA _ _) <|
  mF (mn_LI _ _) <|
  mF (mn_IA _) <|
  mF (mn_LI _ _) <|
  mF (mn_B _ _) <|
  mF (mn_CV _ _ mc_X9_allow _) <|
  mF (mn_If _ _ _) <|
  mF (mn_PI _ _) <|
  mF (mn_RZ) <|
  mF (mn_LA _ _) <|
  mF (mn_LI _ _) <|
  mF (mn_Dup2 _) <|
  mF (mn_IA _) <|
  mF (mn_LI _ _) <|
  mF (mn_B _ _) <|
  mF (mn_IS _) <|
  mF (mn_LA _ _) <|
  mF (mn_LI _ _) <|
  mF (mn_Dup2 _) <|
  mF (mn_IA _) <|
  mF (mn_LI _ _) <|
  mF (mn_B _ _) <|
  mF (mn_IS _) <|
  mF (mn_LA _ _) <|
  mF (mn_GR _ _ _) <|
  mF (mn_LA _ _) <|
  mF (mn_CV _ _ mc_X1_isBetter _) <|
  mF (mn_If _ _ _) <|
  mF (mn_PI _ _) <|
  mF (mn_RZ) <|
  mF (mn_LA _ _) <|
  mF (mn_LI _ _) <|
  mF (mn_Dup2 _) <|
  mF (mn_IA _) <|
  mF (mn_LI _ _) <|
  mF (mn_B _ _) <|
  mF (mn_IS _) <|
  mF (mn_LA _ _) <|
  mF (mn_LI _ _) <|
  mF (mn_Dup2 _) <|
  mF (mn_IA _) <|
  mF (mn_LI _ _) <|
  mF (mn_B _ _) <|
  mF (mn_IS _) <|
  mF (mn_PI _ _) <|
  mF (mn_RZ) <|
  mF0
def C_X8_tryTwo : mCo := mRun tb_X8_tryTwo 7
theorem mc_X8_tryTwo : mMC C_X8_tryTwo := mRun_mn mt_X8_tryTwo 7
theorem yi_X8_tryTwo : mYin yX8_tryTwo cX8_tryTwo 7 (some .boolean) 5 := ⟨wd_58, wd_744, by decide +kernel, by decide⟩
set_option maxRecDepth 100000 in
set_option maxHeartbeats 4000000 in
theorem sd_X8_tryTwo (l : Launch) (B : mBs) (p : Program) (e : Env) (s : State) (m : MethodId) (args : Array Value) (below : List Frame) (meth : Method) (c : Code) (Q : mQo) (X : mCx l B RX8 cX8_tryTwo 7 p s m args c) (hr : meth.sig.returnType = (some .boolean)) (hk : meth.locks = false) (hn : meth.name = "tryTwo") : ∀ q ∈ tb_X8_tryTwo, mSnd l B 7 p e (mRm 4 0 0) s m args below meth c (MQ below (mPo B Q) args s 0 0 (mA B)) (fun r h' => (h'.1.2.1 ≤ 0 ∧ h'.1.2.2 ≤ 0) ∧ Q r h') q.2 q.1 :=
  mF (sn_aload_n (pc := 0) (j := 1) X (by decide +kernel) rfl) <|
  mF (sn_getR (pc := 1) X fd_X8_37 (by decide +kernel)) <|
  mF (sn_getR (pc := 4) X fd_X8_54 (by decide +kernel)) <|
  mF (sn_astore (pc := 7) X (by decide +kernel) (by decide)) <|
  mF (sn_aload_n (pc := 9) (j := 1) X (by decide +kernel) rfl) <|
  mF (sn_getR (pc := 10) X fd_X8_58 (by decide +kernel)) <|
  mF (sn_iload_n (pc := 13) (j := 2) X (by decide +kernel) rfl) <|
  mF (sn_aload (pc := 14) X (by decide +kernel)) <|
  mF (sn_iload_n (pc := 16) (j := 2) X (by decide +kernel) rfl) <|
  mF (sn_iaload (pc := 17) X (by decide +kernel)) <|
  mF (sn_iload_n (pc := 18) (j := 3) X (by decide +kernel) rfl) <|
  mF (sn_iadd (pc := 19) X (by decide +kernel)) <|
  mF (sn_callV (pc := 20) X mc_X9_allow (me_X9_allow l B) yi_X9_allow wd_740 wd_434 wd_435 (T := TX9) (N := 3) rfl (by decide) (by decide +kernel)) <|
  mF (sn_if_eq (pc := 23) (off := 23) X (by decide +kernel) (by decide)) <|
  mF (sn_aload_n (pc := 26) (j := 1) X (by decide +kernel) rfl) <|
  mF (sn_getR (pc := 27) X fd_X8_58 (by decide +kernel)) <|
  mF (sn_iload (pc := 30) X (by decide +kernel)) <|
  mF (sn_aload (pc := 32) X (by decide +kernel)) <|
  mF (sn_iload (pc := 34) X (by decide +kernel)) <|
  mF (sn_iaload (pc := 36) X (by decide +kernel)) <|
  mF (sn_iload (pc := 37) X (by decide +kernel)) <|
  mF (sn_iadd (pc := 39) X (by decide +kernel)) <|
  mF (sn_callV (pc := 40) X mc_X9_allow (me_X9_allow l B) yi_X9_allow wd_740 wd_434 wd_435 (T := TX9) (N := 3) rfl (by decide) (by decide +kernel)) <|
  mF (sn_if_ne (pc := 43) (off := 5) X (by decide +kernel) (by decide)) <|
  mF (sn_iconst (pc := 46) (n := 0) X (by decide +kernel) (by decide)) <|
  mF (sn_zret (pc := 47) X hr hk (by decide +kernel)) <|
  mF (sn_aload (pc := 48) X (by decide +kernel)) <|
  mF (sn_iload_n (pc := 50) (j := 2) X (by decide +kernel) rfl) <|
  mF (sn_dup2 (pc := 51) X (by decide +kernel)) <|
  mF (sn_iaload (pc := 52) X (by decide +kernel)) <|
  mF (sn_iload_n (pc := 53) (j := 3) X (by decide +kernel) rfl) <|
  mF (sn_iadd (pc := 54) X (by decide +kernel)) <|
  mF (sn_iastore (pc := 55) X (by decide +kernel)) <|
  mF (sn_aload (pc := 56) X (by decide +kernel)) <|
  mF (sn_iload (pc := 58) X (by decide +kernel)) <|
  mF (sn_dup2 (pc := 60) X (by decide +kernel)) <|
  mF (sn_iaload (pc := 61) X (by decide +kernel)) <|
  mF (sn_iload (pc := 62) X (by decide +kernel)) <|
  mF (sn_iadd (pc := 64) X (by decide +kernel)) <|
  mF (sn_iastore (pc := 65) X (by decide +kernel)) <|
  mF (sn_aload_n (pc := 66) (j := 0) X (by decide +kernel) rfl) <|
  mF (sn_getR (pc := 67) X fd_X8_10 (by decide +kernel)) <|
  mF (sn_aload_n (pc := 70) (j := 1) X (by decide +kernel) rfl) <|
  mF (sn_callV (pc := 71) X mc_X1_isBetter (me_X1_isBetter l B) yi_X1_isBetter wd_725 wd_726 wd_727 (T := TX1) (N := 11) rfl (by decide) (by decide +kernel)) <|
  mF (sn_if_eq (pc := 74) (off := 5) X (by decide +kernel) (by decide)) <|
  mF (sn_iconst (pc := 77) (n := 1) X (by decide +kernel) (by decide)) <|
  mF (sn_zret (pc := 78) X hr hk (by decide +kernel)) <|
  mF (sn_aload (pc := 79) X (by decide +kernel)) <|
  mF (sn_iload_n (pc := 81) (j := 2) X (by decide +kernel) rfl) <|
  mF (sn_dup2 (pc := 82) X (by decide +kernel)) <|
  mF (sn_iaload (pc := 83) X (by decide +kernel)) <|
  mF (sn_iload_n (pc := 84) (j := 3) X (by decide +kernel) rfl) <|
  mF (sn_isub (pc := 85) X (by decide +kernel)) <|
  mF (sn_iastore (pc := 86) X (by decide +kernel)) <|
  mF (sn_aload (pc := 87) X (by decide +kernel)) <|
  mF (sn_iload (pc := 89) X (by decide +kernel)) <|
  mF (sn_dup2 (pc := 91) X (by decide +kernel)) <|
  mF (sn_iaload (pc := 92) X (by decide +kernel)) <|
  mF (sn_iload (pc := 93) X (by decide +kernel)) <|
  mF (sn_isub (pc := 95) X (by decide +kernel)) <|
  mF (sn_iastore (pc := 96) X (by decide +kernel)) <|
  mF (sn_iconst (pc := 97) (n := 0) X (by decide +kernel) (by decide)) <|
  mF (sn_zret (pc := 98) X hr hk (by decide +kernel)) <|
  mF0
theorem me_X8_tryTwo (l : Launch) (B : mBs) : mMet l B yX8_tryTwo cX8_tryTwo 7 (some .boolean) 4 0 0 C_X8_tryTwo := mMet_of (own := RX8) (by decide) rfl (fun p e s m args below meth c Q X hr hk hn => sd_X8_tryTwo l B p e s m args below meth c Q X hr hk hn)
/-! PuppetStage$Settler.stepBetter(LPuppetStage$Puppet;)Z: 89 instructions, depth 5, makes 0 cells of 0 slots -/
def tb_X8_stepBetter_c0 : mTb := [(0, aLA 1 1), (1, aGI 7 5 4), (4, aIf (fun x => x = 0) 7 11), (7, aPI 1 8), (8, aGo 12), (11, aPI (-1) 12), (12, aSI 2 13), (13, aLA 1 14), (14, aGR 7 0 17), (17, aGI 5 4 20), (20, aSI 3 21), (21, aPI 0 22), (22, aSI 4 24), (24, aLI 4 26), (26, aLI 3 27), (27, aIc (fun x y => y ≤ x) 61 30), (30, aLA 0 31), (31, aLA 1 32), (32, aLI 4 34), (34, aLI 2 35), (35, aCV 8 3 C_X8_tryOne 38), (38, aIf (fun x => x = 0) 41 53), (41, aLA 0 42), (42, aLA 1 43), (43, aLI 4 45), (45, aLI 2 46), (46, aU (fun x => -x) 47), (47, aCV 8 3 C_X8_tryOne 50), (50, aIf (fun x => x = 0) 55 53), (53, aPI 1 54), (54, aRZ), (55, aInc 4 1 58), (58, aGo 24), (61, aPI 0 62), (62, aSI 4 64), (64, aLI 4 66), (66, aLI 3 67), (67, aIc (fun x y => y ≤ x) 156 70), (70, aLI 4 72), (72, aPI 1 73), (73, aB (fun x y => x + y) 74), (74, aSI 5 76), (76, aLI 5 78), (78, aLI 3 79), (79, aIc (fun x y => y ≤ x) 150 82), (82, aLA 0 83), (83, aLA 1 84), (84, aLI 4 86), (86, aLI 2 87), (87, aLI 5 89), (89, aLI 2 90), (90, aCV 8 5 C_X8_tryTwo 93), (93, aIf (fun x => x = 0) 96 142), (96, aLA 0 97), (97, aLA 1 98), (98, aLI 4 100), (100, aLI 2 101), (101, aLI 5 103), (103, aLI 2 104), (104, aU (fun x => -x) 105), (105, aCV 8 5 C_X8_tryTwo 108), (108, aIf (fun x => x = 0) 111 142), (111, aLA 0 112), (112, aLA 1 113), (113, aLI 4 115), (115, aLI 2 116), (116, aU (fun x => -x) 117), (117, aLI 5 119), (119, aLI 2 120), (120, aCV 8 5 C_X8_tryTwo 123)]
theorem mt_X8_stepBetter_c0 : mMT tb_X8_stepBetter_c0 :=
  mF (mn_LA _ _) <|
  mF (mn_GI _ _ _) <|
  mF (mn_If _ _ _) <|
  mF (mn_PI _ _) <|
  mF (mn_Go _) <|
  mF (mn_PI _ _) <|
  mF (mn_SI _ _) <|
  mF (mn_LA _ _) <|
  mF (mn_GR _ _ _) <|
  mF (mn_GI _ _ _) <|
  mF (mn_SI _ _) <|
  mF (mn_PI _ _) <|
  mF (mn_SI _ _) <|
  mF (mn_LI _ _) <|
  mF (mn_LI _ _) <|
  mF (mn_Ic _ _ _) <|
  mF (mn_LA _ _) <|
  mF (mn_LA _ _) <|
  mF (mn_LI _ _) <|
  mF (mn_LI _ _) <|
  mF (mn_CV _ _ mc_X8_tryOne _) <|
  mF (mn_If _ _ _) <|
  mF (mn_LA _ _) <|
  mF (mn_LA _ _) <|
  mF (mn_LI _ _) <|
  mF (mn_LI _ _) <|
  mF (mn_U _ _) <|
  mF (mn_CV _ _ mc_X8_tryOne _) <|
  mF (mn_If _ _ _) <|
  mF (mn_PI _ _) <|
  mF (mn_RZ) <|
  mF (mn_Inc _ _ _) <|
  mF (mn_Go _) <|
  mF (mn_PI _ _) <|
  mF (mn_SI _ _) <|
  mF (mn_LI _ _) <|
  mF (mn_LI _ _) <|
  mF (mn_Ic _ _ _) <|
  mF (mn_LI _ _) <|
  mF (mn_PI _ _) <|
  mF (mn_B _ _) <|
  mF (mn_SI _ _) <|
  mF (mn_LI _ _) <|
  mF (mn_LI _ _) <|
  mF (mn_Ic _ _ _) <|
  mF (mn_LA _ _) <|
  mF (mn_LA _ _) <|
  mF (mn_LI _ _) <|
  mF (mn_LI _ _) <|
  mF (mn_LI _ _) <|
  mF (mn_LI _ _) <|
  mF (mn_CV _ _ mc_X8_tryTwo _) <|
  mF (mn_If _ _ _) <|
  mF (mn_LA _ _) <|
  mF (mn_LA _ _) <|
  mF (mn_LI _ _) <|
  mF (mn_LI _ _) <|
  mF (mn_LI _ _) <|
  mF (mn_LI _ _) <|
  mF (mn_U _ _) <|
  mF (mn_CV _ _ mc_X8_tryTwo _) <|
  mF (mn_If _ _ _) <|
  mF (mn_LA _ _) <|
  mF (mn_LA _ _) <|
  mF (mn_LI _ _) <|
  mF (mn_LI _ _) <|
  mF (mn_U _ _) <|
  mF (mn_LI _ _) <|
  mF (mn_LI _ _) <|
  mF (mn_CV _ _ mc_X8_tryTwo _) <|
  mF0
def tb_X8_stepBetter_c1 : mTb := [(123, aIf (fun x => x = 0) 126 142), (126, aLA 0 127), (127, aLA 1 128), (128, aLI 4 130), (130, aLI 2 131), (131, aU (fun x => -x) 132), (132, aLI 5 134), (134, aLI 2 135), (135, aU (fun x => -x) 136), (136, aCV 8 5 C_X8_tryTwo 139), (139, aIf (fun x => x = 0) 144 142), (142, aPI 1 143), (143, aRZ), (144, aInc 5 1 147), (147, aGo 76), (150, aInc 4 1 153), (153, aGo 64), (156, aPI 0 157), (157, aRZ)]
theorem mt_X8_stepBetter_c1 : mMT tb_X8_stepBetter_c1 :=
  mF (mn_If _ _ _) <|
  mF (mn_LA _ _) <|
  mF (mn_LA _ _) <|
  mF (mn_LI _ _) <|
  mF (mn_LI _ _) <|
  mF (mn_U _ _) <|
  mF (mn_LI _ _) <|
  mF (mn_LI _ _) <|
  mF (mn_U _ _) <|
  mF (mn_CV _ _ mc_X8_tryTwo _) <|
  mF (mn_If _ _ _) <|
  mF (mn_PI _ _) <|
  mF (mn_RZ) <|
  mF (mn_Inc _ _ _) <|
  mF (mn_Go _) <|
  mF (mn_Inc _ _ _) <|
  mF (mn_Go _) <|
  mF (mn_PI _ _) <|
  mF (mn_RZ) <|
  mF0
def tb_X8_stepBetter : mTb := tb_X8_stepBetter_c0 ++ (tb_X8_stepBetter_c1)
theorem mt_X8_stepBetter : mMT tb_X8_stepBetter := mFA mt_X8_stepBetter_c0 mt_X8_stepBetter_c1
def C_X8_stepBetter : mCo := mRun tb_X8_stepBetter 6
theorem mc_X8_stepBetter : mMC C_X8_stepBetter := mRun_mn mt_X8_stepBetter 6
theorem yi_X8_stepBetter : mYin yX8_stepBetter cX8_stepBetter 6 (some .boolean) 1 := ⟨wd_58, wd_735, by decide +kernel, by decide⟩
set_option maxRecDepth 100000 in
set_option maxHeartbeats 4000000 in
theorem sd_X8_stepBetter_c0 (l : Launch) (B : mBs) (p : Program) (e : Env) (s : State) (m : MethodId) (args : Array Value) (below : List Frame) (meth : Method) (c : Code) (Q : mQo) (X : mCx l B RX8 cX8_stepBetter 6 p s m args c) (hr : meth.sig.returnType = (some .boolean)) (hk : meth.locks = false) (hn : meth.name = "stepBetter") : ∀ q ∈ tb_X8_stepBetter_c0, mSnd l B 6 p e (mRm 5 0 0) s m args below meth c (MQ below (mPo B Q) args s 0 0 (mA B)) (fun r h' => (h'.1.2.1 ≤ 0 ∧ h'.1.2.2 ≤ 0) ∧ Q r h') q.2 q.1 :=
  mF (sn_aload_n (pc := 0) (j := 1) X (by decide +kernel) rfl) <|
  mF (sn_getI (pc := 1) X fd_X8_33 (by decide +kernel)) <|
  mF (sn_if_ne (pc := 4) (off := 7) X (by decide +kernel) (by decide)) <|
  mF (sn_iconst (pc := 7) (n := 1) X (by decide +kernel) (by decide)) <|
  mF (sn_goto (pc := 8) (off := 4) X (by decide +kernel) (by decide)) <|
  mF (sn_iconst (pc := 11) (n := (-1)) X (by decide +kernel) (by decide)) <|
  mF (sn_istore_n (pc := 12) (j := 2) X (by decide +kernel) rfl (by decide)) <|
  mF (sn_aload_n (pc := 13) (j := 1) X (by decide +kernel) rfl) <|
  mF (sn_getR (pc := 14) X fd_X8_37 (by decide +kernel)) <|
  mF (sn_getI (pc := 17) X fd_X8_41 (by decide +kernel)) <|
  mF (sn_istore_n (pc := 20) (j := 3) X (by decide +kernel) rfl (by decide)) <|
  mF (sn_iconst (pc := 21) (n := 0) X (by decide +kernel) (by decide)) <|
  mF (sn_istore (pc := 22) X (by decide +kernel) (by decide)) <|
  mF (sn_iload (pc := 24) X (by decide +kernel)) <|
  mF (sn_iload_n (pc := 26) (j := 3) X (by decide +kernel) rfl) <|
  mF (sn_icmp_ge (pc := 27) (off := 34) X (by decide +kernel) (by decide)) <|
  mF (sn_aload_n (pc := 30) (j := 0) X (by decide +kernel) rfl) <|
  mF (sn_aload_n (pc := 31) (j := 1) X (by decide +kernel) rfl) <|
  mF (sn_iload (pc := 32) X (by decide +kernel)) <|
  mF (sn_iload_n (pc := 34) (j := 2) X (by decide +kernel) rfl) <|
  mF (sn_callV (pc := 35) X mc_X8_tryOne (me_X8_tryOne l B) yi_X8_tryOne wd_736 wd_738 wd_6 (T := TX8) (N := 1) rfl (by decide) (by decide +kernel)) <|
  mF (sn_if_ne (pc := 38) (off := 15) X (by decide +kernel) (by decide)) <|
  mF (sn_aload_n (pc := 41) (j := 0) X (by decide +kernel) rfl) <|
  mF (sn_aload_n (pc := 42) (j := 1) X (by decide +kernel) rfl) <|
  mF (sn_iload (pc := 43) X (by decide +kernel)) <|
  mF (sn_iload_n (pc := 45) (j := 2) X (by decide +kernel) rfl) <|
  mF (sn_ineg (pc := 46) X (by decide +kernel)) <|
  mF (sn_callV (pc := 47) X mc_X8_tryOne (me_X8_tryOne l B) yi_X8_tryOne wd_736 wd_738 wd_6 (T := TX8) (N := 1) rfl (by decide) (by decide +kernel)) <|
  mF (sn_if_eq (pc := 50) (off := 5) X (by decide +kernel) (by decide)) <|
  mF (sn_iconst (pc := 53) (n := 1) X (by decide +kernel) (by decide)) <|
  mF (sn_zret (pc := 54) X hr hk (by decide +kernel)) <|
  mF (sn_iinc (pc := 55) (n := 1) X (by decide +kernel) (by decide) (by decide)) <|
  mF (sn_goto (pc := 58) (off := (-34)) X (by decide +kernel) (by decide)) <|
  mF (sn_iconst (pc := 61) (n := 0) X (by decide +kernel) (by decide)) <|
  mF (sn_istore (pc := 62) X (by decide +kernel) (by decide)) <|
  mF (sn_iload (pc := 64) X (by decide +kernel)) <|
  mF (sn_iload_n (pc := 66) (j := 3) X (by decide +kernel) rfl) <|
  mF (sn_icmp_ge (pc := 67) (off := 89) X (by decide +kernel) (by decide)) <|
  mF (sn_iload (pc := 70) X (by decide +kernel)) <|
  mF (sn_iconst (pc := 72) (n := 1) X (by decide +kernel) (by decide)) <|
  mF (sn_iadd (pc := 73) X (by decide +kernel)) <|
  mF (sn_istore (pc := 74) X (by decide +kernel) (by decide)) <|
  mF (sn_iload (pc := 76) X (by decide +kernel)) <|
  mF (sn_iload_n (pc := 78) (j := 3) X (by decide +kernel) rfl) <|
  mF (sn_icmp_ge (pc := 79) (off := 71) X (by decide +kernel) (by decide)) <|
  mF (sn_aload_n (pc := 82) (j := 0) X (by decide +kernel) rfl) <|
  mF (sn_aload_n (pc := 83) (j := 1) X (by decide +kernel) rfl) <|
  mF (sn_iload (pc := 84) X (by decide +kernel)) <|
  mF (sn_iload_n (pc := 86) (j := 2) X (by decide +kernel) rfl) <|
  mF (sn_iload (pc := 87) X (by decide +kernel)) <|
  mF (sn_iload_n (pc := 89) (j := 2) X (by decide +kernel) rfl) <|
  mF (sn_callV (pc := 90) X mc_X8_tryTwo (me_X8_tryTwo l B) yi_X8_tryTwo wd_741 wd_743 wd_7 (T := TX8) (N := 1) rfl (by decide) (by decide +kernel)) <|
  mF (sn_if_ne (pc := 93) (off := 49) X (by decide +kernel) (by decide)) <|
  mF (sn_aload_n (pc := 96) (j := 0) X (by decide +kernel) rfl) <|
  mF (sn_aload_n (pc := 97) (j := 1) X (by decide +kernel) rfl) <|
  mF (sn_iload (pc := 98) X (by decide +kernel)) <|
  mF (sn_iload_n (pc := 100) (j := 2) X (by decide +kernel) rfl) <|
  mF (sn_iload (pc := 101) X (by decide +kernel)) <|
  mF (sn_iload_n (pc := 103) (j := 2) X (by decide +kernel) rfl) <|
  mF (sn_ineg (pc := 104) X (by decide +kernel)) <|
  mF (sn_callV (pc := 105) X mc_X8_tryTwo (me_X8_tryTwo l B) yi_X8_tryTwo wd_741 wd_743 wd_7 (T := TX8) (N := 1) rfl (by decide) (by decide +kernel)) <|
  mF (sn_if_ne (pc := 108) (off := 34) X (by decide +kernel) (by decide)) <|
  mF (sn_aload_n (pc := 111) (j := 0) X (by decide +kernel) rfl) <|
  mF (sn_aload_n (pc := 112) (j := 1) X (by decide +kernel) rfl) <|
  mF (sn_iload (pc := 113) X (by decide +kernel)) <|
  mF (sn_iload_n (pc := 115) (j := 2) X (by decide +kernel) rfl) <|
  mF (sn_ineg (pc := 116) X (by decide +kernel)) <|
  mF (sn_iload (pc := 117) X (by decide +kernel)) <|
  mF (sn_iload_n (pc := 119) (j := 2) X (by decide +kernel) rfl) <|
  mF (sn_callV (pc := 120) X mc_X8_tryTwo (me_X8_tryTwo l B) yi_X8_tryTwo wd_741 wd_743 wd_7 (T := TX8) (N := 1) rfl (by decide) (by decide +kernel)) <|
  mF0
set_option maxRecDepth 100000 in
set_option maxHeartbeats 4000000 in
theorem sd_X8_stepBetter_c1 (l : Launch) (B : mBs) (p : Program) (e : Env) (s : State) (m : MethodId) (args : Array Value) (below : List Frame) (meth : Method) (c : Code) (Q : mQo) (X : mCx l B RX8 cX8_stepBetter 6 p s m args c) (hr : meth.sig.returnType = (some .boolean)) (hk : meth.locks = false) (hn : meth.name = "stepBetter") : ∀ q ∈ tb_X8_stepBetter_c1, mSnd l B 6 p e (mRm 5 0 0) s m args below meth c (MQ below (mPo B Q) args s 0 0 (mA B)) (fun r h' => (h'.1.2.1 ≤ 0 ∧ h'.1.2.2 ≤ 0) ∧ Q r h') q.2 q.1 :=
  mF (sn_if_ne (pc := 123) (off := 19) X (by decide +kernel) (by decide)) <|
  mF (sn_aload_n (pc := 126) (j := 0) X (by decide +kernel) rfl) <|
  mF (sn_aload_n (pc := 127) (j := 1) X (by decide +kernel) rfl) <|
  mF (sn_iload (pc := 128) X (by decide +kernel)) <|
  mF (sn_iload_n (pc := 130) (j := 2) X (by decide +kernel) rfl) <|
  mF (sn_ineg (pc := 131) X (by decide +kernel)) <|
  mF (sn_iload (pc := 132) X (by decide +kernel)) <|
  mF (sn_iload_n (pc := 134) (j := 2) X (by decide +kernel) rfl) <|
  mF (sn_ineg (pc := 135) X (by decide +kernel)) <|
  mF (sn_callV (pc := 136) X mc_X8_tryTwo (me_X8_tryTwo l B) yi_X8_tryTwo wd_741 wd_743 wd_7 (T := TX8) (N := 1) rfl (by decide) (by decide +kernel)) <|
  mF (sn_if_eq (pc := 139) (off := 5) X (by decide +kernel) (by decide)) <|
  mF (sn_iconst (pc := 142) (n := 1) X (by decide +kernel) (by decide)) <|
  mF (sn_zret (pc := 143) X hr hk (by decide +kernel)) <|
  mF (sn_iinc (pc := 144) (n := 1) X (by decide +kernel) (by decide) (by decide)) <|
  mF (sn_goto (pc := 147) (off := (-71)) X (by decide +kernel) (by decide)) <|
  mF (sn_iinc (pc := 150) (n := 1) X (by decide +kernel) (by decide) (by decide)) <|
  mF (sn_goto (pc := 153) (off := (-89)) X (by decide +kernel) (by decide)) <|
  mF (sn_iconst (pc := 156) (n := 0) X (by decide +kernel) (by decide)) <|
  mF (sn_zret (pc := 157) X hr hk (by decide +kernel)) <|
  mF0
theorem sd_X8_stepBetter (l : Launch) (B : mBs) (p : Program) (e : Env) (s : State) (m : MethodId) (args : Array Value) (below : List Frame) (meth : Method) (c : Code) (Q : mQo) (X : mCx l B RX8 cX8_stepBetter 6 p s m args c) (hr : meth.sig.returnType = (some .boolean)) (hk : meth.locks = false) (hn : meth.name = "stepBetter") : ∀ q ∈ tb_X8_stepBetter, mSnd l B 6 p e (mRm 5 0 0) s m args below meth c (MQ below (mPo B Q) args s 0 0 (mA B)) (fun r h' => (h'.1.2.1 ≤ 0 ∧ h'.1.2.2 ≤ 0) ∧ Q r h') q.2 q.1 := mFA (sd_X8_stepBetter_c0 l B p e s m args below meth c Q X hr hk hn) (sd_X8_stepBetter_c1 l B p e s m args below meth c Q X hr hk hn)
theorem me_X8_stepBetter (l : Launch) (B : mBs) : mMet l B yX8_stepBetter cX8_stepBetter 6 (some .boolean) 5 0 0 C_X8_stepBetter := mMet_of (own := RX8) (by decide) rfl (fun p e s m args below meth c Q X hr hk hn => sd_X8_stepBetter l B p e s m args below meth c Q X hr hk hn)
/-! PuppetStage$Settler.settle(LPuppetStage$Puppet;I)I: 23 instructions, depth 6, makes 0 cells of 0 slots -/
def tb_X8_settle : mTb := [(0, aLA 0 1), (1, aGR 8 0 4), (4, aLA 1 5), (5, aGR 7 2 8), (8, aCV 1 1 C_X1_begin 11), (11, aLA 0 12), (12, aGR 8 0 15), (15, aLA 1 16), (16, aCV 1 1 C_X1_isBetter 19), (19, aPop 20), (20, aPI 0 21), (21, aSI 3 22), (22, aLI 3 23), (23, aLI 2 24), (24, aIc (fun x y => y ≤ x) 41 27), (27, aLA 0 28), (28, aLA 1 29), (29, aCV 8 1 C_X8_stepBetter 32), (32, aIf (fun x => x = 0) 41 35), (35, aInc 3 1 38), (38, aGo 22), (41, aLI 3 42), (42, aRI)]
theorem mt_X8_settle : mMT tb_X8_settle :=
  mF (mn_LA _ _) <|
  mF (mn_GR _ _ _) <|
  mF (mn_LA _ _) <|
  mF (mn_GR _ _ _) <|
  mF (mn_CV _ _ mc_X1_begin _) <|
  mF (mn_LA _ _) <|
  mF (mn_GR _ _ _) <|
  mF (mn_LA _ _) <|
  mF (mn_CV _ _ mc_X1_isBetter _) <|
  mF (mn_Pop _) <|
  mF (mn_PI _ _) <|
  mF (mn_SI _ _) <|
  mF (mn_LI _ _) <|
  mF (mn_LI _ _) <|
  mF (mn_Ic _ _ _) <|
  mF (mn_LA _ _) <|
  mF (mn_LA _ _) <|
  mF (mn_CV _ _ mc_X8_stepBetter _) <|
  mF (mn_If _ _ _) <|
  mF (mn_Inc _ _ _) <|
  mF (mn_Go _) <|
  mF (mn_LI _ _) <|
  mF (mn_RI) <|
  mF0
def C_X8_settle : mCo := mRun tb_X8_settle 4
theorem mc_X8_settle : mMC C_X8_settle := mRun_mn mt_X8_settle 4
theorem yi_X8_settle : mYin yX8_settle cX8_settle 4 (some .int) 2 := ⟨wd_58, wd_720, by decide +kernel, by decide⟩
set_option maxRecDepth 100000 in
set_option maxHeartbeats 4000000 in
theorem sd_X8_settle (l : Launch) (B : mBs) (p : Program) (e : Env) (s : State) (m : MethodId) (args : Array Value) (below : List Frame) (meth : Method) (c : Code) (Q : mQo) (X : mCx l B RX8 cX8_settle 4 p s m args c) (hr : meth.sig.returnType = (some .int)) (hk : meth.locks = false) (hn : meth.name = "settle") : ∀ q ∈ tb_X8_settle, mSnd l B 4 p e (mRm 6 0 0) s m args below meth c (MQ below (mPo B Q) args s 0 0 (mA B)) (fun r h' => (h'.1.2.1 ≤ 0 ∧ h'.1.2.2 ≤ 0) ∧ Q r h') q.2 q.1 :=
  mF (sn_aload_n (pc := 0) (j := 0) X (by decide +kernel) rfl) <|
  mF (sn_getR (pc := 1) X fd_X8_10 (by decide +kernel)) <|
  mF (sn_aload_n (pc := 4) (j := 1) X (by decide +kernel) rfl) <|
  mF (sn_getR (pc := 5) X fd_X8_16 (by decide +kernel)) <|
  mF (sn_callV (pc := 8) X mc_X1_begin (me_X1_begin l B) yi_X1_begin wd_721 wd_722 wd_723 (T := TX1) (N := 11) rfl (by decide) (by decide +kernel)) <|
  mF (sn_aload_n (pc := 11) (j := 0) X (by decide +kernel) rfl) <|
  mF (sn_getR (pc := 12) X fd_X8_10 (by decide +kernel)) <|
  mF (sn_aload_n (pc := 15) (j := 1) X (by decide +kernel) rfl) <|
  mF (sn_callV (pc := 16) X mc_X1_isBetter (me_X1_isBetter l B) yi_X1_isBetter wd_725 wd_726 wd_727 (T := TX1) (N := 11) rfl (by decide) (by decide +kernel)) <|
  mF (sn_pop (pc := 19) X (by decide +kernel)) <|
  mF (sn_iconst (pc := 20) (n := 0) X (by decide +kernel) (by decide)) <|
  mF (sn_istore_n (pc := 21) (j := 3) X (by decide +kernel) rfl (by decide)) <|
  mF (sn_iload_n (pc := 22) (j := 3) X (by decide +kernel) rfl) <|
  mF (sn_iload_n (pc := 23) (j := 2) X (by decide +kernel) rfl) <|
  mF (sn_icmp_ge (pc := 24) (off := 17) X (by decide +kernel) (by decide)) <|
  mF (sn_aload_n (pc := 27) (j := 0) X (by decide +kernel) rfl) <|
  mF (sn_aload_n (pc := 28) (j := 1) X (by decide +kernel) rfl) <|
  mF (sn_callV (pc := 29) X mc_X8_stepBetter (me_X8_stepBetter l B) yi_X8_stepBetter wd_732 wd_734 wd_5 (T := TX8) (N := 1) rfl (by decide) (by decide +kernel)) <|
  mF (sn_if_eq (pc := 32) (off := 9) X (by decide +kernel) (by decide)) <|
  mF (sn_iinc (pc := 35) (n := 1) X (by decide +kernel) (by decide) (by decide)) <|
  mF (sn_goto (pc := 38) (off := (-16)) X (by decide +kernel) (by decide)) <|
  mF (sn_iload_n (pc := 41) (j := 3) X (by decide +kernel) rfl) <|
  mF (sn_iret (pc := 42) X hr hk (by decide +kernel)) <|
  mF0
theorem me_X8_settle (l : Launch) (B : mBs) : mMet l B yX8_settle cX8_settle 4 (some .int) 6 0 0 C_X8_settle := mMet_of (own := RX8) (by decide) rfl (fun p e s m args below meth c Q X hr hk hn => sd_X8_settle l B p e s m args below meth c Q X hr hk hn)
/-! PuppetStage$Settler.findLowest(LPuppetStage$Puppet;[I)V: 76 instructions, depth 4, makes 0 cells of 0 slots -/
def tb_X8_findLowest_c0 : mTb := [(0, aLA 1 1), (1, aGR 7 0 4), (4, aGR 5 3 7), (7, aSA 3 8), (8, aLA 3 9), (9, aLA 2 10), (10, aCS 2 C_X10_copyRow 13), (13, aLA 0 14), (14, aGR 8 0 17), (17, aLA 1 18), (18, aGR 7 2 21), (21, aCV 1 1 C_X1_begin 24), (24, aLA 1 25), (25, aGR 7 0 28), (28, aGI 5 4 31), (31, aPI 1 32), (32, aIc (fun x y => x ≤ y) 39 35), (35, aPI 1 36), (36, aGo 40), (39, aPI 0 40), (40, aSI 4 42), (42, aLI 4 44), (44, aIf (fun x => x = 0) 58 47), (47, aLA 1 48), (48, aGR 7 1 51), (51, aPI 1 52), (52, aCV 9 1 C_X9_leastOf 55), (55, aGo 59), (58, aPI 0 59), (59, aSI 5 61), (61, aLI 4 63), (63, aIf (fun x => x = 0) 77 66), (66, aLA 1 67), (67, aGR 7 1 70), (70, aPI 1 71), (71, aCV 9 1 C_X9_greatestOf 74), (74, aGo 78), (77, aPI 0 78), (78, aSI 6 80), (80, aLA 1 81), (81, aGR 7 1 84), (84, aPI 0 85), (85, aCV 9 1 C_X9_leastOf 88), (88, aSI 7 90), (90, aLI 7 92), (92, aLA 1 93), (93, aGR 7 1 96), (96, aPI 0 97), (97, aCV 9 1 C_X9_greatestOf 100), (100, aIc (fun x y => y < x) 152 103), (103, aLA 3 104), (104, aPI 0 105), (105, aLI 7 107), (107, aIS 108), (108, aLI 5 110), (110, aSI 8 112), (112, aLI 8 114), (114, aLI 6 116), (116, aIc (fun x y => y < x) 146 119), (119, aLA 3 120), (120, aPI 1 121), (121, aLI 8 123), (123, aIS 124), (124, aLA 0 125), (125, aGR 8 0 128), (128, aLA 1 129), (129, aCV 1 1 C_X1_isBetter 132), (132, aIf (fun x => x = 0) 140 135), (135, aLA 3 136), (136, aLA 2 137)]
theorem mt_X8_findLowest_c0 : mMT tb_X8_findLowest_c0 :=
  mF (mn_LA _ _) <|
  mF (mn_GR _ _ _) <|
  mF (mn_GR _ _ _) <|
  mF (mn_SA _ _) <|
  mF (mn_LA _ _) <|
  mF (mn_LA _ _) <|
  mF (mn_CS _ mc_X10_copyRow _) <|
  mF (mn_LA _ _) <|
  mF (mn_GR _ _ _) <|
  mF (mn_LA _ _) <|
  mF (mn_GR _ _ _) <|
  mF (mn_CV _ _ mc_X1_begin _) <|
  mF (mn_LA _ _) <|
  mF (mn_GR _ _ _) <|
  mF (mn_GI _ _ _) <|
  mF (mn_PI _ _) <|
  mF (mn_Ic _ _ _) <|
  mF (mn_PI _ _) <|
  mF (mn_Go _) <|
  mF (mn_PI _ _) <|
  mF (mn_SI _ _) <|
  mF (mn_LI _ _) <|
  mF (mn_If _ _ _) <|
  mF (mn_LA _ _) <|
  mF (mn_GR _ _ _) <|
  mF (mn_PI _ _) <|
  mF (mn_CV _ _ mc_X9_leastOf _) <|
  mF (mn_Go _) <|
  mF (mn_PI _ _) <|
  mF (mn_SI _ _) <|
  mF (mn_LI _ _) <|
  mF (mn_If _ _ _) <|
  mF (mn_LA _ _) <|
  mF (mn_GR _ _ _) <|
  mF (mn_PI _ _) <|
  mF (mn_CV _ _ mc_X9_greatestOf _) <|
  mF (mn_Go _) <|
  mF (mn_PI _ _) <|
  mF (mn_SI _ _) <|
  mF (mn_LA _ _) <|
  mF (mn_GR _ _ _) <|
  mF (mn_PI _ _) <|
  mF (mn_CV _ _ mc_X9_leastOf _) <|
  mF (mn_SI _ _) <|
  mF (mn_LI _ _) <|
  mF (mn_LA _ _) <|
  mF (mn_GR _ _ _) <|
  mF (mn_PI _ _) <|
  mF (mn_CV _ _ mc_X9_greatestOf _) <|
  mF (mn_Ic _ _ _) <|
  mF (mn_LA _ _) <|
  mF (mn_PI _ _) <|
  mF (mn_LI _ _) <|
  mF (mn_IS _) <|
  mF (mn_LI _ _) <|
  mF (mn_SI _ _) <|
  mF (mn_LI _ _) <|
  mF (mn_LI _ _) <|
  mF (mn_Ic _ _ _) <|
  mF (mn_LA _ _) <|
  mF (mn_PI _ _) <|
  mF (mn_LI _ _) <|
  mF (mn_IS _) <|
  mF (mn_LA _ _) <|
  mF (mn_GR _ _ _) <|
  mF (mn_LA _ _) <|
  mF (mn_CV _ _ mc_X1_isBetter _) <|
  mF (mn_If _ _ _) <|
  mF (mn_LA _ _) <|
  mF (mn_LA _ _) <|
  mF0
def tb_X8_findLowest_c1 : mTb := [(137, aCS 2 C_X10_copyRow 140), (140, aInc 8 1 143), (143, aGo 112), (146, aInc 7 1 149), (149, aGo 90), (152, aRV)]
theorem mt_X8_findLowest_c1 : mMT tb_X8_findLowest_c1 :=
  mF (mn_CS _ mc_X10_copyRow _) <|
  mF (mn_Inc _ _ _) <|
  mF (mn_Go _) <|
  mF (mn_Inc _ _ _) <|
  mF (mn_Go _) <|
  mF (mn_RV) <|
  mF0
def tb_X8_findLowest : mTb := tb_X8_findLowest_c0 ++ (tb_X8_findLowest_c1)
theorem mt_X8_findLowest : mMT tb_X8_findLowest := mFA mt_X8_findLowest_c0 mt_X8_findLowest_c1
def C_X8_findLowest : mCo := mRun tb_X8_findLowest 9
theorem mc_X8_findLowest : mMC C_X8_findLowest := mRun_mn mt_X8_findLowest 9
theorem yi_X8_findLowest : mYin yX8_findLowest cX8_findLowest 9 none 2 := ⟨wd_58, wd_757, by decide +kernel, by decide⟩
set_option maxRecDepth 100000 in
set_option maxHeartbeats 4000000 in
theorem sd_X8_findLowest_c0 (l : Launch) (B : mBs) (p : Program) (e : Env) (s : State) (m : MethodId) (args : Array Value) (below : List Frame) (meth : Method) (c : Code) (Q : mQo) (X : mCx l B RX8 cX8_findLowest 9 p s m args c) (hr : meth.sig.returnType = none) (hk : meth.locks = false) (hn : meth.name = "findLowest") : ∀ q ∈ tb_X8_findLowest_c0, mSnd l B 9 p e (mRm 4 0 0) s m args below meth c (MQ below (mPo B Q) args s 0 0 (mA B)) (fun r h' => (h'.1.2.1 ≤ 0 ∧ h'.1.2.2 ≤ 0) ∧ Q r h') q.2 q.1 :=
  mF (sn_aload_n (pc := 0) (j := 1) X (by decide +kernel) rfl) <|
  mF (sn_getR (pc := 1) X fd_X8_37 (by decide +kernel)) <|
  mF (sn_getR (pc := 4) X fd_X8_54 (by decide +kernel)) <|
  mF (sn_astore_n (pc := 7) (j := 3) X (by decide +kernel) rfl (by decide)) <|
  mF (sn_aload_n (pc := 8) (j := 3) X (by decide +kernel) rfl) <|
  mF (sn_aload_n (pc := 9) (j := 2) X (by decide +kernel) rfl) <|
  mF (sn_callSN (pc := 10) X mc_X10_copyRow (me_X10_copyRow l B) yi_X10_copyRow wd_758 wd_464 (by decide) (by decide +kernel)) <|
  mF (sn_aload_n (pc := 13) (j := 0) X (by decide +kernel) rfl) <|
  mF (sn_getR (pc := 14) X fd_X8_10 (by decide +kernel)) <|
  mF (sn_aload_n (pc := 17) (j := 1) X (by decide +kernel) rfl) <|
  mF (sn_getR (pc := 18) X fd_X8_16 (by decide +kernel)) <|
  mF (sn_callV (pc := 21) X mc_X1_begin (me_X1_begin l B) yi_X1_begin wd_721 wd_722 wd_723 (T := TX1) (N := 11) rfl (by decide) (by decide +kernel)) <|
  mF (sn_aload_n (pc := 24) (j := 1) X (by decide +kernel) rfl) <|
  mF (sn_getR (pc := 25) X fd_X8_37 (by decide +kernel)) <|
  mF (sn_getI (pc := 28) X fd_X8_41 (by decide +kernel)) <|
  mF (sn_iconst (pc := 31) (n := 1) X (by decide +kernel) (by decide)) <|
  mF (sn_icmp_le (pc := 32) (off := 7) X (by decide +kernel) (by decide)) <|
  mF (sn_iconst (pc := 35) (n := 1) X (by decide +kernel) (by decide)) <|
  mF (sn_goto (pc := 36) (off := 4) X (by decide +kernel) (by decide)) <|
  mF (sn_iconst (pc := 39) (n := 0) X (by decide +kernel) (by decide)) <|
  mF (sn_istore (pc := 40) X (by decide +kernel) (by decide)) <|
  mF (sn_iload (pc := 42) X (by decide +kernel)) <|
  mF (sn_if_eq (pc := 44) (off := 14) X (by decide +kernel) (by decide)) <|
  mF (sn_aload_n (pc := 47) (j := 1) X (by decide +kernel) rfl) <|
  mF (sn_getR (pc := 48) X fd_X8_58 (by decide +kernel)) <|
  mF (sn_iconst (pc := 51) (n := 1) X (by decide +kernel) (by decide)) <|
  mF (sn_callV (pc := 52) X mc_X9_leastOf (me_X9_leastOf l B) yi_X9_leastOf wd_759 wd_438 wd_439 (T := TX9) (N := 3) rfl (by decide) (by decide +kernel)) <|
  mF (sn_goto (pc := 55) (off := 4) X (by decide +kernel) (by decide)) <|
  mF (sn_iconst (pc := 58) (n := 0) X (by decide +kernel) (by decide)) <|
  mF (sn_istore (pc := 59) X (by decide +kernel) (by decide)) <|
  mF (sn_iload (pc := 61) X (by decide +kernel)) <|
  mF (sn_if_eq (pc := 63) (off := 14) X (by decide +kernel) (by decide)) <|
  mF (sn_aload_n (pc := 66) (j := 1) X (by decide +kernel) rfl) <|
  mF (sn_getR (pc := 67) X fd_X8_58 (by decide +kernel)) <|
  mF (sn_iconst (pc := 70) (n := 1) X (by decide +kernel) (by decide)) <|
  mF (sn_callV (pc := 71) X mc_X9_greatestOf (me_X9_greatestOf l B) yi_X9_greatestOf wd_760 wd_446 wd_447 (T := TX9) (N := 3) rfl (by decide) (by decide +kernel)) <|
  mF (sn_goto (pc := 74) (off := 4) X (by decide +kernel) (by decide)) <|
  mF (sn_iconst (pc := 77) (n := 0) X (by decide +kernel) (by decide)) <|
  mF (sn_istore (pc := 78) X (by decide +kernel) (by decide)) <|
  mF (sn_aload_n (pc := 80) (j := 1) X (by decide +kernel) rfl) <|
  mF (sn_getR (pc := 81) X fd_X8_58 (by decide +kernel)) <|
  mF (sn_iconst (pc := 84) (n := 0) X (by decide +kernel) (by decide)) <|
  mF (sn_callV (pc := 85) X mc_X9_leastOf (me_X9_leastOf l B) yi_X9_leastOf wd_759 wd_438 wd_439 (T := TX9) (N := 3) rfl (by decide) (by decide +kernel)) <|
  mF (sn_istore (pc := 88) X (by decide +kernel) (by decide)) <|
  mF (sn_iload (pc := 90) X (by decide +kernel)) <|
  mF (sn_aload_n (pc := 92) (j := 1) X (by decide +kernel) rfl) <|
  mF (sn_getR (pc := 93) X fd_X8_58 (by decide +kernel)) <|
  mF (sn_iconst (pc := 96) (n := 0) X (by decide +kernel) (by decide)) <|
  mF (sn_callV (pc := 97) X mc_X9_greatestOf (me_X9_greatestOf l B) yi_X9_greatestOf wd_760 wd_446 wd_447 (T := TX9) (N := 3) rfl (by decide) (by decide +kernel)) <|
  mF (sn_icmp_gt (pc := 100) (off := 52) X (by decide +kernel) (by decide)) <|
  mF (sn_aload_n (pc := 103) (j := 3) X (by decide +kernel) rfl) <|
  mF (sn_iconst (pc := 104) (n := 0) X (by decide +kernel) (by decide)) <|
  mF (sn_iload (pc := 105) X (by decide +kernel)) <|
  mF (sn_iastore (pc := 107) X (by decide +kernel)) <|
  mF (sn_iload (pc := 108) X (by decide +kernel)) <|
  mF (sn_istore (pc := 110) X (by decide +kernel) (by decide)) <|
  mF (sn_iload (pc := 112) X (by decide +kernel)) <|
  mF (sn_iload (pc := 114) X (by decide +kernel)) <|
  mF (sn_icmp_gt (pc := 116) (off := 30) X (by decide +kernel) (by decide)) <|
  mF (sn_aload_n (pc := 119) (j := 3) X (by decide +kernel) rfl) <|
  mF (sn_iconst (pc := 120) (n := 1) X (by decide +kernel) (by decide)) <|
  mF (sn_iload (pc := 121) X (by decide +kernel)) <|
  mF (sn_iastore (pc := 123) X (by decide +kernel)) <|
  mF (sn_aload_n (pc := 124) (j := 0) X (by decide +kernel) rfl) <|
  mF (sn_getR (pc := 125) X fd_X8_10 (by decide +kernel)) <|
  mF (sn_aload_n (pc := 128) (j := 1) X (by decide +kernel) rfl) <|
  mF (sn_callV (pc := 129) X mc_X1_isBetter (me_X1_isBetter l B) yi_X1_isBetter wd_725 wd_726 wd_727 (T := TX1) (N := 11) rfl (by decide) (by decide +kernel)) <|
  mF (sn_if_eq (pc := 132) (off := 8) X (by decide +kernel) (by decide)) <|
  mF (sn_aload_n (pc := 135) (j := 3) X (by decide +kernel) rfl) <|
  mF (sn_aload_n (pc := 136) (j := 2) X (by decide +kernel) rfl) <|
  mF0
set_option maxRecDepth 100000 in
set_option maxHeartbeats 4000000 in
theorem sd_X8_findLowest_c1 (l : Launch) (B : mBs) (p : Program) (e : Env) (s : State) (m : MethodId) (args : Array Value) (below : List Frame) (meth : Method) (c : Code) (Q : mQo) (X : mCx l B RX8 cX8_findLowest 9 p s m args c) (hr : meth.sig.returnType = none) (hk : meth.locks = false) (hn : meth.name = "findLowest") : ∀ q ∈ tb_X8_findLowest_c1, mSnd l B 9 p e (mRm 4 0 0) s m args below meth c (MQ below (mPo B Q) args s 0 0 (mA B)) (fun r h' => (h'.1.2.1 ≤ 0 ∧ h'.1.2.2 ≤ 0) ∧ Q r h') q.2 q.1 :=
  mF (sn_callSN (pc := 137) X mc_X10_copyRow (me_X10_copyRow l B) yi_X10_copyRow wd_758 wd_464 (by decide) (by decide +kernel)) <|
  mF (sn_iinc (pc := 140) (n := 1) X (by decide +kernel) (by decide) (by decide)) <|
  mF (sn_goto (pc := 143) (off := (-31)) X (by decide +kernel) (by decide)) <|
  mF (sn_iinc (pc := 146) (n := 1) X (by decide +kernel) (by decide) (by decide)) <|
  mF (sn_goto (pc := 149) (off := (-59)) X (by decide +kernel) (by decide)) <|
  mF (sn_vret (pc := 152) X hr hk (by decide +kernel)) <|
  mF0
theorem sd_X8_findLowest (l : Launch) (B : mBs) (p : Program) (e : Env) (s : State) (m : MethodId) (args : Array Value) (below : List Frame) (meth : Method) (c : Code) (Q : mQo) (X : mCx l B RX8 cX8_findLowest 9 p s m args c) (hr : meth.sig.returnType = none) (hk : meth.locks = false) (hn : meth.name = "findLowest") : ∀ q ∈ tb_X8_findLowest, mSnd l B 9 p e (mRm 4 0 0) s m args below meth c (MQ below (mPo B Q) args s 0 0 (mA B)) (fun r h' => (h'.1.2.1 ≤ 0 ∧ h'.1.2.2 ≤ 0) ∧ Q r h') q.2 q.1 := mFA (sd_X8_findLowest_c0 l B p e s m args below meth c Q X hr hk hn) (sd_X8_findLowest_c1 l B p e s m args below meth c Q X hr hk hn)
theorem me_X8_findLowest (l : Launch) (B : mBs) : mMet l B yX8_findLowest cX8_findLowest 9 none 4 0 0 C_X8_findLowest := mMet_of (own := RX8) (by decide) rfl (fun p e s m args below meth c Q X hr hk hn => sd_X8_findLowest l B p e s m args below meth c Q X hr hk hn)
/-! PuppetStage$Spans.begin(I)V: 21 instructions, depth 0, makes 0 cells of 0 slots -/
def tb_X9_begin : mTb := [(0, aPI 0 1), (1, aSI 2 2), (2, aLI 2 3), (3, aPI 6 5), (5, aIc (fun x y => y ≤ x) 30 8), (8, aLA 0 9), (9, aGR 9 0 12), (12, aLI 2 13), (13, aPI (-32) 15), (15, aIS 16), (16, aLA 0 17), (17, aGR 9 1 20), (20, aLI 2 21), (21, aPI 31 23), (23, aIS 24), (24, aInc 2 1 27), (27, aGo 2), (30, aLA 0 31), (31, aLI 1 32), (32, aWI 9 2 35), (35, aRV)]
theorem mt_X9_begin : mMT tb_X9_begin :=
  mF (mn_PI _ _) <|
  mF (mn_SI _ _) <|
  mF (mn_LI _ _) <|
  mF (mn_PI _ _) <|
  mF (mn_Ic _ _ _) <|
  mF (mn_LA _ _) <|
  mF (mn_GR _ _ _) <|
  mF (mn_LI _ _) <|
  mF (mn_PI _ _) <|
  mF (mn_IS _) <|
  mF (mn_LA _ _) <|
  mF (mn_GR _ _ _) <|
  mF (mn_LI _ _) <|
  mF (mn_PI _ _) <|
  mF (mn_IS _) <|
  mF (mn_Inc _ _ _) <|
  mF (mn_Go _) <|
  mF (mn_LA _ _) <|
  mF (mn_LI _ _) <|
  mF (mn_WI _ _ _) <|
  mF (mn_RV) <|
  mF0
def C_X9_begin : mCo := mRun tb_X9_begin 3
theorem mc_X9_begin : mMC C_X9_begin := mRun_mn mt_X9_begin 3
theorem yi_X9_begin : mYin yX9_begin cX9_begin 3 none 1 := ⟨wd_52, wd_535, by decide +kernel, by decide⟩
set_option maxRecDepth 100000 in
set_option maxHeartbeats 4000000 in
theorem sd_X9_begin (l : Launch) (B : mBs) (p : Program) (e : Env) (s : State) (m : MethodId) (args : Array Value) (below : List Frame) (meth : Method) (c : Code) (Q : mQo) (X : mCx l B RX9 cX9_begin 3 p s m args c) (hr : meth.sig.returnType = none) (hk : meth.locks = false) (hn : meth.name = "begin") : ∀ q ∈ tb_X9_begin, mSnd l B 3 p e (mRm 0 0 0) s m args below meth c (MQ below (mPo B Q) args s 0 0 (mA B)) (fun r h' => (h'.1.2.1 ≤ 0 ∧ h'.1.2.2 ≤ 0) ∧ Q r h') q.2 q.1 :=
  mF (sn_iconst (pc := 0) (n := 0) X (by decide +kernel) (by decide)) <|
  mF (sn_istore_n (pc := 1) (j := 2) X (by decide +kernel) rfl (by decide)) <|
  mF (sn_iload_n (pc := 2) (j := 2) X (by decide +kernel) rfl) <|
  mF (sn_bipush (pc := 3) (n := 6) X (by decide +kernel) (by decide)) <|
  mF (sn_icmp_ge (pc := 5) (off := 25) X (by decide +kernel) (by decide)) <|
  mF (sn_aload_n (pc := 8) (j := 0) X (by decide +kernel) rfl) <|
  mF (sn_getR (pc := 9) X fd_X9_9 (by decide +kernel)) <|
  mF (sn_iload_n (pc := 12) (j := 2) X (by decide +kernel) rfl) <|
  mF (sn_bipush (pc := 13) (n := (-32)) X (by decide +kernel) (by decide)) <|
  mF (sn_iastore (pc := 15) X (by decide +kernel)) <|
  mF (sn_aload_n (pc := 16) (j := 0) X (by decide +kernel) rfl) <|
  mF (sn_getR (pc := 17) X fd_X9_15 (by decide +kernel)) <|
  mF (sn_iload_n (pc := 20) (j := 2) X (by decide +kernel) rfl) <|
  mF (sn_bipush (pc := 21) (n := 31) X (by decide +kernel) (by decide)) <|
  mF (sn_iastore (pc := 23) X (by decide +kernel)) <|
  mF (sn_iinc (pc := 24) (n := 1) X (by decide +kernel) (by decide) (by decide)) <|
  mF (sn_goto (pc := 27) (off := (-25)) X (by decide +kernel) (by decide)) <|
  mF (sn_aload_n (pc := 30) (j := 0) X (by decide +kernel) rfl) <|
  mF (sn_iload_n (pc := 31) (j := 1) X (by decide +kernel) rfl) <|
  mF (sn_putI (pc := 32) X fd_X9_18 ⟨tyX9_ok, nmX9⟩ rfl rfl (by decide +kernel)) <|
  mF (sn_vret (pc := 35) X hr hk (by decide +kernel)) <|
  mF0
theorem me_X9_begin (l : Launch) (B : mBs) : mMet l B yX9_begin cX9_begin 3 none 0 0 0 C_X9_begin := mMet_of (own := RX9) (by decide) rfl (fun p e s m args below meth c Q X hr hk hn => sd_X9_begin l B p e s m args below meth c Q X hr hk hn)
/-! PuppetStage.<init>()V: 54 instructions, depth 4, makes 326 cells of 3374 slots -/
def tb_X10_init : mTb := [(0, aLA 0 1), (1, aObj 4), (4, aLA 0 5), (5, aNew 7 6 326 3374 8), (8, aDup 9), (9, aCI C_X7_init 23 256 326 3374 12), (12, aWR 10 0 15), (15, aLA 0 16), (16, aNew 7 6 326 3374 19), (19, aDup 20), (20, aCI C_X7_init 23 256 326 3374 23), (23, aWR 10 1 26), (26, aLA 0 27), (27, aNew 3 4 326 3374 30), (30, aDup 31), (31, aCI C_X3_init 242 2630 326 3374 34), (34, aWR 10 2 37), (37, aLA 0 38), (38, aNew 1 11 326 3374 41), (41, aDup 42), (42, aCI C_X1_init 9 54 326 3374 45), (45, aWR 10 3 48), (48, aLA 0 49), (49, aNew 1 11 326 3374 52), (52, aDup 53), (53, aCI C_X1_init 9 54 326 3374 56), (56, aWR 10 4 59), (59, aLA 0 60), (60, aNew 8 1 326 3374 63), (63, aDup 64), (64, aCI C_X8_init 10 65 326 3374 67), (67, aWR 10 5 70), (70, aLA 0 71), (71, aNew 6 4 326 3374 74), (74, aDup 75), (75, aCI C_X6_init 0 0 326 3374 78), (78, aWR 10 6 81), (81, aLA 0 82), (82, aNew 6 4 326 3374 85), (85, aDup 86), (86, aCI C_X6_init 0 0 326 3374 89), (89, aWR 10 7 92), (92, aLA 0 93), (93, aPI 6 95), (95, aNI 0 326 3374 97), (97, aWR 10 8 100), (100, aLA 0 101), (101, aPI 6 103), (103, aNI 0 326 3374 105), (105, aWR 10 9 108), (108, aLA 0 109), (109, aPL 0 110), (110, aWL 10 10 113), (113, aRV)]
theorem mt_X10_init : mMT tb_X10_init :=
  mF (mn_LA _ _) <|
  mF (mn_Obj _) <|
  mF (mn_LA _ _) <|
  mF (mn_New _ _ _ _ _) <|
  mF (mn_Dup _) <|
  mF (mn_CI mc_X7_init _ _ _ _ _) <|
  mF (mn_WR _ _ _) <|
  mF (mn_LA _ _) <|
  mF (mn_New _ _ _ _ _) <|
  mF (mn_Dup _) <|
  mF (mn_CI mc_X7_init _ _ _ _ _) <|
  mF (mn_WR _ _ _) <|
  mF (mn_LA _ _) <|
  mF (mn_New _ _ _ _ _) <|
  mF (mn_Dup _) <|
  mF (mn_CI mc_X3_init _ _ _ _ _) <|
  mF (mn_WR _ _ _) <|
  mF (mn_LA _ _) <|
  mF (mn_New _ _ _ _ _) <|
  mF (mn_Dup _) <|
  mF (mn_CI mc_X1_init _ _ _ _ _) <|
  mF (mn_WR _ _ _) <|
  mF (mn_LA _ _) <|
  mF (mn_New _ _ _ _ _) <|
  mF (mn_Dup _) <|
  mF (mn_CI mc_X1_init _ _ _ _ _) <|
  mF (mn_WR _ _ _) <|
  mF (mn_LA _ _) <|
  mF (mn_New _ _ _ _ _) <|
  mF (mn_Dup _) <|
  mF (mn_CI mc_X8_init _ _ _ _ _) <|
  mF (mn_WR _ _ _) <|
  mF (mn_LA _ _) <|
  mF (mn_New _ _ _ _ _) <|
  mF (mn_Dup _) <|
  mF (mn_CI mc_X6_init _ _ _ _ _) <|
  mF (mn_WR _ _ _) <|
  mF (mn_LA _ _) <|
  mF (mn_New _ _ _ _ _) <|
  mF (mn_Dup _) <|
  mF (mn_CI mc_X6_init _ _ _ _ _) <|
  mF (mn_WR _ _ _) <|
  mF (mn_LA _ _) <|
  mF (mn_PI _ _) <|
  mF (mn_NI _ _ _ _) <|
  mF (mn_WR _ _ _) <|
  mF (mn_LA _ _) <|
  mF (mn_PI _ _) <|
  mF (mn_NI _ _ _ _) <|
  mF (mn_WR _ _ _) <|
  mF (mn_LA _ _) <|
  mF (mn_PL _ _) <|
  mF (mn_WL _ _ _) <|
  mF (mn_RV) <|
  mF0
def C_X10_init : mCo := mRun tb_X10_init 1
theorem mc_X10_init : mMC C_X10_init := mRun_mn mt_X10_init 1
theorem yi_X10_init : mYin yX10_init cX10_init 1 none 0 := ⟨wd_49, wd_68, by decide +kernel, by decide⟩
set_option maxRecDepth 100000 in
set_option maxHeartbeats 4000000 in
theorem sd_X10_init (l : Launch) (B : mBs) (p : Program) (e : Env) (s : State) (m : MethodId) (args : Array Value) (below : List Frame) (meth : Method) (c : Code) (Q : mQo) (X : mCx l B RX10 cX10_init 1 p s m args c) (hr : meth.sig.returnType = none) (hk : meth.locks = false) (hn : meth.name = "<init>") : ∀ q ∈ tb_X10_init, mSnd l B 1 p e (mRm 4 326 3374) s m args below meth c (MQ below (mPo B Q) args s 326 3374 (mA B)) (fun r h' => (h'.1.2.1 ≤ 326 ∧ h'.1.2.2 ≤ 3374) ∧ Q r h') q.2 q.1 :=
  mF (sn_aload_n (pc := 0) (j := 0) X (by decide +kernel) rfl) <|
  mF (sn_obj (pc := 1) X (by decide) wd_69 wd_70 wd_71 (by decide +kernel)) <|
  mF (sn_aload_n (pc := 4) (j := 0) X (by decide +kernel) rfl) <|
  mF (sn_new (pc := 5) X rfl inw_7 ⟨tyX7_ok, nmX7⟩ (by decide) rfl wd_72 wd_73 wd_50 (by decide +kernel)) <|
  mF (sn_dup (pc := 8) X (by decide +kernel)) <|
  mF (sn_callIN (pc := 9) X mc_X7_init (me_X7_init l B) yi_X7_init wd_74 wd_75 rfl (by decide) (by decide +kernel)) <|
  mF (sn_putR (D' := "") (pc := 12) X hn fd_X10_10 ⟨tyX10_ok, nmX10⟩ rfl rfl rfl (fun _ => ⟨rfl, rfl⟩) (by decide +kernel)) <|
  mF (sn_aload_n (pc := 15) (j := 0) X (by decide +kernel) rfl) <|
  mF (sn_new (pc := 16) X rfl inw_7 ⟨tyX7_ok, nmX7⟩ (by decide) rfl wd_72 wd_73 wd_50 (by decide +kernel)) <|
  mF (sn_dup (pc := 19) X (by decide +kernel)) <|
  mF (sn_callIN (pc := 20) X mc_X7_init (me_X7_init l B) yi_X7_init wd_74 wd_75 rfl (by decide) (by decide +kernel)) <|
  mF (sn_putR (D' := "") (pc := 23) X hn fd_X10_16 ⟨tyX10_ok, nmX10⟩ rfl rfl rfl (fun _ => ⟨rfl, rfl⟩) (by decide +kernel)) <|
  mF (sn_aload_n (pc := 26) (j := 0) X (by decide +kernel) rfl) <|
  mF (sn_new (pc := 27) X rfl inw_3 ⟨tyX3_ok, nmX3⟩ (by decide) rfl wd_287 wd_288 wd_56 (by decide +kernel)) <|
  mF (sn_dup (pc := 30) X (by decide +kernel)) <|
  mF (sn_callI (pc := 31) X mc_X3_init (me_X3_init l B) yi_X3_init wd_289 wd_290 rfl (by decide) (by decide +kernel)) <|
  mF (sn_putR (D' := "") (pc := 34) X hn fd_X10_22 ⟨tyX10_ok, nmX10⟩ rfl rfl rfl (fun _ => ⟨rfl, rfl⟩) (by decide +kernel)) <|
  mF (sn_aload_n (pc := 37) (j := 0) X (by decide +kernel) rfl) <|
  mF (sn_new (pc := 38) X rfl inw_1 ⟨tyX1_ok, nmX1⟩ (by decide) rfl wd_310 wd_311 wd_57 (by decide +kernel)) <|
  mF (sn_dup (pc := 41) X (by decide +kernel)) <|
  mF (sn_callIN (pc := 42) X mc_X1_init (me_X1_init l B) yi_X1_init wd_312 wd_313 rfl (by decide) (by decide +kernel)) <|
  mF (sn_putR (D' := "") (pc := 45) X hn fd_X10_29 ⟨tyX10_ok, nmX10⟩ rfl rfl rfl (fun _ => ⟨rfl, rfl⟩) (by decide +kernel)) <|
  mF (sn_aload_n (pc := 48) (j := 0) X (by decide +kernel) rfl) <|
  mF (sn_new (pc := 49) X rfl inw_1 ⟨tyX1_ok, nmX1⟩ (by decide) rfl wd_310 wd_311 wd_57 (by decide +kernel)) <|
  mF (sn_dup (pc := 52) X (by decide +kernel)) <|
  mF (sn_callIN (pc := 53) X mc_X1_init (me_X1_init l B) yi_X1_init wd_312 wd_313 rfl (by decide) (by decide +kernel)) <|
  mF (sn_putR (D' := "") (pc := 56) X hn fd_X10_33 ⟨tyX10_ok, nmX10⟩ rfl rfl rfl (fun _ => ⟨rfl, rfl⟩) (by decide +kernel)) <|
  mF (sn_aload_n (pc := 59) (j := 0) X (by decide +kernel) rfl) <|
  mF (sn_new (pc := 60) X rfl inw_8 ⟨tyX8_ok, nmX8⟩ (by decide) rfl wd_356 wd_357 wd_58 (by decide +kernel)) <|
  mF (sn_dup (pc := 63) X (by decide +kernel)) <|
  mF (sn_callIN (pc := 64) X mc_X8_init (me_X8_init l B) yi_X8_init wd_358 wd_359 rfl (by decide) (by decide +kernel)) <|
  mF (sn_putR (D' := "") (pc := 67) X hn fd_X10_39 ⟨tyX10_ok, nmX10⟩ rfl rfl rfl (fun _ => ⟨rfl, rfl⟩) (by decide +kernel)) <|
  mF (sn_aload_n (pc := 70) (j := 0) X (by decide +kernel) rfl) <|
  mF (sn_new (pc := 71) X rfl inw_6 ⟨tyX6_ok, nmX6⟩ (by decide) rfl wd_368 wd_369 wd_59 (by decide +kernel)) <|
  mF (sn_dup (pc := 74) X (by decide +kernel)) <|
  mF (sn_callIN (pc := 75) X mc_X6_init (me_X6_init l B) yi_X6_init wd_370 wd_371 rfl (by decide) (by decide +kernel)) <|
  mF (sn_putR (D' := "") (pc := 78) X hn fd_X10_46 ⟨tyX10_ok, nmX10⟩ rfl rfl rfl (fun _ => ⟨rfl, rfl⟩) (by decide +kernel)) <|
  mF (sn_aload_n (pc := 81) (j := 0) X (by decide +kernel) rfl) <|
  mF (sn_new (pc := 82) X rfl inw_6 ⟨tyX6_ok, nmX6⟩ (by decide) rfl wd_368 wd_369 wd_59 (by decide +kernel)) <|
  mF (sn_dup (pc := 85) X (by decide +kernel)) <|
  mF (sn_callIN (pc := 86) X mc_X6_init (me_X6_init l B) yi_X6_init wd_370 wd_371 rfl (by decide) (by decide +kernel)) <|
  mF (sn_putR (D' := "") (pc := 89) X hn fd_X10_50 ⟨tyX10_ok, nmX10⟩ rfl rfl rfl (fun _ => ⟨rfl, rfl⟩) (by decide +kernel)) <|
  mF (sn_aload_n (pc := 92) (j := 0) X (by decide +kernel) rfl) <|
  mF (sn_bipush (pc := 93) (n := 6) X (by decide +kernel) (by decide)) <|
  mF (sn_newI (pc := 95) X wd_126 (by decide +kernel)) <|
  mF (sn_putR (D' := "") (pc := 97) X hn fd_X10_53 ⟨tyX10_ok, nmX10⟩ rfl rfl rfl (fun _ => ⟨rfl, rfl⟩) (by decide +kernel)) <|
  mF (sn_aload_n (pc := 100) (j := 0) X (by decide +kernel) rfl) <|
  mF (sn_bipush (pc := 101) (n := 6) X (by decide +kernel) (by decide)) <|
  mF (sn_newI (pc := 103) X wd_126 (by decide +kernel)) <|
  mF (sn_putR (D' := "") (pc := 105) X hn fd_X10_57 ⟨tyX10_ok, nmX10⟩ rfl rfl rfl (fun _ => ⟨rfl, rfl⟩) (by decide +kernel)) <|
  mF (sn_aload_n (pc := 108) (j := 0) X (by decide +kernel) rfl) <|
  mF (sn_lconst (pc := 109) (n := 0) X (by decide +kernel) (by decide)) <|
  mF (sn_putL (pc := 110) X fd_X10_60 ⟨tyX10_ok, nmX10⟩ rfl rfl (by decide +kernel)) <|
  mF (sn_vret (pc := 113) X hr hk (by decide +kernel)) <|
  mF0
theorem me_X10_init (l : Launch) (B : mBs) : mMet l B yX10_init cX10_init 1 none 4 326 3374 C_X10_init := mMet_of (own := RX10) (by decide) rfl (fun p e s m args below meth c Q X hr hk hn => sd_X10_init l B p e s m args below meth c Q X hr hk hn)
/-! PuppetStage.puppetOf(I)LPuppetStage$Puppet;: 13 instructions, depth 0, makes 0 cells of 0 slots -/
def tb_X10_puppetOf : mTb := [(0, aLI 1 1), (1, aIf (fun x => x = 0) 4 9), (4, aLA 0 5), (5, aGR 10 0 8), (8, aRR), (9, aLI 1 10), (10, aPI 1 11), (11, aIc (fun x y => x = y) 14 21), (14, aLA 0 15), (15, aGR 10 1 18), (18, aGo 22), (21, aPN 22), (22, aRR)]
theorem mt_X10_puppetOf : mMT tb_X10_puppetOf :=
  mF (mn_LI _ _) <|
  mF (mn_If _ _ _) <|
  mF (mn_LA _ _) <|
  mF (mn_GR _ _ _) <|
  mF (mn_RR) <|
  mF (mn_LI _ _) <|
  mF (mn_PI _ _) <|
  mF (mn_Ic _ _ _) <|
  mF (mn_LA _ _) <|
  mF (mn_GR _ _ _) <|
  mF (mn_Go _) <|
  mF (mn_PN _) <|
  mF (mn_RR) <|
  mF0
def C_X10_puppetOf : mCo := mRun tb_X10_puppetOf 2
theorem mc_X10_puppetOf : mMC C_X10_puppetOf := mRun_mn mt_X10_puppetOf 2
theorem yi_X10_puppetOf : mYin yX10_puppetOf cX10_puppetOf 2 (some (.object "PuppetStage$Puppet")) 1 := ⟨wd_49, wd_428, by decide +kernel, by decide⟩
set_option maxRecDepth 100000 in
set_option maxHeartbeats 4000000 in
theorem sd_X10_puppetOf (l : Launch) (B : mBs) (p : Program) (e : Env) (s : State) (m : MethodId) (args : Array Value) (below : List Frame) (meth : Method) (c : Code) (Q : mQo) (X : mCx l B RX10 cX10_puppetOf 2 p s m args c) (hr : meth.sig.returnType = (some (.object "PuppetStage$Puppet"))) (hk : meth.locks = false) (hn : meth.name = "puppetOf") : ∀ q ∈ tb_X10_puppetOf, mSnd l B 2 p e (mRm 0 0 0) s m args below meth c (MQ below (mPo B Q) args s 0 0 (mA B)) (fun r h' => (h'.1.2.1 ≤ 0 ∧ h'.1.2.2 ≤ 0) ∧ Q r h') q.2 q.1 :=
  mF (sn_iload_n (pc := 0) (j := 1) X (by decide +kernel) rfl) <|
  mF (sn_if_ne (pc := 1) (off := 8) X (by decide +kernel) (by decide)) <|
  mF (sn_aload_n (pc := 4) (j := 0) X (by decide +kernel) rfl) <|
  mF (sn_getR (pc := 5) X fd_X10_10 (by decide +kernel)) <|
  mF (sn_aret (pc := 8) X hr hk (by decide +kernel)) <|
  mF (sn_iload_n (pc := 9) (j := 1) X (by decide +kernel) rfl) <|
  mF (sn_iconst (pc := 10) (n := 1) X (by decide +kernel) (by decide)) <|
  mF (sn_icmp_ne (pc := 11) (off := 10) X (by decide +kernel) (by decide)) <|
  mF (sn_aload_n (pc := 14) (j := 0) X (by decide +kernel) rfl) <|
  mF (sn_getR (pc := 15) X fd_X10_16 (by decide +kernel)) <|
  mF (sn_goto (pc := 18) (off := 4) X (by decide +kernel) (by decide)) <|
  mF (sn_null (pc := 21) X (by decide +kernel)) <|
  mF (sn_aret (pc := 22) X hr hk (by decide +kernel)) <|
  mF0
theorem me_X10_puppetOf (l : Launch) (B : mBs) : mMet l B yX10_puppetOf cX10_puppetOf 2 (some (.object "PuppetStage$Puppet")) 0 0 0 C_X10_puppetOf := mMet_of (own := RX10) (by decide) rfl (fun p e s m args below meth c Q X hr hk hn => sd_X10_puppetOf l B p e s m args below meth c Q X hr hk hn)
/-! PuppetStage.isWithin(III)Z: 10 instructions, depth 0, makes 0 cells of 0 slots -/
def tb_X10_isWithin : mTb := [(0, aLI 0 1), (1, aLI 1 2), (2, aIc (fun x y => x < y) 14 5), (5, aLI 0 6), (6, aLI 2 7), (7, aIc (fun x y => y < x) 14 10), (10, aPI 1 11), (11, aGo 15), (14, aPI 0 15), (15, aRZ)]
theorem mt_X10_isWithin : mMT tb_X10_isWithin :=
  mF (mn_LI _ _) <|
  mF (mn_LI _ _) <|
  mF (mn_Ic _ _ _) <|
  mF (mn_LI _ _) <|
  mF (mn_LI _ _) <|
  mF (mn_Ic _ _ _) <|
  mF (mn_PI _ _) <|
  mF (mn_Go _) <|
  mF (mn_PI _ _) <|
  mF (mn_RZ) <|
  mF0
def C_X10_isWithin : mCo := mRun tb_X10_isWithin 3
theorem mc_X10_isWithin : mMC C_X10_isWithin := mRun_mn mt_X10_isWithin 3
theorem yi_X10_isWithin : mYin yX10_isWithin cX10_isWithin 3 (some .boolean) 3 := ⟨wd_49, wd_431, by decide +kernel, by decide⟩
set_option maxRecDepth 100000 in
set_option maxHeartbeats 4000000 in
theorem sd_X10_isWithin (l : Launch) (B : mBs) (p : Program) (e : Env) (s : State) (m : MethodId) (args : Array Value) (below : List Frame) (meth : Method) (c : Code) (Q : mQo) (X : mCx l B RX10 cX10_isWithin 3 p s m args c) (hr : meth.sig.returnType = (some .boolean)) (hk : meth.locks = false) (hn : meth.name = "isWithin") : ∀ q ∈ tb_X10_isWithin, mSnd l B 3 p e (mRm 0 0 0) s m args below meth c (MQ below (mPo B Q) args s 0 0 (mA B)) (fun r h' => (h'.1.2.1 ≤ 0 ∧ h'.1.2.2 ≤ 0) ∧ Q r h') q.2 q.1 :=
  mF (sn_iload_n (pc := 0) (j := 0) X (by decide +kernel) rfl) <|
  mF (sn_iload_n (pc := 1) (j := 1) X (by decide +kernel) rfl) <|
  mF (sn_icmp_lt (pc := 2) (off := 12) X (by decide +kernel) (by decide)) <|
  mF (sn_iload_n (pc := 5) (j := 0) X (by decide +kernel) rfl) <|
  mF (sn_iload_n (pc := 6) (j := 2) X (by decide +kernel) rfl) <|
  mF (sn_icmp_gt (pc := 7) (off := 7) X (by decide +kernel) (by decide)) <|
  mF (sn_iconst (pc := 10) (n := 1) X (by decide +kernel) (by decide)) <|
  mF (sn_goto (pc := 11) (off := 4) X (by decide +kernel) (by decide)) <|
  mF (sn_iconst (pc := 14) (n := 0) X (by decide +kernel) (by decide)) <|
  mF (sn_zret (pc := 15) X hr hk (by decide +kernel)) <|
  mF0
theorem me_X10_isWithin (l : Launch) (B : mBs) : mMet l B yX10_isWithin cX10_isWithin 3 (some .boolean) 0 0 0 C_X10_isWithin := mMet_of (own := RX10) (by decide) rfl (fun p e s m args below meth c Q X hr hk hn => sd_X10_isWithin l B p e s m args below meth c Q X hr hk hn)
/-! PuppetStage.limb(IIII)J: 62 instructions, depth 5, makes 0 cells of 0 slots -/
def tb_X10_limb : mTb := [(0, aLA 0 1), (1, aLI 1 2), (2, aCV 10 1 C_X10_puppetOf 5), (5, aSA 5 7), (7, aLA 5 9), (9, aNu 50 12), (12, aLI 2 13), (13, aPI (-1) 14), (14, aIc (fun x y => x < y) 50 17), (17, aLI 2 18), (18, aLA 5 20), (20, aGR 7 0 23), (23, aGI 5 4 26), (26, aIc (fun x y => y ≤ x) 50 29), (29, aLI 3 30), (30, aPI 1 31), (31, aPI 100 33), (33, aCS 3 C_X10_isWithin 36), (36, aIf (fun x => x = 0) 50 39), (39, aLI 4 41), (41, aPI 0 42), (42, aPI 50 44), (44, aCS 3 C_X10_isWithin 47), (47, aIf (fun x => x = 0) 50 54), (50, aPL (-9000000000000000001) 53), (53, aRL), (54, aLA 5 56), (56, aGR 7 1 59), (59, aLA 5 61), (61, aGR 7 0 64), (64, aGI 5 4 67), (67, aPI 0 68), (68, aCV 9 2 C_X9_allow 71), (71, aIf (fun x => x = 0) 74 78), (74, aPL (-9000000000000000002) 77), (77, aRL), (78, aLA 5 80), (80, aGR 7 0 83), (83, aGI 5 4 86), (86, aPI 6 88), (88, aIc (fun x y => x < y) 95 91), (91, aPL (-9000000000000000003) 94), (94, aRL), (95, aLA 0 96), (96, aGR 10 2 99), (99, aLA 0 100), (100, aGR 10 0 103), (103, aLA 0 104), (104, aGR 10 1 107), (107, aCV 3 2 C_X3_keep 110), (110, aLA 5 112), (112, aGR 7 4 115), (115, aPI 0 116), (116, aWI 2 5 119), (119, aLA 5 121), (121, aGR 7 0 124), (124, aLI 2 125), (125, aLI 3 126), (126, aLI 4 128), (128, aCV 5 3 C_X5_add 131), (131, aI2L 132), (132, aRL)]
theorem mt_X10_limb : mMT tb_X10_limb :=
  mF (mn_LA _ _) <|
  mF (mn_LI _ _) <|
  mF (mn_CV _ _ mc_X10_puppetOf _) <|
  mF (mn_SA _ _) <|
  mF (mn_LA _ _) <|
  mF (mn_Nu _ _) <|
  mF (mn_LI _ _) <|
  mF (mn_PI _ _) <|
  mF (mn_Ic _ _ _) <|
  mF (mn_LI _ _) <|
  mF (mn_LA _ _) <|
  mF (mn_GR _ _ _) <|
  mF (mn_GI _ _ _) <|
  mF (mn_Ic _ _ _) <|
  mF (mn_LI _ _) <|
  mF (mn_PI _ _) <|
  mF (mn_PI _ _) <|
  mF (mn_CS _ mc_X10_isWithin _) <|
  mF (mn_If _ _ _) <|
  mF (mn_LI _ _) <|
  mF (mn_PI _ _) <|
  mF (mn_PI _ _) <|
  mF (mn_CS _ mc_X10_isWithin _) <|
  mF (mn_If _ _ _) <|
  mF (mn_PL _ _) <|
  mF (mn_RL) <|
  mF (mn_LA _ _) <|
  mF (mn_GR _ _ _) <|
  mF (mn_LA _ _) <|
  mF (mn_GR _ _ _) <|
  mF (mn_GI _ _ _) <|
  mF (mn_PI _ _) <|
  mF (mn_CV _ _ mc_X9_allow _) <|
  mF (mn_If _ _ _) <|
  mF (mn_PL _ _) <|
  mF (mn_RL) <|
  mF (mn_LA _ _) <|
  mF (mn_GR _ _ _) <|
  mF (mn_GI _ _ _) <|
  mF (mn_PI _ _) <|
  mF (mn_Ic _ _ _) <|
  mF (mn_PL _ _) <|
  mF (mn_RL) <|
  mF (mn_LA _ _) <|
  mF (mn_GR _ _ _) <|
  mF (mn_LA _ _) <|
  mF (mn_GR _ _ _) <|
  mF (mn_LA _ _) <|
  mF (mn_GR _ _ _) <|
  mF (mn_CV _ _ mc_X3_keep _) <|
  mF (mn_LA _ _) <|
  mF (mn_GR _ _ _) <|
  mF (mn_PI _ _) <|
  mF (mn_WI _ _ _) <|
  mF (mn_LA _ _) <|
  mF (mn_GR _ _ _) <|
  mF (mn_LI _ _) <|
  mF (mn_LI _ _) <|
  mF (mn_LI _ _) <|
  mF (mn_CV _ _ mc_X5_add _) <|
  mF (mn_I2L _) <|
  mF (mn_RL) <|
  mF0
def C_X10_limb : mCo := mRun tb_X10_limb 6
theorem mc_X10_limb : mMC C_X10_limb := mRun_mn mt_X10_limb 6
theorem yi_X10_limb : mYin yX10_limb cX10_limb 6 (some .long) 4 := ⟨wd_49, wd_424, by decide +kernel, by decide⟩
set_option maxRecDepth 100000 in
set_option maxHeartbeats 4000000 in
theorem sd_X10_limb (l : Launch) (B : mBs) (p : Program) (e : Env) (s : State) (m : MethodId) (args : Array Value) (below : List Frame) (meth : Method) (c : Code) (Q : mQo) (X : mCx l B RX10 cX10_limb 6 p s m args c) (hr : meth.sig.returnType = (some .long)) (hk : meth.locks = false) (hn : meth.name = "limb") : ∀ q ∈ tb_X10_limb, mSnd l B 6 p e (mRm 5 0 0) s m args below meth c (MQ below (mPo B Q) args s 0 0 (mA B)) (fun r h' => (h'.1.2.1 ≤ 0 ∧ h'.1.2.2 ≤ 0) ∧ Q r h') q.2 q.1 :=
  mF (sn_aload_n (pc := 0) (j := 0) X (by decide +kernel) rfl) <|
  mF (sn_iload_n (pc := 1) (j := 1) X (by decide +kernel) rfl) <|
  mF (sn_callV (pc := 2) X mc_X10_puppetOf (me_X10_puppetOf l B) yi_X10_puppetOf wd_425 wd_427 wd_0 (T := TX10) (N := 11) rfl (by decide) (by decide +kernel)) <|
  mF (sn_astore (pc := 5) X (by decide +kernel) (by decide)) <|
  mF (sn_aload (pc := 7) X (by decide +kernel)) <|
  mF (sn_ifnull (pc := 9) (off := 41) X (by decide +kernel) (by decide)) <|
  mF (sn_iload_n (pc := 12) (j := 2) X (by decide +kernel) rfl) <|
  mF (sn_iconst (pc := 13) (n := (-1)) X (by decide +kernel) (by decide)) <|
  mF (sn_icmp_lt (pc := 14) (off := 36) X (by decide +kernel) (by decide)) <|
  mF (sn_iload_n (pc := 17) (j := 2) X (by decide +kernel) rfl) <|
  mF (sn_aload (pc := 18) X (by decide +kernel)) <|
  mF (sn_getR (pc := 20) X fd_X10_68 (by decide +kernel)) <|
  mF (sn_getI (pc := 23) X fd_X10_72 (by decide +kernel)) <|
  mF (sn_icmp_ge (pc := 26) (off := 24) X (by decide +kernel) (by decide)) <|
  mF (sn_iload_n (pc := 29) (j := 3) X (by decide +kernel) rfl) <|
  mF (sn_iconst (pc := 30) (n := 1) X (by decide +kernel) (by decide)) <|
  mF (sn_bipush (pc := 31) (n := 100) X (by decide +kernel) (by decide)) <|
  mF (sn_callS (pc := 33) X mc_X10_isWithin (me_X10_isWithin l B) yi_X10_isWithin wd_429 wd_430 (by decide) (by decide +kernel)) <|
  mF (sn_if_eq (pc := 36) (off := 14) X (by decide +kernel) (by decide)) <|
  mF (sn_iload (pc := 39) X (by decide +kernel)) <|
  mF (sn_iconst (pc := 41) (n := 0) X (by decide +kernel) (by decide)) <|
  mF (sn_bipush (pc := 42) (n := 50) X (by decide +kernel) (by decide)) <|
  mF (sn_callS (pc := 44) X mc_X10_isWithin (me_X10_isWithin l B) yi_X10_isWithin wd_429 wd_430 (by decide) (by decide +kernel)) <|
  mF (sn_if_ne (pc := 47) (off := 7) X (by decide +kernel) (by decide)) <|
  mF (sn_ldc2 (pc := 50) X (by decide +kernel) wd_432) <|
  mF (sn_lret (pc := 53) X hr hk (by decide +kernel)) <|
  mF (sn_aload (pc := 54) X (by decide +kernel)) <|
  mF (sn_getR (pc := 56) X fd_X10_84 (by decide +kernel)) <|
  mF (sn_aload (pc := 59) X (by decide +kernel)) <|
  mF (sn_getR (pc := 61) X fd_X10_68 (by decide +kernel)) <|
  mF (sn_getI (pc := 64) X fd_X10_72 (by decide +kernel)) <|
  mF (sn_iconst (pc := 67) (n := 0) X (by decide +kernel) (by decide)) <|
  mF (sn_callV (pc := 68) X mc_X9_allow (me_X9_allow l B) yi_X9_allow wd_433 wd_434 wd_435 (T := TX9) (N := 3) rfl (by decide) (by decide +kernel)) <|
  mF (sn_if_ne (pc := 71) (off := 7) X (by decide +kernel) (by decide)) <|
  mF (sn_ldc2 (pc := 74) X (by decide +kernel) wd_449) <|
  mF (sn_lret (pc := 77) X hr hk (by decide +kernel)) <|
  mF (sn_aload (pc := 78) X (by decide +kernel)) <|
  mF (sn_getR (pc := 80) X fd_X10_68 (by decide +kernel)) <|
  mF (sn_getI (pc := 83) X fd_X10_72 (by decide +kernel)) <|
  mF (sn_bipush (pc := 86) (n := 6) X (by decide +kernel) (by decide)) <|
  mF (sn_icmp_lt (pc := 88) (off := 7) X (by decide +kernel) (by decide)) <|
  mF (sn_ldc2 (pc := 91) X (by decide +kernel) wd_450) <|
  mF (sn_lret (pc := 94) X hr hk (by decide +kernel)) <|
  mF (sn_aload_n (pc := 95) (j := 0) X (by decide +kernel) rfl) <|
  mF (sn_getR (pc := 96) X fd_X10_22 (by decide +kernel)) <|
  mF (sn_aload_n (pc := 99) (j := 0) X (by decide +kernel) rfl) <|
  mF (sn_getR (pc := 100) X fd_X10_10 (by decide +kernel)) <|
  mF (sn_aload_n (pc := 103) (j := 0) X (by decide +kernel) rfl) <|
  mF (sn_getR (pc := 104) X fd_X10_16 (by decide +kernel)) <|
  mF (sn_callV (pc := 107) X mc_X3_keep (me_X3_keep l B) yi_X3_keep wd_451 wd_452 wd_453 (T := TX3) (N := 4) rfl (by decide) (by decide +kernel)) <|
  mF (sn_aload (pc := 110) X (by decide +kernel)) <|
  mF (sn_getR (pc := 112) X fd_X10_102 (by decide +kernel)) <|
  mF (sn_iconst (pc := 115) (n := 0) X (by decide +kernel) (by decide)) <|
  mF (sn_putI (pc := 116) X fd_X10_106 ⟨tyX2_ok, nmX2⟩ rfl rfl (by decide +kernel)) <|
  mF (sn_aload (pc := 119) X (by decide +kernel)) <|
  mF (sn_getR (pc := 121) X fd_X10_68 (by decide +kernel)) <|
  mF (sn_iload_n (pc := 124) (j := 2) X (by decide +kernel) rfl) <|
  mF (sn_iload_n (pc := 125) (j := 3) X (by decide +kernel) rfl) <|
  mF (sn_iload (pc := 126) X (by decide +kernel)) <|
  mF (sn_callV (pc := 128) X mc_X5_add (me_X5_add l B) yi_X5_add wd_497 wd_498 wd_499 (T := TX5) (N := 7) rfl (by decide) (by decide +kernel)) <|
  mF (sn_i2l (pc := 131) X (by decide +kernel)) <|
  mF (sn_lret (pc := 132) X hr hk (by decide +kernel)) <|
  mF0
theorem me_X10_limb (l : Launch) (B : mBs) : mMet l B yX10_limb cX10_limb 6 (some .long) 5 0 0 C_X10_limb := mMet_of (own := RX10) (by decide) rfl (fun p e s m args below meth c Q X hr hk hn => sd_X10_limb l B p e s m args below meth c Q X hr hk hn)
/-! PuppetStage.lose(I)J: 38 instructions, depth 5, makes 0 cells of 0 slots -/
def tb_X10_lose : mTb := [(0, aLA 0 1), (1, aLI 1 2), (2, aCV 10 1 C_X10_puppetOf 5), (5, aSA 2 6), (6, aLA 2 7), (7, aNn 14 10), (10, aPL (-9000000000000000001) 13), (13, aRL), (14, aLA 2 15), (15, aGR 7 0 18), (18, aGI 5 4 21), (21, aIf (fun x => 0 < x) 28 24), (24, aPL (-9000000000000000002) 27), (27, aRL), (28, aLA 0 29), (29, aGR 10 2 32), (32, aLA 0 33), (33, aGR 10 0 36), (36, aLA 0 37), (37, aGR 10 1 40), (40, aCV 3 2 C_X3_keep 43), (43, aLA 2 44), (44, aGR 7 4 47), (47, aPI 0 48), (48, aWI 2 5 51), (51, aLA 2 52), (52, aGR 7 3 55), (55, aLA 2 56), (56, aGR 7 0 59), (59, aGI 5 4 62), (62, aPI 1 63), (63, aB (fun x y => x - y) 64), (64, aCV 4 1 C_X4_removeAllOn 67), (67, aLA 2 68), (68, aGR 7 0 71), (71, aCV 5 0 C_X5_removeLast 74), (74, aI2L 75), (75, aRL)]
theorem mt_X10_lose : mMT tb_X10_lose :=
  mF (mn_LA _ _) <|
  mF (mn_LI _ _) <|
  mF (mn_CV _ _ mc_X10_puppetOf _) <|
  mF (mn_SA _ _) <|
  mF (mn_LA _ _) <|
  mF (mn_Nn _ _) <|
  mF (mn_PL _ _) <|
  mF (mn_RL) <|
  mF (mn_LA _ _) <|
  mF (mn_GR _ _ _) <|
  mF (mn_GI _ _ _) <|
  mF (mn_If _ _ _) <|
  mF (mn_PL _ _) <|
  mF (mn_RL) <|
  mF (mn_LA _ _) <|
  mF (mn_GR _ _ _) <|
  mF (mn_LA _ _) <|
  mF (mn_GR _ _ _) <|
  mF (mn_LA _ _) <|
  mF (mn_GR _ _ _) <|
  mF (mn_CV _ _ mc_X3_keep _) <|
  mF (mn_LA _ _) <|
  mF (mn_GR _ _ _) <|
  mF (mn_PI _ _) <|
  mF (mn_WI _ _ _) <|
  mF (mn_LA _ _) <|
  mF (mn_GR _ _ _) <|
  mF (mn_LA _ _) <|
  mF (mn_GR _ _ _) <|
  mF (mn_GI _ _ _) <|
  mF (mn_PI _ _) <|
  mF (mn_B _ _) <|
  mF (mn_CV _ _ mc_X4_removeAllOn _) <|
  mF (mn_LA _ _) <|
  mF (mn_GR _ _ _) <|
  mF (mn_CV _ _ mc_X5_removeLast _) <|
  mF (mn_I2L _) <|
  mF (mn_RL) <|
  mF0
def C_X10_lose : mCo := mRun tb_X10_lose 3
theorem mc_X10_lose : mMC C_X10_lose := mRun_mn mt_X10_lose 3
theorem yi_X10_lose : mYin yX10_lose cX10_lose 3 (some .long) 1 := ⟨wd_49, wd_504, by decide +kernel, by decide⟩
set_option maxRecDepth 100000 in
set_option maxHeartbeats 4000000 in
theorem sd_X10_lose (l : Launch) (B : mBs) (p : Program) (e : Env) (s : State) (m : MethodId) (args : Array Value) (below : List Frame) (meth : Method) (c : Code) (Q : mQo) (X : mCx l B RX10 cX10_lose 3 p s m args c) (hr : meth.sig.returnType = (some .long)) (hk : meth.locks = false) (hn : meth.name = "lose") : ∀ q ∈ tb_X10_lose, mSnd l B 3 p e (mRm 5 0 0) s m args below meth c (MQ below (mPo B Q) args s 0 0 (mA B)) (fun r h' => (h'.1.2.1 ≤ 0 ∧ h'.1.2.2 ≤ 0) ∧ Q r h') q.2 q.1 :=
  mF (sn_aload_n (pc := 0) (j := 0) X (by decide +kernel) rfl) <|
  mF (sn_iload_n (pc := 1) (j := 1) X (by decide +kernel) rfl) <|
  mF (sn_callV (pc := 2) X mc_X10_puppetOf (me_X10_puppetOf l B) yi_X10_puppetOf wd_425 wd_427 wd_0 (T := TX10) (N := 11) rfl (by decide) (by decide +kernel)) <|
  mF (sn_astore_n (pc := 5) (j := 2) X (by decide +kernel) rfl (by decide)) <|
  mF (sn_aload_n (pc := 6) (j := 2) X (by decide +kernel) rfl) <|
  mF (sn_ifnonnull (pc := 7) (off := 7) X (by decide +kernel) (by decide)) <|
  mF (sn_ldc2 (pc := 10) X (by decide +kernel) wd_432) <|
  mF (sn_lret (pc := 13) X hr hk (by decide +kernel)) <|
  mF (sn_aload_n (pc := 14) (j := 2) X (by decide +kernel) rfl) <|
  mF (sn_getR (pc := 15) X fd_X10_68 (by decide +kernel)) <|
  mF (sn_getI (pc := 18) X fd_X10_72 (by decide +kernel)) <|
  mF (sn_if_gt (pc := 21) (off := 7) X (by decide +kernel) (by decide)) <|
  mF (sn_ldc2 (pc := 24) X (by decide +kernel) wd_449) <|
  mF (sn_lret (pc := 27) X hr hk (by decide +kernel)) <|
  mF (sn_aload_n (pc := 28) (j := 0) X (by decide +kernel) rfl) <|
  mF (sn_getR (pc := 29) X fd_X10_22 (by decide +kernel)) <|
  mF (sn_aload_n (pc := 32) (j := 0) X (by decide +kernel) rfl) <|
  mF (sn_getR (pc := 33) X fd_X10_10 (by decide +kernel)) <|
  mF (sn_aload_n (pc := 36) (j := 0) X (by decide +kernel) rfl) <|
  mF (sn_getR (pc := 37) X fd_X10_16 (by decide +kernel)) <|
  mF (sn_callV (pc := 40) X mc_X3_keep (me_X3_keep l B) yi_X3_keep wd_451 wd_452 wd_453 (T := TX3) (N := 4) rfl (by decide) (by decide +kernel)) <|
  mF (sn_aload_n (pc := 43) (j := 2) X (by decide +kernel) rfl) <|
  mF (sn_getR (pc := 44) X fd_X10_102 (by decide +kernel)) <|
  mF (sn_iconst (pc := 47) (n := 0) X (by decide +kernel) (by decide)) <|
  mF (sn_putI (pc := 48) X fd_X10_106 ⟨tyX2_ok, nmX2⟩ rfl rfl (by decide +kernel)) <|
  mF (sn_aload_n (pc := 51) (j := 2) X (by decide +kernel) rfl) <|
  mF (sn_getR (pc := 52) X fd_X10_115 (by decide +kernel)) <|
  mF (sn_aload_n (pc := 55) (j := 2) X (by decide +kernel) rfl) <|
  mF (sn_getR (pc := 56) X fd_X10_68 (by decide +kernel)) <|
  mF (sn_getI (pc := 59) X fd_X10_72 (by decide +kernel)) <|
  mF (sn_iconst (pc := 62) (n := 1) X (by decide +kernel) (by decide)) <|
  mF (sn_isub (pc := 63) X (by decide +kernel)) <|
  mF (sn_callV (pc := 64) X mc_X4_removeAllOn (me_X4_removeAllOn l B) yi_X4_removeAllOn wd_505 wd_506 wd_507 (T := TX4) (N := 7) rfl (by decide) (by decide +kernel)) <|
  mF (sn_aload_n (pc := 67) (j := 2) X (by decide +kernel) rfl) <|
  mF (sn_getR (pc := 68) X fd_X10_68 (by decide +kernel)) <|
  mF (sn_callV (pc := 71) X mc_X5_removeLast (me_X5_removeLast l B) yi_X5_removeLast wd_517 wd_518 wd_519 (T := TX5) (N := 7) rfl (by decide) (by decide +kernel)) <|
  mF (sn_i2l (pc := 74) X (by decide +kernel)) <|
  mF (sn_lret (pc := 75) X hr hk (by decide +kernel)) <|
  mF0
theorem me_X10_lose (l : Launch) (B : mBs) : mMet l B yX10_lose cX10_lose 3 (some .long) 5 0 0 C_X10_lose := mMet_of (own := RX10) (by decide) rfl (fun p e s m args below meth c Q X hr hk hn => sd_X10_lose l B p e s m args below meth c Q X hr hk hn)
/-! PuppetStage.isPlace(II)Z: 14 instructions, depth 1, makes 0 cells of 0 slots -/
def tb_X10_isPlace : mTb := [(0, aLI 0 1), (1, aPI (-300) 4), (4, aPI 300 7), (7, aCS 3 C_X10_isWithin 10), (10, aIf (fun x => x = 0) 30 13), (13, aLI 1 14), (14, aPI (-300) 17), (17, aPI 300 20), (20, aCS 3 C_X10_isWithin 23), (23, aIf (fun x => x = 0) 30 26), (26, aPI 1 27), (27, aGo 31), (30, aPI 0 31), (31, aRZ)]
theorem mt_X10_isPlace : mMT tb_X10_isPlace :=
  mF (mn_LI _ _) <|
  mF (mn_PI _ _) <|
  mF (mn_PI _ _) <|
  mF (mn_CS _ mc_X10_isWithin _) <|
  mF (mn_If _ _ _) <|
  mF (mn_LI _ _) <|
  mF (mn_PI _ _) <|
  mF (mn_PI _ _) <|
  mF (mn_CS _ mc_X10_isWithin _) <|
  mF (mn_If _ _ _) <|
  mF (mn_PI _ _) <|
  mF (mn_Go _) <|
  mF (mn_PI _ _) <|
  mF (mn_RZ) <|
  mF0
def C_X10_isPlace : mCo := mRun tb_X10_isPlace 2
theorem mc_X10_isPlace : mMC C_X10_isPlace := mRun_mn mt_X10_isPlace 2
theorem yi_X10_isPlace : mYin yX10_isPlace cX10_isPlace 2 (some .boolean) 2 := ⟨wd_49, wd_527, by decide +kernel, by decide⟩
set_option maxRecDepth 100000 in
set_option maxHeartbeats 4000000 in
theorem sd_X10_isPlace (l : Launch) (B : mBs) (p : Program) (e : Env) (s : State) (m : MethodId) (args : Array Value) (below : List Frame) (meth : Method) (c : Code) (Q : mQo) (X : mCx l B RX10 cX10_isPlace 2 p s m args c) (hr : meth.sig.returnType = (some .boolean)) (hk : meth.locks = false) (hn : meth.name = "isPlace") : ∀ q ∈ tb_X10_isPlace, mSnd l B 2 p e (mRm 1 0 0) s m args below meth c (MQ below (mPo B Q) args s 0 0 (mA B)) (fun r h' => (h'.1.2.1 ≤ 0 ∧ h'.1.2.2 ≤ 0) ∧ Q r h') q.2 q.1 :=
  mF (sn_iload_n (pc := 0) (j := 0) X (by decide +kernel) rfl) <|
  mF (sn_sipush (pc := 1) (n := (-300)) X (by decide +kernel) (by decide)) <|
  mF (sn_sipush (pc := 4) (n := 300) X (by decide +kernel) (by decide)) <|
  mF (sn_callS (pc := 7) X mc_X10_isWithin (me_X10_isWithin l B) yi_X10_isWithin wd_429 wd_430 (by decide) (by decide +kernel)) <|
  mF (sn_if_eq (pc := 10) (off := 20) X (by decide +kernel) (by decide)) <|
  mF (sn_iload_n (pc := 13) (j := 1) X (by decide +kernel) rfl) <|
  mF (sn_sipush (pc := 14) (n := (-300)) X (by decide +kernel) (by decide)) <|
  mF (sn_sipush (pc := 17) (n := 300) X (by decide +kernel) (by decide)) <|
  mF (sn_callS (pc := 20) X mc_X10_isWithin (me_X10_isWithin l B) yi_X10_isWithin wd_429 wd_430 (by decide) (by decide +kernel)) <|
  mF (sn_if_eq (pc := 23) (off := 7) X (by decide +kernel) (by decide)) <|
  mF (sn_iconst (pc := 26) (n := 1) X (by decide +kernel) (by decide)) <|
  mF (sn_goto (pc := 27) (off := 4) X (by decide +kernel) (by decide)) <|
  mF (sn_iconst (pc := 30) (n := 0) X (by decide +kernel) (by decide)) <|
  mF (sn_zret (pc := 31) X hr hk (by decide +kernel)) <|
  mF0
theorem me_X10_isPlace (l : Launch) (B : mBs) : mMet l B yX10_isPlace cX10_isPlace 2 (some .boolean) 1 0 0 C_X10_isPlace := mMet_of (own := RX10) (by decide) rfl (fun p e s m args below meth c Q X hr hk hn => sd_X10_isPlace l B p e s m args below meth c Q X hr hk hn)
/-! PuppetStage.pin(III)J: 29 instructions, depth 5, makes 0 cells of 0 slots -/
def tb_X10_pin : mTb := [(0, aLA 0 1), (1, aLI 1 2), (2, aCV 10 1 C_X10_puppetOf 5), (5, aSA 4 7), (7, aLA 4 9), (9, aNu 20 12), (12, aLI 2 13), (13, aLI 3 14), (14, aCS 2 C_X10_isPlace 17), (17, aIf (fun x => x = 0) 20 24), (20, aPL (-9000000000000000001) 23), (23, aRL), (24, aLA 0 25), (25, aGR 10 2 28), (28, aLA 0 29), (29, aGR 10 0 32), (32, aLA 0 33), (33, aGR 10 1 36), (36, aCV 3 2 C_X3_keep 39), (39, aLA 4 41), (41, aGR 7 0 44), (44, aLI 2 45), (45, aWI 5 5 48), (48, aLA 4 50), (50, aGR 7 0 53), (53, aLI 3 54), (54, aWI 5 6 57), (57, aPL 0 58), (58, aRL)]
theorem mt_X10_pin : mMT tb_X10_pin :=
  mF (mn_LA _ _) <|
  mF (mn_LI _ _) <|
  mF (mn_CV _ _ mc_X10_puppetOf _) <|
  mF (mn_SA _ _) <|
  mF (mn_LA _ _) <|
  mF (mn_Nu _ _) <|
  mF (mn_LI _ _) <|
  mF (mn_LI _ _) <|
  mF (mn_CS _ mc_X10_isPlace _) <|
  mF (mn_If _ _ _) <|
  mF (mn_PL _ _) <|
  mF (mn_RL) <|
  mF (mn_LA _ _) <|
  mF (mn_GR _ _ _) <|
  mF (mn_LA _ _) <|
  mF (mn_GR _ _ _) <|
  mF (mn_LA _ _) <|
  mF (mn_GR _ _ _) <|
  mF (mn_CV _ _ mc_X3_keep _) <|
  mF (mn_LA _ _) <|
  mF (mn_GR _ _ _) <|
  mF (mn_LI _ _) <|
  mF (mn_WI _ _ _) <|
  mF (mn_LA _ _) <|
  mF (mn_GR _ _ _) <|
  mF (mn_LI _ _) <|
  mF (mn_WI _ _ _) <|
  mF (mn_PL _ _) <|
  mF (mn_RL) <|
  mF0
def C_X10_pin : mCo := mRun tb_X10_pin 5
theorem mc_X10_pin : mMC C_X10_pin := mRun_mn mt_X10_pin 5
theorem yi_X10_pin : mYin yX10_pin cX10_pin 5 (some .long) 3 := ⟨wd_49, wd_524, by decide +kernel, by decide⟩
set_option maxRecDepth 100000 in
set_option maxHeartbeats 4000000 in
theorem sd_X10_pin (l : Launch) (B : mBs) (p : Program) (e : Env) (s : State) (m : MethodId) (args : Array Value) (below : List Frame) (meth : Method) (c : Code) (Q : mQo) (X : mCx l B RX10 cX10_pin 5 p s m args c) (hr : meth.sig.returnType = (some .long)) (hk : meth.locks = false) (hn : meth.name = "pin") : ∀ q ∈ tb_X10_pin, mSnd l B 5 p e (mRm 5 0 0) s m args below meth c (MQ below (mPo B Q) args s 0 0 (mA B)) (fun r h' => (h'.1.2.1 ≤ 0 ∧ h'.1.2.2 ≤ 0) ∧ Q r h') q.2 q.1 :=
  mF (sn_aload_n (pc := 0) (j := 0) X (by decide +kernel) rfl) <|
  mF (sn_iload_n (pc := 1) (j := 1) X (by decide +kernel) rfl) <|
  mF (sn_callV (pc := 2) X mc_X10_puppetOf (me_X10_puppetOf l B) yi_X10_puppetOf wd_425 wd_427 wd_0 (T := TX10) (N := 11) rfl (by decide) (by decide +kernel)) <|
  mF (sn_astore (pc := 5) X (by decide +kernel) (by decide)) <|
  mF (sn_aload (pc := 7) X (by decide +kernel)) <|
  mF (sn_ifnull (pc := 9) (off := 11) X (by decide +kernel) (by decide)) <|
  mF (sn_iload_n (pc := 12) (j := 2) X (by decide +kernel) rfl) <|
  mF (sn_iload_n (pc := 13) (j := 3) X (by decide +kernel) rfl) <|
  mF (sn_callS (pc := 14) X mc_X10_isPlace (me_X10_isPlace l B) yi_X10_isPlace wd_525 wd_526 (by decide) (by decide +kernel)) <|
  mF (sn_if_ne (pc := 17) (off := 7) X (by decide +kernel) (by decide)) <|
  mF (sn_ldc2 (pc := 20) X (by decide +kernel) wd_432) <|
  mF (sn_lret (pc := 23) X hr hk (by decide +kernel)) <|
  mF (sn_aload_n (pc := 24) (j := 0) X (by decide +kernel) rfl) <|
  mF (sn_getR (pc := 25) X fd_X10_22 (by decide +kernel)) <|
  mF (sn_aload_n (pc := 28) (j := 0) X (by decide +kernel) rfl) <|
  mF (sn_getR (pc := 29) X fd_X10_10 (by decide +kernel)) <|
  mF (sn_aload_n (pc := 32) (j := 0) X (by decide +kernel) rfl) <|
  mF (sn_getR (pc := 33) X fd_X10_16 (by decide +kernel)) <|
  mF (sn_callV (pc := 36) X mc_X3_keep (me_X3_keep l B) yi_X3_keep wd_451 wd_452 wd_453 (T := TX3) (N := 4) rfl (by decide) (by decide +kernel)) <|
  mF (sn_aload (pc := 39) X (by decide +kernel)) <|
  mF (sn_getR (pc := 41) X fd_X10_68 (by decide +kernel)) <|
  mF (sn_iload_n (pc := 44) (j := 2) X (by decide +kernel) rfl) <|
  mF (sn_putI (pc := 45) X fd_X10_132 ⟨tyX5_ok, nmX5⟩ rfl rfl (by decide +kernel)) <|
  mF (sn_aload (pc := 48) X (by decide +kernel)) <|
  mF (sn_getR (pc := 50) X fd_X10_68 (by decide +kernel)) <|
  mF (sn_iload_n (pc := 53) (j := 3) X (by decide +kernel) rfl) <|
  mF (sn_putI (pc := 54) X fd_X10_135 ⟨tyX5_ok, nmX5⟩ rfl rfl (by decide +kernel)) <|
  mF (sn_lconst (pc := 57) (n := 0) X (by decide +kernel) (by decide)) <|
  mF (sn_lret (pc := 58) X hr hk (by decide +kernel)) <|
  mF0
theorem me_X10_pin (l : Launch) (B : mBs) : mMet l B yX10_pin cX10_pin 5 (some .long) 5 0 0 C_X10_pin := mMet_of (own := RX10) (by decide) rfl (fun p e s m args below meth c Q X hr hk hn => sd_X10_pin l B p e s m args below meth c Q X hr hk hn)
/-! PuppetStage.spans(II)J: 27 instructions, depth 5, makes 0 cells of 0 slots -/
def tb_X10_spans : mTb := [(0, aLA 0 1), (1, aLI 1 2), (2, aCV 10 1 C_X10_puppetOf 5), (5, aSA 3 6), (6, aLA 3 7), (7, aNu 20 10), (10, aLI 2 11), (11, aPI (-1) 12), (12, aPI 6 14), (14, aCS 3 C_X10_isWithin 17), (17, aIf (fun x => x = 0) 20 24), (20, aPL (-9000000000000000001) 23), (23, aRL), (24, aLA 0 25), (25, aGR 10 2 28), (28, aLA 0 29), (29, aGR 10 0 32), (32, aLA 0 33), (33, aGR 10 1 36), (36, aCV 3 2 C_X3_keep 39), (39, aLA 3 40), (40, aGR 7 1 43), (43, aLI 2 44), (44, aCV 9 1 C_X9_begin 47), (47, aLI 2 48), (48, aI2L 49), (49, aRL)]
theorem mt_X10_spans : mMT tb_X10_spans :=
  mF (mn_LA _ _) <|
  mF (mn_LI _ _) <|
  mF (mn_CV _ _ mc_X10_puppetOf _) <|
  mF (mn_SA _ _) <|
  mF (mn_LA _ _) <|
  mF (mn_Nu _ _) <|
  mF (mn_LI _ _) <|
  mF (mn_PI _ _) <|
  mF (mn_PI _ _) <|
  mF (mn_CS _ mc_X10_isWithin _) <|
  mF (mn_If _ _ _) <|
  mF (mn_PL _ _) <|
  mF (mn_RL) <|
  mF (mn_LA _ _) <|
  mF (mn_GR _ _ _) <|
  mF (mn_LA _ _) <|
  mF (mn_GR _ _ _) <|
  mF (mn_LA _ _) <|
  mF (mn_GR _ _ _) <|
  mF (mn_CV _ _ mc_X3_keep _) <|
  mF (mn_LA _ _) <|
  mF (mn_GR _ _ _) <|
  mF (mn_LI _ _) <|
  mF (mn_CV _ _ mc_X9_begin _) <|
  mF (mn_LI _ _) <|
  mF (mn_I2L _) <|
  mF (mn_RL) <|
  mF0
def C_X10_spans : mCo := mRun tb_X10_spans 4
theorem mc_X10_spans : mMC C_X10_spans := mRun_mn mt_X10_spans 4
theorem yi_X10_spans : mYin yX10_spans cX10_spans 4 (some .long) 2 := ⟨wd_49, wd_531, by decide +kernel, by decide⟩
set_option maxRecDepth 100000 in
set_option maxHeartbeats 4000000 in
theorem sd_X10_spans (l : Launch) (B : mBs) (p : Program) (e : Env) (s : State) (m : MethodId) (args : Array Value) (below : List Frame) (meth : Method) (c : Code) (Q : mQo) (X : mCx l B RX10 cX10_spans 4 p s m args c) (hr : meth.sig.returnType = (some .long)) (hk : meth.locks = false) (hn : meth.name = "spans") : ∀ q ∈ tb_X10_spans, mSnd l B 4 p e (mRm 5 0 0) s m args below meth c (MQ below (mPo B Q) args s 0 0 (mA B)) (fun r h' => (h'.1.2.1 ≤ 0 ∧ h'.1.2.2 ≤ 0) ∧ Q r h') q.2 q.1 :=
  mF (sn_aload_n (pc := 0) (j := 0) X (by decide +kernel) rfl) <|
  mF (sn_iload_n (pc := 1) (j := 1) X (by decide +kernel) rfl) <|
  mF (sn_callV (pc := 2) X mc_X10_puppetOf (me_X10_puppetOf l B) yi_X10_puppetOf wd_425 wd_427 wd_0 (T := TX10) (N := 11) rfl (by decide) (by decide +kernel)) <|
  mF (sn_astore_n (pc := 5) (j := 3) X (by decide +kernel) rfl (by decide)) <|
  mF (sn_aload_n (pc := 6) (j := 3) X (by decide +kernel) rfl) <|
  mF (sn_ifnull (pc := 7) (off := 13) X (by decide +kernel) (by decide)) <|
  mF (sn_iload_n (pc := 10) (j := 2) X (by decide +kernel) rfl) <|
  mF (sn_iconst (pc := 11) (n := (-1)) X (by decide +kernel) (by decide)) <|
  mF (sn_bipush (pc := 12) (n := 6) X (by decide +kernel) (by decide)) <|
  mF (sn_callS (pc := 14) X mc_X10_isWithin (me_X10_isWithin l B) yi_X10_isWithin wd_429 wd_430 (by decide) (by decide +kernel)) <|
  mF (sn_if_ne (pc := 17) (off := 7) X (by decide +kernel) (by decide)) <|
  mF (sn_ldc2 (pc := 20) X (by decide +kernel) wd_432) <|
  mF (sn_lret (pc := 23) X hr hk (by decide +kernel)) <|
  mF (sn_aload_n (pc := 24) (j := 0) X (by decide +kernel) rfl) <|
  mF (sn_getR (pc := 25) X fd_X10_22 (by decide +kernel)) <|
  mF (sn_aload_n (pc := 28) (j := 0) X (by decide +kernel) rfl) <|
  mF (sn_getR (pc := 29) X fd_X10_10 (by decide +kernel)) <|
  mF (sn_aload_n (pc := 32) (j := 0) X (by decide +kernel) rfl) <|
  mF (sn_getR (pc := 33) X fd_X10_16 (by decide +kernel)) <|
  mF (sn_callV (pc := 36) X mc_X3_keep (me_X3_keep l B) yi_X3_keep wd_451 wd_452 wd_453 (T := TX3) (N := 4) rfl (by decide) (by decide +kernel)) <|
  mF (sn_aload_n (pc := 39) (j := 3) X (by decide +kernel) rfl) <|
  mF (sn_getR (pc := 40) X fd_X10_84 (by decide +kernel)) <|
  mF (sn_iload_n (pc := 43) (j := 2) X (by decide +kernel) rfl) <|
  mF (sn_callV (pc := 44) X mc_X9_begin (me_X9_begin l B) yi_X9_begin wd_532 wd_533 wd_534 (T := TX9) (N := 3) rfl (by decide) (by decide +kernel)) <|
  mF (sn_iload_n (pc := 47) (j := 2) X (by decide +kernel) rfl) <|
  mF (sn_i2l (pc := 48) X (by decide +kernel)) <|
  mF (sn_lret (pc := 49) X hr hk (by decide +kernel)) <|
  mF0
theorem me_X10_spans (l : Launch) (B : mBs) : mMet l B yX10_spans cX10_spans 4 (some .long) 5 0 0 C_X10_spans := mMet_of (own := RX10) (by decide) rfl (fun p e s m args below meth c Q X hr hk hn => sd_X10_spans l B p e s m args below meth c Q X hr hk hn)
/-! PuppetStage.isStep(I)Z: 5 instructions, depth 1, makes 0 cells of 0 slots -/
def tb_X10_isStep : mTb := [(0, aLI 0 1), (1, aPI (-32) 3), (3, aPI 31 5), (5, aCS 3 C_X10_isWithin 8), (8, aRZ)]
theorem mt_X10_isStep : mMT tb_X10_isStep :=
  mF (mn_LI _ _) <|
  mF (mn_PI _ _) <|
  mF (mn_PI _ _) <|
  mF (mn_CS _ mc_X10_isWithin _) <|
  mF (mn_RZ) <|
  mF0
def C_X10_isStep : mCo := mRun tb_X10_isStep 1
theorem mc_X10_isStep : mMC C_X10_isStep := mRun_mn mt_X10_isStep 1
theorem yi_X10_isStep : mYin yX10_isStep cX10_isStep 1 (some .boolean) 1 := ⟨wd_49, wd_542, by decide +kernel, by decide⟩
set_option maxRecDepth 100000 in
set_option maxHeartbeats 4000000 in
theorem sd_X10_isStep (l : Launch) (B : mBs) (p : Program) (e : Env) (s : State) (m : MethodId) (args : Array Value) (below : List Frame) (meth : Method) (c : Code) (Q : mQo) (X : mCx l B RX10 cX10_isStep 1 p s m args c) (hr : meth.sig.returnType = (some .boolean)) (hk : meth.locks = false) (hn : meth.name = "isStep") : ∀ q ∈ tb_X10_isStep, mSnd l B 1 p e (mRm 1 0 0) s m args below meth c (MQ below (mPo B Q) args s 0 0 (mA B)) (fun r h' => (h'.1.2.1 ≤ 0 ∧ h'.1.2.2 ≤ 0) ∧ Q r h') q.2 q.1 :=
  mF (sn_iload_n (pc := 0) (j := 0) X (by decide +kernel) rfl) <|
  mF (sn_bipush (pc := 1) (n := (-32)) X (by decide +kernel) (by decide)) <|
  mF (sn_bipush (pc := 3) (n := 31) X (by decide +kernel) (by decide)) <|
  mF (sn_callS (pc := 5) X mc_X10_isWithin (me_X10_isWithin l B) yi_X10_isWithin wd_429 wd_430 (by decide) (by decide +kernel)) <|
  mF (sn_zret (pc := 8) X hr hk (by decide +kernel)) <|
  mF0
theorem me_X10_isStep (l : Launch) (B : mBs) : mMet l B yX10_isStep cX10_isStep 1 (some .boolean) 1 0 0 C_X10_isStep := mMet_of (own := RX10) (by decide) rfl (fun p e s m args below meth c Q X hr hk hn => sd_X10_isStep l B p e s m args below meth c Q X hr hk hn)
/-! PuppetStage.span(IIII)J: 68 instructions, depth 5, makes 0 cells of 0 slots -/
def tb_X10_span : mTb := [(0, aLA 0 1), (1, aLI 1 2), (2, aCV 10 1 C_X10_puppetOf 5), (5, aSA 5 7), (7, aLA 5 9), (9, aNu 33 12), (12, aLI 3 13), (13, aCS 1 C_X10_isStep 16), (16, aIf (fun x => x = 0) 33 19), (19, aLI 4 21), (21, aCS 1 C_X10_isStep 24), (24, aIf (fun x => x = 0) 33 27), (27, aLI 3 28), (28, aLI 4 30), (30, aIc (fun x y => x ≤ y) 37 33), (33, aPL (-9000000000000000001) 36), (36, aRL), (37, aLA 5 39), (39, aGR 7 1 42), (42, aGI 9 2 45), (45, aPI (-1) 46), (46, aIc (fun x y => x = y) 49 53), (49, aPL (-9000000000000000011) 52), (52, aRL), (53, aLA 5 55), (55, aGR 7 1 58), (58, aLI 2 59), (59, aCV 9 1 C_X9_has 62), (62, aIf (fun x => x = 0) 65 69), (65, aPL (-9000000000000000013) 68), (68, aRL), (69, aLA 5 71), (71, aGR 7 0 74), (74, aLI 2 75), (75, aCV 5 1 C_X5_has 78), (78, aIf (fun x => x = 0) 104 81), (81, aLA 5 83), (83, aGR 7 0 86), (86, aGR 5 3 89), (89, aLI 2 90), (90, aIA 91), (91, aLI 3 92), (92, aLI 4 94), (94, aCS 3 C_X10_isWithin 97), (97, aIf (fun x => x = 0) 100 104), (100, aPL (-9000000000000000002) 103), (103, aRL), (104, aLA 0 105), (105, aGR 10 2 108), (108, aLA 0 109), (109, aGR 10 0 112), (112, aLA 0 113), (113, aGR 10 1 116), (116, aCV 3 2 C_X3_keep 119), (119, aLA 5 121), (121, aGR 7 1 124), (124, aGR 9 0 127), (127, aLI 2 128), (128, aLI 3 129), (129, aIS 130), (130, aLA 5 132), (132, aGR 7 1 135), (135, aGR 9 1 138), (138, aLI 2 139), (139, aLI 4 141), (141, aIS 142), (142, aPL 0 143), (143, aRL)]
theorem mt_X10_span : mMT tb_X10_span :=
  mF (mn_LA _ _) <|
  mF (mn_LI _ _) <|
  mF (mn_CV _ _ mc_X10_puppetOf _) <|
  mF (mn_SA _ _) <|
  mF (mn_LA _ _) <|
  mF (mn_Nu _ _) <|
  mF (mn_LI _ _) <|
  mF (mn_CS _ mc_X10_isStep _) <|
  mF (mn_If _ _ _) <|
  mF (mn_LI _ _) <|
  mF (mn_CS _ mc_X10_isStep _) <|
  mF (mn_If _ _ _) <|
  mF (mn_LI _ _) <|
  mF (mn_LI _ _) <|
  mF (mn_Ic _ _ _) <|
  mF (mn_PL _ _) <|
  mF (mn_RL) <|
  mF (mn_LA _ _) <|
  mF (mn_GR _ _ _) <|
  mF (mn_GI _ _ _) <|
  mF (mn_PI _ _) <|
  mF (mn_Ic _ _ _) <|
  mF (mn_PL _ _) <|
  mF (mn_RL) <|
  mF (mn_LA _ _) <|
  mF (mn_GR _ _ _) <|
  mF (mn_LI _ _) <|
  mF (mn_CV _ _ mc_X9_has _) <|
  mF (mn_If _ _ _) <|
  mF (mn_PL _ _) <|
  mF (mn_RL) <|
  mF (mn_LA _ _) <|
  mF (mn_GR _ _ _) <|
  mF (mn_LI _ _) <|
  mF (mn_CV _ _ mc_X5_has _) <|
  mF (mn_If _ _ _) <|
  mF (mn_LA _ _) <|
  mF (mn_GR _ _ _) <|
  mF (mn_GR _ _ _) <|
  mF (mn_LI _ _) <|
  mF (mn_IA _) <|
  mF (mn_LI _ _) <|
  mF (mn_LI _ _) <|
  mF (mn_CS _ mc_X10_isWithin _) <|
  mF (mn_If _ _ _) <|
  mF (mn_PL _ _) <|
  mF (mn_RL) <|
  mF (mn_LA _ _) <|
  mF (mn_GR _ _ _) <|
  mF (mn_LA _ _) <|
  mF (mn_GR _ _ _) <|
  mF (mn_LA _ _) <|
  mF (mn_GR _ _ _) <|
  mF (mn_CV _ _ mc_X3_keep _) <|
  mF (mn_LA _ _) <|
  mF (mn_GR _ _ _) <|
  mF (mn_GR _ _ _) <|
  mF (mn_LI _ _) <|
  mF (mn_LI _ _) <|
  mF (mn_IS _) <|
  mF (mn_LA _ _) <|
  mF (mn_GR _ _ _) <|
  mF (mn_GR _ _ _) <|
  mF (mn_LI _ _) <|
  mF (mn_LI _ _) <|
  mF (mn_IS _) <|
  mF (mn_PL _ _) <|
  mF (mn_RL) <|
  mF0
def C_X10_span : mCo := mRun tb_X10_span 6
theorem mc_X10_span : mMC C_X10_span := mRun_mn mt_X10_span 6
theorem yi_X10_span : mYin yX10_span cX10_span 6 (some .long) 4 := ⟨wd_49, wd_539, by decide +kernel, by decide⟩
set_option maxRecDepth 100000 in
set_option maxHeartbeats 4000000 in
theorem sd_X10_span (l : Launch) (B : mBs) (p : Program) (e : Env) (s : State) (m : MethodId) (args : Array Value) (below : List Frame) (meth : Method) (c : Code) (Q : mQo) (X : mCx l B RX10 cX10_span 6 p s m args c) (hr : meth.sig.returnType = (some .long)) (hk : meth.locks = false) (hn : meth.name = "span") : ∀ q ∈ tb_X10_span, mSnd l B 6 p e (mRm 5 0 0) s m args below meth c (MQ below (mPo B Q) args s 0 0 (mA B)) (fun r h' => (h'.1.2.1 ≤ 0 ∧ h'.1.2.2 ≤ 0) ∧ Q r h') q.2 q.1 :=
  mF (sn_aload_n (pc := 0) (j := 0) X (by decide +kernel) rfl) <|
  mF (sn_iload_n (pc := 1) (j := 1) X (by decide +kernel) rfl) <|
  mF (sn_callV (pc := 2) X mc_X10_puppetOf (me_X10_puppetOf l B) yi_X10_puppetOf wd_425 wd_427 wd_0 (T := TX10) (N := 11) rfl (by decide) (by decide +kernel)) <|
  mF (sn_astore (pc := 5) X (by decide +kernel) (by decide)) <|
  mF (sn_aload (pc := 7) X (by decide +kernel)) <|
  mF (sn_ifnull (pc := 9) (off := 24) X (by decide +kernel) (by decide)) <|
  mF (sn_iload_n (pc := 12) (j := 3) X (by decide +kernel) rfl) <|
  mF (sn_callS (pc := 13) X mc_X10_isStep (me_X10_isStep l B) yi_X10_isStep wd_540 wd_541 (by decide) (by decide +kernel)) <|
  mF (sn_if_eq (pc := 16) (off := 17) X (by decide +kernel) (by decide)) <|
  mF (sn_iload (pc := 19) X (by decide +kernel)) <|
  mF (sn_callS (pc := 21) X mc_X10_isStep (me_X10_isStep l B) yi_X10_isStep wd_540 wd_541 (by decide) (by decide +kernel)) <|
  mF (sn_if_eq (pc := 24) (off := 9) X (by decide +kernel) (by decide)) <|
  mF (sn_iload_n (pc := 27) (j := 3) X (by decide +kernel) rfl) <|
  mF (sn_iload (pc := 28) X (by decide +kernel)) <|
  mF (sn_icmp_le (pc := 30) (off := 7) X (by decide +kernel) (by decide)) <|
  mF (sn_ldc2 (pc := 33) X (by decide +kernel) wd_432) <|
  mF (sn_lret (pc := 36) X hr hk (by decide +kernel)) <|
  mF (sn_aload (pc := 37) X (by decide +kernel)) <|
  mF (sn_getR (pc := 39) X fd_X10_84 (by decide +kernel)) <|
  mF (sn_getI (pc := 42) X fd_X10_145 (by decide +kernel)) <|
  mF (sn_iconst (pc := 45) (n := (-1)) X (by decide +kernel) (by decide)) <|
  mF (sn_icmp_ne (pc := 46) (off := 7) X (by decide +kernel) (by decide)) <|
  mF (sn_ldc2 (pc := 49) X (by decide +kernel) wd_543) <|
  mF (sn_lret (pc := 52) X hr hk (by decide +kernel)) <|
  mF (sn_aload (pc := 53) X (by decide +kernel)) <|
  mF (sn_getR (pc := 55) X fd_X10_84 (by decide +kernel)) <|
  mF (sn_iload_n (pc := 58) (j := 2) X (by decide +kernel) rfl) <|
  mF (sn_callV (pc := 59) X mc_X9_has (me_X9_has l B) yi_X9_has wd_544 wd_442 wd_443 (T := TX9) (N := 3) rfl (by decide) (by decide +kernel)) <|
  mF (sn_if_ne (pc := 62) (off := 7) X (by decide +kernel) (by decide)) <|
  mF (sn_ldc2 (pc := 65) X (by decide +kernel) wd_545) <|
  mF (sn_lret (pc := 68) X hr hk (by decide +kernel)) <|
  mF (sn_aload (pc := 69) X (by decide +kernel)) <|
  mF (sn_getR (pc := 71) X fd_X10_68 (by decide +kernel)) <|
  mF (sn_iload_n (pc := 74) (j := 2) X (by decide +kernel) rfl) <|
  mF (sn_callV (pc := 75) X mc_X5_has (me_X5_has l B) yi_X5_has wd_546 wd_547 wd_548 (T := TX5) (N := 7) rfl (by decide) (by decide +kernel)) <|
  mF (sn_if_eq (pc := 78) (off := 26) X (by decide +kernel) (by decide)) <|
  mF (sn_aload (pc := 81) X (by decide +kernel)) <|
  mF (sn_getR (pc := 83) X fd_X10_68 (by decide +kernel)) <|
  mF (sn_getR (pc := 86) X fd_X10_156 (by decide +kernel)) <|
  mF (sn_iload_n (pc := 89) (j := 2) X (by decide +kernel) rfl) <|
  mF (sn_iaload (pc := 90) X (by decide +kernel)) <|
  mF (sn_iload_n (pc := 91) (j := 3) X (by decide +kernel) rfl) <|
  mF (sn_iload (pc := 92) X (by decide +kernel)) <|
  mF (sn_callS (pc := 94) X mc_X10_isWithin (me_X10_isWithin l B) yi_X10_isWithin wd_429 wd_430 (by decide) (by decide +kernel)) <|
  mF (sn_if_ne (pc := 97) (off := 7) X (by decide +kernel) (by decide)) <|
  mF (sn_ldc2 (pc := 100) X (by decide +kernel) wd_449) <|
  mF (sn_lret (pc := 103) X hr hk (by decide +kernel)) <|
  mF (sn_aload_n (pc := 104) (j := 0) X (by decide +kernel) rfl) <|
  mF (sn_getR (pc := 105) X fd_X10_22 (by decide +kernel)) <|
  mF (sn_aload_n (pc := 108) (j := 0) X (by decide +kernel) rfl) <|
  mF (sn_getR (pc := 109) X fd_X10_10 (by decide +kernel)) <|
  mF (sn_aload_n (pc := 112) (j := 0) X (by decide +kernel) rfl) <|
  mF (sn_getR (pc := 113) X fd_X10_16 (by decide +kernel)) <|
  mF (sn_callV (pc := 116) X mc_X3_keep (me_X3_keep l B) yi_X3_keep wd_451 wd_452 wd_453 (T := TX3) (N := 4) rfl (by decide) (by decide +kernel)) <|
  mF (sn_aload (pc := 119) X (by decide +kernel)) <|
  mF (sn_getR (pc := 121) X fd_X10_84 (by decide +kernel)) <|
  mF (sn_getR (pc := 124) X fd_X10_159 (by decide +kernel)) <|
  mF (sn_iload_n (pc := 127) (j := 2) X (by decide +kernel) rfl) <|
  mF (sn_iload_n (pc := 128) (j := 3) X (by decide +kernel) rfl) <|
  mF (sn_iastore (pc := 129) X (by decide +kernel)) <|
  mF (sn_aload (pc := 130) X (by decide +kernel)) <|
  mF (sn_getR (pc := 132) X fd_X10_84 (by decide +kernel)) <|
  mF (sn_getR (pc := 135) X fd_X10_162 (by decide +kernel)) <|
  mF (sn_iload_n (pc := 138) (j := 2) X (by decide +kernel) rfl) <|
  mF (sn_iload (pc := 139) X (by decide +kernel)) <|
  mF (sn_iastore (pc := 141) X (by decide +kernel)) <|
  mF (sn_lconst (pc := 142) (n := 0) X (by decide +kernel) (by decide)) <|
  mF (sn_lret (pc := 143) X hr hk (by decide +kernel)) <|
  mF0
theorem me_X10_span (l : Launch) (B : mBs) : mMet l B yX10_span cX10_span 6 (some .long) 5 0 0 C_X10_span := mMet_of (own := RX10) (by decide) rfl (fun p e s m args below meth c Q X hr hk hn => sd_X10_span l B p e s m args below meth c Q X hr hk hn)
/-! PuppetStage.cross(IIII)J: 30 instructions, depth 5, makes 0 cells of 0 slots -/
def tb_X10_cross : mTb := [(0, aLA 0 1), (1, aLI 1 2), (2, aCV 10 1 C_X10_puppetOf 5), (5, aSA 5 7), (7, aLA 5 9), (9, aNu 28 12), (12, aLI 2 13), (13, aLI 3 14), (14, aCS 2 C_X10_isPlace 17), (17, aIf (fun x => x = 0) 28 20), (20, aLI 4 22), (22, aCS 1 C_X10_isStep 25), (25, aIf (fun x => x = 0) 28 32), (28, aPL (-9000000000000000001) 31), (31, aRL), (32, aLA 0 33), (33, aGR 10 2 36), (36, aLA 0 37), (37, aGR 10 0 40), (40, aLA 0 41), (41, aGR 10 1 44), (44, aCV 3 2 C_X3_keep 47), (47, aLA 5 49), (49, aGR 7 2 52), (52, aLI 2 53), (53, aLI 3 54), (54, aLI 4 56), (56, aCV 0 3 C_X0_put 59), (59, aPL 0 60), (60, aRL)]
theorem mt_X10_cross : mMT tb_X10_cross :=
  mF (mn_LA _ _) <|
  mF (mn_LI _ _) <|
  mF (mn_CV _ _ mc_X10_puppetOf _) <|
  mF (mn_SA _ _) <|
  mF (mn_LA _ _) <|
  mF (mn_Nu _ _) <|
  mF (mn_LI _ _) <|
  mF (mn_LI _ _) <|
  mF (mn_CS _ mc_X10_isPlace _) <|
  mF (mn_If _ _ _) <|
  mF (mn_LI _ _) <|
  mF (mn_CS _ mc_X10_isStep _) <|
  mF (mn_If _ _ _) <|
  mF (mn_PL _ _) <|
  mF (mn_RL) <|
  mF (mn_LA _ _) <|
  mF (mn_GR _ _ _) <|
  mF (mn_LA _ _) <|
  mF (mn_GR _ _ _) <|
  mF (mn_LA _ _) <|
  mF (mn_GR _ _ _) <|
  mF (mn_CV _ _ mc_X3_keep _) <|
  mF (mn_LA _ _) <|
  mF (mn_GR _ _ _) <|
  mF (mn_LI _ _) <|
  mF (mn_LI _ _) <|
  mF (mn_LI _ _) <|
  mF (mn_CV _ _ mc_X0_put _) <|
  mF (mn_PL _ _) <|
  mF (mn_RL) <|
  mF0
def C_X10_cross : mCo := mRun tb_X10_cross 6
theorem mc_X10_cross : mMC C_X10_cross := mRun_mn mt_X10_cross 6
theorem yi_X10_cross : mYin yX10_cross cX10_cross 6 (some .long) 4 := ⟨wd_49, wd_553, by decide +kernel, by decide⟩
set_option maxRecDepth 100000 in
set_option maxHeartbeats 4000000 in
theorem sd_X10_cross (l : Launch) (B : mBs) (p : Program) (e : Env) (s : State) (m : MethodId) (args : Array Value) (below : List Frame) (meth : Method) (c : Code) (Q : mQo) (X : mCx l B RX10 cX10_cross 6 p s m args c) (hr : meth.sig.returnType = (some .long)) (hk : meth.locks = false) (hn : meth.name = "cross") : ∀ q ∈ tb_X10_cross, mSnd l B 6 p e (mRm 5 0 0) s m args below meth c (MQ below (mPo B Q) args s 0 0 (mA B)) (fun r h' => (h'.1.2.1 ≤ 0 ∧ h'.1.2.2 ≤ 0) ∧ Q r h') q.2 q.1 :=
  mF (sn_aload_n (pc := 0) (j := 0) X (by decide +kernel) rfl) <|
  mF (sn_iload_n (pc := 1) (j := 1) X (by decide +kernel) rfl) <|
  mF (sn_callV (pc := 2) X mc_X10_puppetOf (me_X10_puppetOf l B) yi_X10_puppetOf wd_425 wd_427 wd_0 (T := TX10) (N := 11) rfl (by decide) (by decide +kernel)) <|
  mF (sn_astore (pc := 5) X (by decide +kernel) (by decide)) <|
  mF (sn_aload (pc := 7) X (by decide +kernel)) <|
  mF (sn_ifnull (pc := 9) (off := 19) X (by decide +kernel) (by decide)) <|
  mF (sn_iload_n (pc := 12) (j := 2) X (by decide +kernel) rfl) <|
  mF (sn_iload_n (pc := 13) (j := 3) X (by decide +kernel) rfl) <|
  mF (sn_callS (pc := 14) X mc_X10_isPlace (me_X10_isPlace l B) yi_X10_isPlace wd_525 wd_526 (by decide) (by decide +kernel)) <|
  mF (sn_if_eq (pc := 17) (off := 11) X (by decide +kernel) (by decide)) <|
  mF (sn_iload (pc := 20) X (by decide +kernel)) <|
  mF (sn_callS (pc := 22) X mc_X10_isStep (me_X10_isStep l B) yi_X10_isStep wd_540 wd_541 (by decide) (by decide +kernel)) <|
  mF (sn_if_ne (pc := 25) (off := 7) X (by decide +kernel) (by decide)) <|
  mF (sn_ldc2 (pc := 28) X (by decide +kernel) wd_432) <|
  mF (sn_lret (pc := 31) X hr hk (by decide +kernel)) <|
  mF (sn_aload_n (pc := 32) (j := 0) X (by decide +kernel) rfl) <|
  mF (sn_getR (pc := 33) X fd_X10_22 (by decide +kernel)) <|
  mF (sn_aload_n (pc := 36) (j := 0) X (by decide +kernel) rfl) <|
  mF (sn_getR (pc := 37) X fd_X10_10 (by decide +kernel)) <|
  mF (sn_aload_n (pc := 40) (j := 0) X (by decide +kernel) rfl) <|
  mF (sn_getR (pc := 41) X fd_X10_16 (by decide +kernel)) <|
  mF (sn_callV (pc := 44) X mc_X3_keep (me_X3_keep l B) yi_X3_keep wd_451 wd_452 wd_453 (T := TX3) (N := 4) rfl (by decide) (by decide +kernel)) <|
  mF (sn_aload (pc := 47) X (by decide +kernel)) <|
  mF (sn_getR (pc := 49) X fd_X10_165 (by decide +kernel)) <|
  mF (sn_iload_n (pc := 52) (j := 2) X (by decide +kernel) rfl) <|
  mF (sn_iload_n (pc := 53) (j := 3) X (by decide +kernel) rfl) <|
  mF (sn_iload (pc := 54) X (by decide +kernel)) <|
  mF (sn_callV (pc := 56) X mc_X0_put (me_X0_put l B) yi_X0_put wd_554 wd_483 wd_484 (T := TX0) (N := 5) rfl (by decide) (by decide +kernel)) <|
  mF (sn_lconst (pc := 59) (n := 0) X (by decide +kernel) (by decide)) <|
  mF (sn_lret (pc := 60) X hr hk (by decide +kernel)) <|
  mF0
theorem me_X10_cross (l : Launch) (B : mBs) : mMet l B yX10_cross cX10_cross 6 (some .long) 5 0 0 C_X10_cross := mMet_of (own := RX10) (by decide) rfl (fun p e s m args below meth c Q X hr hk hn => sd_X10_cross l B p e s m args below meth c Q X hr hk hn)
/-! PuppetStage.isBar(I)Z: 5 instructions, depth 1, makes 0 cells of 0 slots -/
def tb_X10_isBar : mTb := [(0, aLI 0 1), (1, aPI 0 2), (2, aPI 5 3), (3, aCS 3 C_X10_isWithin 6), (6, aRZ)]
theorem mt_X10_isBar : mMT tb_X10_isBar :=
  mF (mn_LI _ _) <|
  mF (mn_PI _ _) <|
  mF (mn_PI _ _) <|
  mF (mn_CS _ mc_X10_isWithin _) <|
  mF (mn_RZ) <|
  mF0
def C_X10_isBar : mCo := mRun tb_X10_isBar 1
theorem mc_X10_isBar : mMC C_X10_isBar := mRun_mn mt_X10_isBar 1
theorem yi_X10_isBar : mYin yX10_isBar cX10_isBar 1 (some .boolean) 1 := ⟨wd_49, wd_561, by decide +kernel, by decide⟩
set_option maxRecDepth 100000 in
set_option maxHeartbeats 4000000 in
theorem sd_X10_isBar (l : Launch) (B : mBs) (p : Program) (e : Env) (s : State) (m : MethodId) (args : Array Value) (below : List Frame) (meth : Method) (c : Code) (Q : mQo) (X : mCx l B RX10 cX10_isBar 1 p s m args c) (hr : meth.sig.returnType = (some .boolean)) (hk : meth.locks = false) (hn : meth.name = "isBar") : ∀ q ∈ tb_X10_isBar, mSnd l B 1 p e (mRm 1 0 0) s m args below meth c (MQ below (mPo B Q) args s 0 0 (mA B)) (fun r h' => (h'.1.2.1 ≤ 0 ∧ h'.1.2.2 ≤ 0) ∧ Q r h') q.2 q.1 :=
  mF (sn_iload_n (pc := 0) (j := 0) X (by decide +kernel) rfl) <|
  mF (sn_iconst (pc := 1) (n := 0) X (by decide +kernel) (by decide)) <|
  mF (sn_iconst (pc := 2) (n := 5) X (by decide +kernel) (by decide)) <|
  mF (sn_callS (pc := 3) X mc_X10_isWithin (me_X10_isWithin l B) yi_X10_isWithin wd_429 wd_430 (by decide) (by decide +kernel)) <|
  mF (sn_zret (pc := 6) X hr hk (by decide +kernel)) <|
  mF0
theorem me_X10_isBar (l : Launch) (B : mBs) : mMet l B yX10_isBar cX10_isBar 1 (some .boolean) 1 0 0 C_X10_isBar := mMet_of (own := RX10) (by decide) rfl (fun p e s m args below meth c Q X hr hk hn => sd_X10_isBar l B p e s m args below meth c Q X hr hk hn)
/-! PuppetStage.bar(IIII)J: 42 instructions, depth 5, makes 0 cells of 0 slots -/
def tb_X10_bar : mTb := [(0, aLA 0 1), (1, aLI 1 2), (2, aCV 10 1 C_X10_puppetOf 5), (5, aSA 5 7), (7, aLA 5 9), (9, aNu 42 12), (12, aLI 2 13), (13, aCS 1 C_X10_isBar 16), (16, aIf (fun x => x = 0) 42 19), (19, aLI 3 20), (20, aPI (-100) 22), (22, aPI 100 24), (24, aCS 3 C_X10_isWithin 27), (27, aIf (fun x => x = 0) 42 30), (30, aLI 4 32), (32, aPI (-100) 34), (34, aPI 100 36), (36, aCS 3 C_X10_isWithin 39), (39, aIf (fun x => x = 0) 42 46), (42, aPL (-9000000000000000001) 45), (45, aRL), (46, aLA 0 47), (47, aGR 10 2 50), (50, aLA 0 51), (51, aGR 10 0 54), (54, aLA 0 55), (55, aGR 10 1 58), (58, aCV 3 2 C_X3_keep 61), (61, aLA 5 63), (63, aGR 7 2 66), (66, aGR 0 0 69), (69, aLI 2 70), (70, aLI 3 71), (71, aIS 72), (72, aLA 5 74), (74, aGR 7 2 77), (77, aGR 0 1 80), (80, aLI 2 81), (81, aLI 4 83), (83, aIS 84), (84, aPL 0 85), (85, aRL)]
theorem mt_X10_bar : mMT tb_X10_bar :=
  mF (mn_LA _ _) <|
  mF (mn_LI _ _) <|
  mF (mn_CV _ _ mc_X10_puppetOf _) <|
  mF (mn_SA _ _) <|
  mF (mn_LA _ _) <|
  mF (mn_Nu _ _) <|
  mF (mn_LI _ _) <|
  mF (mn_CS _ mc_X10_isBar _) <|
  mF (mn_If _ _ _) <|
  mF (mn_LI _ _) <|
  mF (mn_PI _ _) <|
  mF (mn_PI _ _) <|
  mF (mn_CS _ mc_X10_isWithin _) <|
  mF (mn_If _ _ _) <|
  mF (mn_LI _ _) <|
  mF (mn_PI _ _) <|
  mF (mn_PI _ _) <|
  mF (mn_CS _ mc_X10_isWithin _) <|
  mF (mn_If _ _ _) <|
  mF (mn_PL _ _) <|
  mF (mn_RL) <|
  mF (mn_LA _ _) <|
  mF (mn_GR _ _ _) <|
  mF (mn_LA _ _) <|
  mF (mn_GR _ _ _) <|
  mF (mn_LA _ _) <|
  mF (mn_GR _ _ _) <|
  mF (mn_CV _ _ mc_X3_keep _) <|
  mF (mn_LA _ _) <|
  mF (mn_GR _ _ _) <|
  mF (mn_GR _ _ _) <|
  mF (mn_LI _ _) <|
  mF (mn_LI _ _) <|
  mF (mn_IS _) <|
  mF (mn_LA _ _) <|
  mF (mn_GR _ _ _) <|
  mF (mn_GR _ _ _) <|
  mF (mn_LI _ _) <|
  mF (mn_LI _ _) <|
  mF (mn_IS _) <|
  mF (mn_PL _ _) <|
  mF (mn_RL) <|
  mF0
def C_X10_bar : mCo := mRun tb_X10_bar 6
theorem mc_X10_bar : mMC C_X10_bar := mRun_mn mt_X10_bar 6
theorem yi_X10_bar : mYin yX10_bar cX10_bar 6 (some .long) 4 := ⟨wd_49, wd_558, by decide +kernel, by decide⟩
set_option maxRecDepth 100000 in
set_option maxHeartbeats 4000000 in
theorem sd_X10_bar (l : Launch) (B : mBs) (p : Program) (e : Env) (s : State) (m : MethodId) (args : Array Value) (below : List Frame) (meth : Method) (c : Code) (Q : mQo) (X : mCx l B RX10 cX10_bar 6 p s m args c) (hr : meth.sig.returnType = (some .long)) (hk : meth.locks = false) (hn : meth.name = "bar") : ∀ q ∈ tb_X10_bar, mSnd l B 6 p e (mRm 5 0 0) s m args below meth c (MQ below (mPo B Q) args s 0 0 (mA B)) (fun r h' => (h'.1.2.1 ≤ 0 ∧ h'.1.2.2 ≤ 0) ∧ Q r h') q.2 q.1 :=
  mF (sn_aload_n (pc := 0) (j := 0) X (by decide +kernel) rfl) <|
  mF (sn_iload_n (pc := 1) (j := 1) X (by decide +kernel) rfl) <|
  mF (sn_callV (pc := 2) X mc_X10_puppetOf (me_X10_puppetOf l B) yi_X10_puppetOf wd_425 wd_427 wd_0 (T := TX10) (N := 11) rfl (by decide) (by decide +kernel)) <|
  mF (sn_astore (pc := 5) X (by decide +kernel) (by decide)) <|
  mF (sn_aload (pc := 7) X (by decide +kernel)) <|
  mF (sn_ifnull (pc := 9) (off := 33) X (by decide +kernel) (by decide)) <|
  mF (sn_iload_n (pc := 12) (j := 2) X (by decide +kernel) rfl) <|
  mF (sn_callS (pc := 13) X mc_X10_isBar (me_X10_isBar l B) yi_X10_isBar wd_559 wd_560 (by decide) (by decide +kernel)) <|
  mF (sn_if_eq (pc := 16) (off := 26) X (by decide +kernel) (by decide)) <|
  mF (sn_iload_n (pc := 19) (j := 3) X (by decide +kernel) rfl) <|
  mF (sn_bipush (pc := 20) (n := (-100)) X (by decide +kernel) (by decide)) <|
  mF (sn_bipush (pc := 22) (n := 100) X (by decide +kernel) (by decide)) <|
  mF (sn_callS (pc := 24) X mc_X10_isWithin (me_X10_isWithin l B) yi_X10_isWithin wd_429 wd_430 (by decide) (by decide +kernel)) <|
  mF (sn_if_eq (pc := 27) (off := 15) X (by decide +kernel) (by decide)) <|
  mF (sn_iload (pc := 30) X (by decide +kernel)) <|
  mF (sn_bipush (pc := 32) (n := (-100)) X (by decide +kernel) (by decide)) <|
  mF (sn_bipush (pc := 34) (n := 100) X (by decide +kernel) (by decide)) <|
  mF (sn_callS (pc := 36) X mc_X10_isWithin (me_X10_isWithin l B) yi_X10_isWithin wd_429 wd_430 (by decide) (by decide +kernel)) <|
  mF (sn_if_ne (pc := 39) (off := 7) X (by decide +kernel) (by decide)) <|
  mF (sn_ldc2 (pc := 42) X (by decide +kernel) wd_432) <|
  mF (sn_lret (pc := 45) X hr hk (by decide +kernel)) <|
  mF (sn_aload_n (pc := 46) (j := 0) X (by decide +kernel) rfl) <|
  mF (sn_getR (pc := 47) X fd_X10_22 (by decide +kernel)) <|
  mF (sn_aload_n (pc := 50) (j := 0) X (by decide +kernel) rfl) <|
  mF (sn_getR (pc := 51) X fd_X10_10 (by decide +kernel)) <|
  mF (sn_aload_n (pc := 54) (j := 0) X (by decide +kernel) rfl) <|
  mF (sn_getR (pc := 55) X fd_X10_16 (by decide +kernel)) <|
  mF (sn_callV (pc := 58) X mc_X3_keep (me_X3_keep l B) yi_X3_keep wd_451 wd_452 wd_453 (T := TX3) (N := 4) rfl (by decide) (by decide +kernel)) <|
  mF (sn_aload (pc := 61) X (by decide +kernel)) <|
  mF (sn_getR (pc := 63) X fd_X10_165 (by decide +kernel)) <|
  mF (sn_getR (pc := 66) X fd_X10_178 (by decide +kernel)) <|
  mF (sn_iload_n (pc := 69) (j := 2) X (by decide +kernel) rfl) <|
  mF (sn_iload_n (pc := 70) (j := 3) X (by decide +kernel) rfl) <|
  mF (sn_iastore (pc := 71) X (by decide +kernel)) <|
  mF (sn_aload (pc := 72) X (by decide +kernel)) <|
  mF (sn_getR (pc := 74) X fd_X10_165 (by decide +kernel)) <|
  mF (sn_getR (pc := 77) X fd_X10_181 (by decide +kernel)) <|
  mF (sn_iload_n (pc := 80) (j := 2) X (by decide +kernel) rfl) <|
  mF (sn_iload (pc := 81) X (by decide +kernel)) <|
  mF (sn_iastore (pc := 83) X (by decide +kernel)) <|
  mF (sn_lconst (pc := 84) (n := 0) X (by decide +kernel) (by decide)) <|
  mF (sn_lret (pc := 85) X hr hk (by decide +kernel)) <|
  mF0
theorem me_X10_bar (l : Launch) (B : mBs) : mMet l B yX10_bar cX10_bar 6 (some .long) 5 0 0 C_X10_bar := mMet_of (own := RX10) (by decide) rfl (fun p e s m args below meth c Q X hr hk hn => sd_X10_bar l B p e s m args below meth c Q X hr hk hn)
/-! PuppetStage.bend(III)J: 43 instructions, depth 5, makes 0 cells of 0 slots -/
def tb_X10_bend : mTb := [(0, aLA 0 1), (1, aLI 1 2), (2, aCV 10 1 C_X10_puppetOf 5), (5, aSA 4 7), (7, aLA 4 9), (9, aNu 24 12), (12, aLA 4 14), (14, aGR 7 0 17), (17, aLI 2 18), (18, aCV 5 1 C_X5_has 21), (21, aIf (fun x => x = 0) 24 28), (24, aPL (-9000000000000000001) 27), (27, aRL), (28, aLA 4 30), (30, aGR 7 1 33), (33, aLI 2 34), (34, aLI 3 35), (35, aCV 9 2 C_X9_allow 38), (38, aIf (fun x => x = 0) 41 45), (41, aPL (-9000000000000000002) 44), (44, aRL), (45, aLA 0 46), (46, aGR 10 2 49), (49, aLA 0 50), (50, aGR 10 0 53), (53, aLA 0 54), (54, aGR 10 1 57), (57, aCV 3 2 C_X3_keep 60), (60, aLA 4 62), (62, aGR 7 0 65), (65, aGR 5 3 68), (68, aLI 2 69), (69, aIA 70), (70, aSI 5 72), (72, aLA 4 74), (74, aGR 7 0 77), (77, aGR 5 3 80), (80, aLI 2 81), (81, aLI 3 82), (82, aIS 83), (83, aLI 5 85), (85, aI2L 86), (86, aRL)]
theorem mt_X10_bend : mMT tb_X10_bend :=
  mF (mn_LA _ _) <|
  mF (mn_LI _ _) <|
  mF (mn_CV _ _ mc_X10_puppetOf _) <|
  mF (mn_SA _ _) <|
  mF (mn_LA _ _) <|
  mF (mn_Nu _ _) <|
  mF (mn_LA _ _) <|
  mF (mn_GR _ _ _) <|
  mF (mn_LI _ _) <|
  mF (mn_CV _ _ mc_X5_has _) <|
  mF (mn_If _ _ _) <|
  mF (mn_PL _ _) <|
  mF (mn_RL) <|
  mF (mn_LA _ _) <|
  mF (mn_GR _ _ _) <|
  mF (mn_LI _ _) <|
  mF (mn_LI _ _) <|
  mF (mn_CV _ _ mc_X9_allow _) <|
  mF (mn_If _ _ _) <|
  mF (mn_PL _ _) <|
  mF (mn_RL) <|
  mF (mn_LA _ _) <|
  mF (mn_GR _ _ _) <|
  mF (mn_LA _ _) <|
  mF (mn_GR _ _ _) <|
  mF (mn_LA _ _) <|
  mF (mn_GR _ _ _) <|
  mF (mn_CV _ _ mc_X3_keep _) <|
  mF (mn_LA _ _) <|
  mF (mn_GR _ _ _) <|
  mF (mn_GR _ _ _) <|
  mF (mn_LI _ _) <|
  mF (mn_IA _) <|
  mF (mn_SI _ _) <|
  mF (mn_LA _ _) <|
  mF (mn_GR _ _ _) <|
  mF (mn_GR _ _ _) <|
  mF (mn_LI _ _) <|
  mF (mn_LI _ _) <|
  mF (mn_IS _) <|
  mF (mn_LI _ _) <|
  mF (mn_I2L _) <|
  mF (mn_RL) <|
  mF0
def C_X10_bend : mCo := mRun tb_X10_bend 6
theorem mc_X10_bend : mMC C_X10_bend := mRun_mn mt_X10_bend 6
theorem yi_X10_bend : mYin yX10_bend cX10_bend 6 (some .long) 3 := ⟨wd_49, wd_565, by decide +kernel, by decide⟩
set_option maxRecDepth 100000 in
set_option maxHeartbeats 4000000 in
theorem sd_X10_bend (l : Launch) (B : mBs) (p : Program) (e : Env) (s : State) (m : MethodId) (args : Array Value) (below : List Frame) (meth : Method) (c : Code) (Q : mQo) (X : mCx l B RX10 cX10_bend 6 p s m args c) (hr : meth.sig.returnType = (some .long)) (hk : meth.locks = false) (hn : meth.name = "bend") : ∀ q ∈ tb_X10_bend, mSnd l B 6 p e (mRm 5 0 0) s m args below meth c (MQ below (mPo B Q) args s 0 0 (mA B)) (fun r h' => (h'.1.2.1 ≤ 0 ∧ h'.1.2.2 ≤ 0) ∧ Q r h') q.2 q.1 :=
  mF (sn_aload_n (pc := 0) (j := 0) X (by decide +kernel) rfl) <|
  mF (sn_iload_n (pc := 1) (j := 1) X (by decide +kernel) rfl) <|
  mF (sn_callV (pc := 2) X mc_X10_puppetOf (me_X10_puppetOf l B) yi_X10_puppetOf wd_425 wd_427 wd_0 (T := TX10) (N := 11) rfl (by decide) (by decide +kernel)) <|
  mF (sn_astore (pc := 5) X (by decide +kernel) (by decide)) <|
  mF (sn_aload (pc := 7) X (by decide +kernel)) <|
  mF (sn_ifnull (pc := 9) (off := 15) X (by decide +kernel) (by decide)) <|
  mF (sn_aload (pc := 12) X (by decide +kernel)) <|
  mF (sn_getR (pc := 14) X fd_X10_68 (by decide +kernel)) <|
  mF (sn_iload_n (pc := 17) (j := 2) X (by decide +kernel) rfl) <|
  mF (sn_callV (pc := 18) X mc_X5_has (me_X5_has l B) yi_X5_has wd_546 wd_547 wd_548 (T := TX5) (N := 7) rfl (by decide) (by decide +kernel)) <|
  mF (sn_if_ne (pc := 21) (off := 7) X (by decide +kernel) (by decide)) <|
  mF (sn_ldc2 (pc := 24) X (by decide +kernel) wd_432) <|
  mF (sn_lret (pc := 27) X hr hk (by decide +kernel)) <|
  mF (sn_aload (pc := 28) X (by decide +kernel)) <|
  mF (sn_getR (pc := 30) X fd_X10_84 (by decide +kernel)) <|
  mF (sn_iload_n (pc := 33) (j := 2) X (by decide +kernel) rfl) <|
  mF (sn_iload_n (pc := 34) (j := 3) X (by decide +kernel) rfl) <|
  mF (sn_callV (pc := 35) X mc_X9_allow (me_X9_allow l B) yi_X9_allow wd_433 wd_434 wd_435 (T := TX9) (N := 3) rfl (by decide) (by decide +kernel)) <|
  mF (sn_if_ne (pc := 38) (off := 7) X (by decide +kernel) (by decide)) <|
  mF (sn_ldc2 (pc := 41) X (by decide +kernel) wd_449) <|
  mF (sn_lret (pc := 44) X hr hk (by decide +kernel)) <|
  mF (sn_aload_n (pc := 45) (j := 0) X (by decide +kernel) rfl) <|
  mF (sn_getR (pc := 46) X fd_X10_22 (by decide +kernel)) <|
  mF (sn_aload_n (pc := 49) (j := 0) X (by decide +kernel) rfl) <|
  mF (sn_getR (pc := 50) X fd_X10_10 (by decide +kernel)) <|
  mF (sn_aload_n (pc := 53) (j := 0) X (by decide +kernel) rfl) <|
  mF (sn_getR (pc := 54) X fd_X10_16 (by decide +kernel)) <|
  mF (sn_callV (pc := 57) X mc_X3_keep (me_X3_keep l B) yi_X3_keep wd_451 wd_452 wd_453 (T := TX3) (N := 4) rfl (by decide) (by decide +kernel)) <|
  mF (sn_aload (pc := 60) X (by decide +kernel)) <|
  mF (sn_getR (pc := 62) X fd_X10_68 (by decide +kernel)) <|
  mF (sn_getR (pc := 65) X fd_X10_156 (by decide +kernel)) <|
  mF (sn_iload_n (pc := 68) (j := 2) X (by decide +kernel) rfl) <|
  mF (sn_iaload (pc := 69) X (by decide +kernel)) <|
  mF (sn_istore (pc := 70) X (by decide +kernel) (by decide)) <|
  mF (sn_aload (pc := 72) X (by decide +kernel)) <|
  mF (sn_getR (pc := 74) X fd_X10_68 (by decide +kernel)) <|
  mF (sn_getR (pc := 77) X fd_X10_156 (by decide +kernel)) <|
  mF (sn_iload_n (pc := 80) (j := 2) X (by decide +kernel) rfl) <|
  mF (sn_iload_n (pc := 81) (j := 3) X (by decide +kernel) rfl) <|
  mF (sn_iastore (pc := 82) X (by decide +kernel)) <|
  mF (sn_iload (pc := 83) X (by decide +kernel)) <|
  mF (sn_i2l (pc := 85) X (by decide +kernel)) <|
  mF (sn_lret (pc := 86) X hr hk (by decide +kernel)) <|
  mF0
theorem me_X10_bend (l : Launch) (B : mBs) : mMet l B yX10_bend cX10_bend 6 (some .long) 5 0 0 C_X10_bend := mMet_of (own := RX10) (by decide) rfl (fun p e s m args below meth c Q X hr hk hn => sd_X10_bend l B p e s m args below meth c Q X hr hk hn)
/-! PuppetStage.hand(II)J: 29 instructions, depth 5, makes 0 cells of 0 slots -/
def tb_X10_hand : mTb := [(0, aLA 0 1), (1, aLI 1 2), (2, aCV 10 1 C_X10_puppetOf 5), (5, aSA 3 6), (6, aLA 3 7), (7, aNu 19 10), (10, aLI 2 11), (11, aPI 0 12), (12, aPI 1 13), (13, aCS 3 C_X10_isWithin 16), (16, aIf (fun x => x = 0) 19 23), (19, aPL (-9000000000000000001) 22), (22, aRL), (23, aLA 0 24), (24, aGR 10 2 27), (27, aLA 0 28), (28, aGR 10 0 31), (31, aLA 0 32), (32, aGR 10 1 35), (35, aCV 3 2 C_X3_keep 38), (38, aLA 3 39), (39, aGI 7 5 42), (42, aSI 4 44), (44, aLA 3 45), (45, aLI 2 46), (46, aWI 7 5 49), (49, aLI 4 51), (51, aI2L 52), (52, aRL)]
theorem mt_X10_hand : mMT tb_X10_hand :=
  mF (mn_LA _ _) <|
  mF (mn_LI _ _) <|
  mF (mn_CV _ _ mc_X10_puppetOf _) <|
  mF (mn_SA _ _) <|
  mF (mn_LA _ _) <|
  mF (mn_Nu _ _) <|
  mF (mn_LI _ _) <|
  mF (mn_PI _ _) <|
  mF (mn_PI _ _) <|
  mF (mn_CS _ mc_X10_isWithin _) <|
  mF (mn_If _ _ _) <|
  mF (mn_PL _ _) <|
  mF (mn_RL) <|
  mF (mn_LA _ _) <|
  mF (mn_GR _ _ _) <|
  mF (mn_LA _ _) <|
  mF (mn_GR _ _ _) <|
  mF (mn_LA _ _) <|
  mF (mn_GR _ _ _) <|
  mF (mn_CV _ _ mc_X3_keep _) <|
  mF (mn_LA _ _) <|
  mF (mn_GI _ _ _) <|
  mF (mn_SI _ _) <|
  mF (mn_LA _ _) <|
  mF (mn_LI _ _) <|
  mF (mn_WI _ _ _) <|
  mF (mn_LI _ _) <|
  mF (mn_I2L _) <|
  mF (mn_RL) <|
  mF0
def C_X10_hand : mCo := mRun tb_X10_hand 5
theorem mc_X10_hand : mMC C_X10_hand := mRun_mn mt_X10_hand 5
theorem yi_X10_hand : mYin yX10_hand cX10_hand 5 (some .long) 2 := ⟨wd_49, wd_569, by decide +kernel, by decide⟩
set_option maxRecDepth 100000 in
set_option maxHeartbeats 4000000 in
theorem sd_X10_hand (l : Launch) (B : mBs) (p : Program) (e : Env) (s : State) (m : MethodId) (args : Array Value) (below : List Frame) (meth : Method) (c : Code) (Q : mQo) (X : mCx l B RX10 cX10_hand 5 p s m args c) (hr : meth.sig.returnType = (some .long)) (hk : meth.locks = false) (hn : meth.name = "hand") : ∀ q ∈ tb_X10_hand, mSnd l B 5 p e (mRm 5 0 0) s m args below meth c (MQ below (mPo B Q) args s 0 0 (mA B)) (fun r h' => (h'.1.2.1 ≤ 0 ∧ h'.1.2.2 ≤ 0) ∧ Q r h') q.2 q.1 :=
  mF (sn_aload_n (pc := 0) (j := 0) X (by decide +kernel) rfl) <|
  mF (sn_iload_n (pc := 1) (j := 1) X (by decide +kernel) rfl) <|
  mF (sn_callV (pc := 2) X mc_X10_puppetOf (me_X10_puppetOf l B) yi_X10_puppetOf wd_425 wd_427 wd_0 (T := TX10) (N := 11) rfl (by decide) (by decide +kernel)) <|
  mF (sn_astore_n (pc := 5) (j := 3) X (by decide +kernel) rfl (by decide)) <|
  mF (sn_aload_n (pc := 6) (j := 3) X (by decide +kernel) rfl) <|
  mF (sn_ifnull (pc := 7) (off := 12) X (by decide +kernel) (by decide)) <|
  mF (sn_iload_n (pc := 10) (j := 2) X (by decide +kernel) rfl) <|
  mF (sn_iconst (pc := 11) (n := 0) X (by decide +kernel) (by decide)) <|
  mF (sn_iconst (pc := 12) (n := 1) X (by decide +kernel) (by decide)) <|
  mF (sn_callS (pc := 13) X mc_X10_isWithin (me_X10_isWithin l B) yi_X10_isWithin wd_429 wd_430 (by decide) (by decide +kernel)) <|
  mF (sn_if_ne (pc := 16) (off := 7) X (by decide +kernel) (by decide)) <|
  mF (sn_ldc2 (pc := 19) X (by decide +kernel) wd_432) <|
  mF (sn_lret (pc := 22) X hr hk (by decide +kernel)) <|
  mF (sn_aload_n (pc := 23) (j := 0) X (by decide +kernel) rfl) <|
  mF (sn_getR (pc := 24) X fd_X10_22 (by decide +kernel)) <|
  mF (sn_aload_n (pc := 27) (j := 0) X (by decide +kernel) rfl) <|
  mF (sn_getR (pc := 28) X fd_X10_10 (by decide +kernel)) <|
  mF (sn_aload_n (pc := 31) (j := 0) X (by decide +kernel) rfl) <|
  mF (sn_getR (pc := 32) X fd_X10_16 (by decide +kernel)) <|
  mF (sn_callV (pc := 35) X mc_X3_keep (me_X3_keep l B) yi_X3_keep wd_451 wd_452 wd_453 (T := TX3) (N := 4) rfl (by decide) (by decide +kernel)) <|
  mF (sn_aload_n (pc := 38) (j := 3) X (by decide +kernel) rfl) <|
  mF (sn_getI (pc := 39) X fd_X10_184 (by decide +kernel)) <|
  mF (sn_istore (pc := 42) X (by decide +kernel) (by decide)) <|
  mF (sn_aload_n (pc := 44) (j := 3) X (by decide +kernel) rfl) <|
  mF (sn_iload_n (pc := 45) (j := 2) X (by decide +kernel) rfl) <|
  mF (sn_putI (pc := 46) X fd_X10_184 ⟨tyX7_ok, nmX7⟩ rfl rfl (by decide +kernel)) <|
  mF (sn_iload (pc := 49) X (by decide +kernel)) <|
  mF (sn_i2l (pc := 51) X (by decide +kernel)) <|
  mF (sn_lret (pc := 52) X hr hk (by decide +kernel)) <|
  mF0
theorem me_X10_hand (l : Launch) (B : mBs) : mMet l B yX10_hand cX10_hand 5 (some .long) 5 0 0 C_X10_hand := mMet_of (own := RX10) (by decide) rfl (fun p e s m args below meth c Q X hr hk hn => sd_X10_hand l B p e s m args below meth c Q X hr hk hn)
/-! PuppetStage.about(II)J: 73 instructions, depth 1, makes 0 cells of 0 slots -/
def tb_X10_about_c0 : mTb := [(0, aLA 0 1), (1, aLI 1 2), (2, aCV 10 1 C_X10_puppetOf 5), (5, aSA 3 6), (6, aLA 3 7), (7, aNn 14 10), (10, aPL (-9000000000000000001) 13), (13, aRL), (14, aLI 2 15), (15, aTs [(0, 72), (1, 81), (2, 90), (3, 99), (4, 108), (5, 117), (6, 123), (7, 132), (8, 141), (9, 167), (10, 176)] 185), (72, aLA 3 73), (73, aGR 7 0 76), (76, aGI 5 4 79), (79, aI2L 80), (80, aRL), (81, aLA 3 82), (82, aGR 7 3 85), (85, aGI 4 6 88), (88, aI2L 89), (89, aRL), (90, aLA 3 91), (91, aGR 7 2 94), (94, aGI 0 2 97), (97, aI2L 98), (98, aRL), (99, aLA 3 100), (100, aGR 7 2 103), (103, aGI 0 3 106), (106, aI2L 107), (107, aRL), (108, aLA 3 109), (109, aGR 7 2 112), (112, aGI 0 4 115), (115, aI2L 116), (116, aRL), (117, aLA 3 118), (118, aGI 7 5 121), (121, aI2L 122), (122, aRL), (123, aLA 3 124), (124, aGR 7 4 127), (127, aGI 2 4 130), (130, aI2L 131), (131, aRL), (132, aLA 3 133), (133, aGR 7 4 136), (136, aGI 2 5 139), (139, aI2L 140), (140, aRL), (141, aLA 3 142), (142, aGR 7 1 145), (145, aGI 9 2 148), (148, aPI (-1) 149), (149, aIc (fun x y => x = y) 152 158), (152, aPL (-9000000000000000005) 155), (155, aGo 166), (158, aLA 3 159), (159, aGR 7 1 162), (162, aGI 9 2 165), (165, aI2L 166), (166, aRL), (167, aLA 3 168), (168, aGR 7 0 171), (171, aGI 5 5 174), (174, aI2L 175), (175, aRL), (176, aLA 3 177), (177, aGR 7 0 180), (180, aGI 5 6 183), (183, aI2L 184)]
theorem mt_X10_about_c0 : mMT tb_X10_about_c0 :=
  mF (mn_LA _ _) <|
  mF (mn_LI _ _) <|
  mF (mn_CV _ _ mc_X10_puppetOf _) <|
  mF (mn_SA _ _) <|
  mF (mn_LA _ _) <|
  mF (mn_Nn _ _) <|
  mF (mn_PL _ _) <|
  mF (mn_RL) <|
  mF (mn_LI _ _) <|
  mF (mn_Ts _ _) <|
  mF (mn_LA _ _) <|
  mF (mn_GR _ _ _) <|
  mF (mn_GI _ _ _) <|
  mF (mn_I2L _) <|
  mF (mn_RL) <|
  mF (mn_LA _ _) <|
  mF (mn_GR _ _ _) <|
  mF (mn_GI _ _ _) <|
  mF (mn_I2L _) <|
  mF (mn_RL) <|
  mF (mn_LA _ _) <|
  mF (mn_GR _ _ _) <|
  mF (mn_GI _ _ _) <|
  mF (mn_I2L _) <|
  mF (mn_RL) <|
  mF (mn_LA _ _) <|
  mF (mn_GR _ _ _) <|
  mF (mn_GI _ _ _) <|
  mF (mn_I2L _) <|
  mF (mn_RL) <|
  mF (mn_LA _ _) <|
  mF (mn_GR _ _ _) <|
  mF (mn_GI _ _ _) <|
  mF (mn_I2L _) <|
  mF (mn_RL) <|
  mF (mn_LA _ _) <|
  mF (mn_GI _ _ _) <|
  mF (mn_I2L _) <|
  mF (mn_RL) <|
  mF (mn_LA _ _) <|
  mF (mn_GR _ _ _) <|
  mF (mn_GI _ _ _) <|
  mF (mn_I2L _) <|
  mF (mn_RL) <|
  mF (mn_LA _ _) <|
  mF (mn_GR _ _ _) <|
  mF (mn_GI _ _ _) <|
  mF (mn_I2L _) <|
  mF (mn_RL) <|
  mF (mn_LA _ _) <|
  mF (mn_GR _ _ _) <|
  mF (mn_GI _ _ _) <|
  mF (mn_PI _ _) <|
  mF (mn_Ic _ _ _) <|
  mF (mn_PL _ _) <|
  mF (mn_Go _) <|
  mF (mn_LA _ _) <|
  mF (mn_GR _ _ _) <|
  mF (mn_GI _ _ _) <|
  mF (mn_I2L _) <|
  mF (mn_RL) <|
  mF (mn_LA _ _) <|
  mF (mn_GR _ _ _) <|
  mF (mn_GI _ _ _) <|
  mF (mn_I2L _) <|
  mF (mn_RL) <|
  mF (mn_LA _ _) <|
  mF (mn_GR _ _ _) <|
  mF (mn_GI _ _ _) <|
  mF (mn_I2L _) <|
  mF0
def tb_X10_about_c1 : mTb := [(184, aRL), (185, aPL (-9000000000000000001) 188), (188, aRL)]
theorem mt_X10_about_c1 : mMT tb_X10_about_c1 :=
  mF (mn_RL) <|
  mF (mn_PL _ _) <|
  mF (mn_RL) <|
  mF0
def tb_X10_about : mTb := tb_X10_about_c0 ++ (tb_X10_about_c1)
theorem mt_X10_about : mMT tb_X10_about := mFA mt_X10_about_c0 mt_X10_about_c1
def C_X10_about : mCo := mRun tb_X10_about 4
theorem mc_X10_about : mMC C_X10_about := mRun_mn mt_X10_about 4
theorem yi_X10_about : mYin yX10_about cX10_about 4 (some .long) 2 := ⟨wd_49, wd_573, by decide +kernel, by decide⟩
set_option maxRecDepth 100000 in
set_option maxHeartbeats 4000000 in
theorem sd_X10_about_c0 (l : Launch) (B : mBs) (p : Program) (e : Env) (s : State) (m : MethodId) (args : Array Value) (below : List Frame) (meth : Method) (c : Code) (Q : mQo) (X : mCx l B RX10 cX10_about 4 p s m args c) (hr : meth.sig.returnType = (some .long)) (hk : meth.locks = false) (hn : meth.name = "about") : ∀ q ∈ tb_X10_about_c0, mSnd l B 4 p e (mRm 1 0 0) s m args below meth c (MQ below (mPo B Q) args s 0 0 (mA B)) (fun r h' => (h'.1.2.1 ≤ 0 ∧ h'.1.2.2 ≤ 0) ∧ Q r h') q.2 q.1 :=
  mF (sn_aload_n (pc := 0) (j := 0) X (by decide +kernel) rfl) <|
  mF (sn_iload_n (pc := 1) (j := 1) X (by decide +kernel) rfl) <|
  mF (sn_callV (pc := 2) X mc_X10_puppetOf (me_X10_puppetOf l B) yi_X10_puppetOf wd_425 wd_427 wd_0 (T := TX10) (N := 11) rfl (by decide) (by decide +kernel)) <|
  mF (sn_astore_n (pc := 5) (j := 3) X (by decide +kernel) rfl (by decide)) <|
  mF (sn_aload_n (pc := 6) (j := 3) X (by decide +kernel) rfl) <|
  mF (sn_ifnonnull (pc := 7) (off := 7) X (by decide +kernel) (by decide)) <|
  mF (sn_ldc2 (pc := 10) X (by decide +kernel) wd_432) <|
  mF (sn_lret (pc := 13) X hr hk (by decide +kernel)) <|
  mF (sn_iload_n (pc := 14) (j := 2) X (by decide +kernel) rfl) <|
  mF (sn_ts (pc := 15) (dflt := 170) (lo := 0) (hi := 10) (offs := #[57, 66, 75, 84, 93, 102, 108, 117, 126, 152, 161]) (len := 57) X (by decide +kernel) ⟨by decide, by decide, by decide⟩) <|
  mF (sn_aload_n (pc := 72) (j := 3) X (by decide +kernel) rfl) <|
  mF (sn_getR (pc := 73) X fd_X10_68 (by decide +kernel)) <|
  mF (sn_getI (pc := 76) X fd_X10_72 (by decide +kernel)) <|
  mF (sn_i2l (pc := 79) X (by decide +kernel)) <|
  mF (sn_lret (pc := 80) X hr hk (by decide +kernel)) <|
  mF (sn_aload_n (pc := 81) (j := 3) X (by decide +kernel) rfl) <|
  mF (sn_getR (pc := 82) X fd_X10_115 (by decide +kernel)) <|
  mF (sn_getI (pc := 85) X fd_X10_187 (by decide +kernel)) <|
  mF (sn_i2l (pc := 88) X (by decide +kernel)) <|
  mF (sn_lret (pc := 89) X hr hk (by decide +kernel)) <|
  mF (sn_aload_n (pc := 90) (j := 3) X (by decide +kernel) rfl) <|
  mF (sn_getR (pc := 91) X fd_X10_165 (by decide +kernel)) <|
  mF (sn_getI (pc := 94) X fd_X10_188 (by decide +kernel)) <|
  mF (sn_i2l (pc := 97) X (by decide +kernel)) <|
  mF (sn_lret (pc := 98) X hr hk (by decide +kernel)) <|
  mF (sn_aload_n (pc := 99) (j := 3) X (by decide +kernel) rfl) <|
  mF (sn_getR (pc := 100) X fd_X10_165 (by decide +kernel)) <|
  mF (sn_getI (pc := 103) X fd_X10_191 (by decide +kernel)) <|
  mF (sn_i2l (pc := 106) X (by decide +kernel)) <|
  mF (sn_lret (pc := 107) X hr hk (by decide +kernel)) <|
  mF (sn_aload_n (pc := 108) (j := 3) X (by decide +kernel) rfl) <|
  mF (sn_getR (pc := 109) X fd_X10_165 (by decide +kernel)) <|
  mF (sn_getI (pc := 112) X fd_X10_194 (by decide +kernel)) <|
  mF (sn_i2l (pc := 115) X (by decide +kernel)) <|
  mF (sn_lret (pc := 116) X hr hk (by decide +kernel)) <|
  mF (sn_aload_n (pc := 117) (j := 3) X (by decide +kernel) rfl) <|
  mF (sn_getI (pc := 118) X fd_X10_184 (by decide +kernel)) <|
  mF (sn_i2l (pc := 121) X (by decide +kernel)) <|
  mF (sn_lret (pc := 122) X hr hk (by decide +kernel)) <|
  mF (sn_aload_n (pc := 123) (j := 3) X (by decide +kernel) rfl) <|
  mF (sn_getR (pc := 124) X fd_X10_102 (by decide +kernel)) <|
  mF (sn_getI (pc := 127) X fd_X10_197 (by decide +kernel)) <|
  mF (sn_i2l (pc := 130) X (by decide +kernel)) <|
  mF (sn_lret (pc := 131) X hr hk (by decide +kernel)) <|
  mF (sn_aload_n (pc := 132) (j := 3) X (by decide +kernel) rfl) <|
  mF (sn_getR (pc := 133) X fd_X10_102 (by decide +kernel)) <|
  mF (sn_getI (pc := 136) X fd_X10_106 (by decide +kernel)) <|
  mF (sn_i2l (pc := 139) X (by decide +kernel)) <|
  mF (sn_lret (pc := 140) X hr hk (by decide +kernel)) <|
  mF (sn_aload_n (pc := 141) (j := 3) X (by decide +kernel) rfl) <|
  mF (sn_getR (pc := 142) X fd_X10_84 (by decide +kernel)) <|
  mF (sn_getI (pc := 145) X fd_X10_145 (by decide +kernel)) <|
  mF (sn_iconst (pc := 148) (n := (-1)) X (by decide +kernel) (by decide)) <|
  mF (sn_icmp_ne (pc := 149) (off := 9) X (by decide +kernel) (by decide)) <|
  mF (sn_ldc2 (pc := 152) X (by decide +kernel) wd_574) <|
  mF (sn_goto (pc := 155) (off := 11) X (by decide +kernel) (by decide)) <|
  mF (sn_aload_n (pc := 158) (j := 3) X (by decide +kernel) rfl) <|
  mF (sn_getR (pc := 159) X fd_X10_84 (by decide +kernel)) <|
  mF (sn_getI (pc := 162) X fd_X10_145 (by decide +kernel)) <|
  mF (sn_i2l (pc := 165) X (by decide +kernel)) <|
  mF (sn_lret (pc := 166) X hr hk (by decide +kernel)) <|
  mF (sn_aload_n (pc := 167) (j := 3) X (by decide +kernel) rfl) <|
  mF (sn_getR (pc := 168) X fd_X10_68 (by decide +kernel)) <|
  mF (sn_getI (pc := 171) X fd_X10_132 (by decide +kernel)) <|
  mF (sn_i2l (pc := 174) X (by decide +kernel)) <|
  mF (sn_lret (pc := 175) X hr hk (by decide +kernel)) <|
  mF (sn_aload_n (pc := 176) (j := 3) X (by decide +kernel) rfl) <|
  mF (sn_getR (pc := 177) X fd_X10_68 (by decide +kernel)) <|
  mF (sn_getI (pc := 180) X fd_X10_135 (by decide +kernel)) <|
  mF (sn_i2l (pc := 183) X (by decide +kernel)) <|
  mF0
set_option maxRecDepth 100000 in
set_option maxHeartbeats 4000000 in
theorem sd_X10_about_c1 (l : Launch) (B : mBs) (p : Program) (e : Env) (s : State) (m : MethodId) (args : Array Value) (below : List Frame) (meth : Method) (c : Code) (Q : mQo) (X : mCx l B RX10 cX10_about 4 p s m args c) (hr : meth.sig.returnType = (some .long)) (hk : meth.locks = false) (hn : meth.name = "about") : ∀ q ∈ tb_X10_about_c1, mSnd l B 4 p e (mRm 1 0 0) s m args below meth c (MQ below (mPo B Q) args s 0 0 (mA B)) (fun r h' => (h'.1.2.1 ≤ 0 ∧ h'.1.2.2 ≤ 0) ∧ Q r h') q.2 q.1 :=
  mF (sn_lret (pc := 184) X hr hk (by decide +kernel)) <|
  mF (sn_ldc2 (pc := 185) X (by decide +kernel) wd_432) <|
  mF (sn_lret (pc := 188) X hr hk (by decide +kernel)) <|
  mF0
theorem sd_X10_about (l : Launch) (B : mBs) (p : Program) (e : Env) (s : State) (m : MethodId) (args : Array Value) (below : List Frame) (meth : Method) (c : Code) (Q : mQo) (X : mCx l B RX10 cX10_about 4 p s m args c) (hr : meth.sig.returnType = (some .long)) (hk : meth.locks = false) (hn : meth.name = "about") : ∀ q ∈ tb_X10_about, mSnd l B 4 p e (mRm 1 0 0) s m args below meth c (MQ below (mPo B Q) args s 0 0 (mA B)) (fun r h' => (h'.1.2.1 ≤ 0 ∧ h'.1.2.2 ≤ 0) ∧ Q r h') q.2 q.1 := mFA (sd_X10_about_c0 l B p e s m args below meth c Q X hr hk hn) (sd_X10_about_c1 l B p e s m args below meth c Q X hr hk hn)
theorem me_X10_about (l : Launch) (B : mBs) : mMet l B yX10_about cX10_about 4 (some .long) 1 0 0 C_X10_about := mMet_of (own := RX10) (by decide) rfl (fun p e s m args below meth c Q X hr hk hn => sd_X10_about l B p e s m args below meth c Q X hr hk hn)
/-! PuppetStage.told(III)J: 69 instructions, depth 2, makes 0 cells of 0 slots -/
def tb_X10_told : mTb := [(0, aLA 0 1), (1, aLI 1 2), (2, aCV 10 1 C_X10_puppetOf 5), (5, aSA 4 7), (7, aLA 4 9), (9, aNu 24 12), (12, aLA 4 14), (14, aGR 7 0 17), (17, aLI 2 18), (18, aCV 5 1 C_X5_has 21), (21, aIf (fun x => x = 0) 24 28), (24, aPL (-9000000000000000001) 27), (27, aRL), (28, aLI 3 29), (29, aTs [(0, 72), (1, 84), (2, 96), (3, 108), (4, 120), (5, 143), (6, 154)] 165), (72, aLA 4 74), (74, aGR 7 0 77), (77, aGR 5 0 80), (80, aLI 2 81), (81, aIA 82), (82, aI2L 83), (83, aRL), (84, aLA 4 86), (86, aGR 7 0 89), (89, aGR 5 1 92), (92, aLI 2 93), (93, aIA 94), (94, aI2L 95), (95, aRL), (96, aLA 4 98), (98, aGR 7 0 101), (101, aGR 5 2 104), (104, aLI 2 105), (105, aIA 106), (106, aI2L 107), (107, aRL), (108, aLA 4 110), (110, aGR 7 0 113), (113, aGR 5 3 116), (116, aLI 2 117), (117, aIA 118), (118, aI2L 119), (119, aRL), (120, aLA 0 121), (121, aGR 10 3 124), (124, aLA 4 126), (126, aGR 7 0 129), (129, aCV 1 1 C_X1_layLimbs 132), (132, aLA 0 133), (133, aGR 10 3 136), (136, aGR 1 0 139), (139, aLI 2 140), (140, aIA 141), (141, aI2L 142), (142, aRL), (143, aLA 4 145), (145, aGR 7 1 148), (148, aLI 2 149), (149, aCV 9 1 C_X9_leastOf 152), (152, aI2L 153), (153, aRL), (154, aLA 4 156), (156, aGR 7 1 159), (159, aLI 2 160), (160, aCV 9 1 C_X9_greatestOf 163), (163, aI2L 164), (164, aRL), (165, aPL (-9000000000000000001) 168), (168, aRL)]
theorem mt_X10_told : mMT tb_X10_told :=
  mF (mn_LA _ _) <|
  mF (mn_LI _ _) <|
  mF (mn_CV _ _ mc_X10_puppetOf _) <|
  mF (mn_SA _ _) <|
  mF (mn_LA _ _) <|
  mF (mn_Nu _ _) <|
  mF (mn_LA _ _) <|
  mF (mn_GR _ _ _) <|
  mF (mn_LI _ _) <|
  mF (mn_CV _ _ mc_X5_has _) <|
  mF (mn_If _ _ _) <|
  mF (mn_PL _ _) <|
  mF (mn_RL) <|
  mF (mn_LI _ _) <|
  mF (mn_Ts _ _) <|
  mF (mn_LA _ _) <|
  mF (mn_GR _ _ _) <|
  mF (mn_GR _ _ _) <|
  mF (mn_LI _ _) <|
  mF (mn_IA _) <|
  mF (mn_I2L _) <|
  mF (mn_RL) <|
  mF (mn_LA _ _) <|
  mF (mn_GR _ _ _) <|
  mF (mn_GR _ _ _) <|
  mF (mn_LI _ _) <|
  mF (mn_IA _) <|
  mF (mn_I2L _) <|
  mF (mn_RL) <|
  mF (mn_LA _ _) <|
  mF (mn_GR _ _ _) <|
  mF (mn_GR _ _ _) <|
  mF (mn_LI _ _) <|
  mF (mn_IA _) <|
  mF (mn_I2L _) <|
  mF (mn_RL) <|
  mF (mn_LA _ _) <|
  mF (mn_GR _ _ _) <|
  mF (mn_GR _ _ _) <|
  mF (mn_LI _ _) <|
  mF (mn_IA _) <|
  mF (mn_I2L _) <|
  mF (mn_RL) <|
  mF (mn_LA _ _) <|
  mF (mn_GR _ _ _) <|
  mF (mn_LA _ _) <|
  mF (mn_GR _ _ _) <|
  mF (mn_CV _ _ mc_X1_layLimbs _) <|
  mF (mn_LA _ _) <|
  mF (mn_GR _ _ _) <|
  mF (mn_GR _ _ _) <|
  mF (mn_LI _ _) <|
  mF (mn_IA _) <|
  mF (mn_I2L _) <|
  mF (mn_RL) <|
  mF (mn_LA _ _) <|
  mF (mn_GR _ _ _) <|
  mF (mn_LI _ _) <|
  mF (mn_CV _ _ mc_X9_leastOf _) <|
  mF (mn_I2L _) <|
  mF (mn_RL) <|
  mF (mn_LA _ _) <|
  mF (mn_GR _ _ _) <|
  mF (mn_LI _ _) <|
  mF (mn_CV _ _ mc_X9_greatestOf _) <|
  mF (mn_I2L _) <|
  mF (mn_RL) <|
  mF (mn_PL _ _) <|
  mF (mn_RL) <|
  mF0
def C_X10_told : mCo := mRun tb_X10_told 5
theorem mc_X10_told : mMC C_X10_told := mRun_mn mt_X10_told 5
theorem yi_X10_told : mYin yX10_told cX10_told 5 (some .long) 3 := ⟨wd_49, wd_578, by decide +kernel, by decide⟩
set_option maxRecDepth 100000 in
set_option maxHeartbeats 4000000 in
theorem sd_X10_told (l : Launch) (B : mBs) (p : Program) (e : Env) (s : State) (m : MethodId) (args : Array Value) (below : List Frame) (meth : Method) (c : Code) (Q : mQo) (X : mCx l B RX10 cX10_told 5 p s m args c) (hr : meth.sig.returnType = (some .long)) (hk : meth.locks = false) (hn : meth.name = "told") : ∀ q ∈ tb_X10_told, mSnd l B 5 p e (mRm 2 0 0) s m args below meth c (MQ below (mPo B Q) args s 0 0 (mA B)) (fun r h' => (h'.1.2.1 ≤ 0 ∧ h'.1.2.2 ≤ 0) ∧ Q r h') q.2 q.1 :=
  mF (sn_aload_n (pc := 0) (j := 0) X (by decide +kernel) rfl) <|
  mF (sn_iload_n (pc := 1) (j := 1) X (by decide +kernel) rfl) <|
  mF (sn_callV (pc := 2) X mc_X10_puppetOf (me_X10_puppetOf l B) yi_X10_puppetOf wd_425 wd_427 wd_0 (T := TX10) (N := 11) rfl (by decide) (by decide +kernel)) <|
  mF (sn_astore (pc := 5) X (by decide +kernel) (by decide)) <|
  mF (sn_aload (pc := 7) X (by decide +kernel)) <|
  mF (sn_ifnull (pc := 9) (off := 15) X (by decide +kernel) (by decide)) <|
  mF (sn_aload (pc := 12) X (by decide +kernel)) <|
  mF (sn_getR (pc := 14) X fd_X10_68 (by decide +kernel)) <|
  mF (sn_iload_n (pc := 17) (j := 2) X (by decide +kernel) rfl) <|
  mF (sn_callV (pc := 18) X mc_X5_has (me_X5_has l B) yi_X5_has wd_546 wd_547 wd_548 (T := TX5) (N := 7) rfl (by decide) (by decide +kernel)) <|
  mF (sn_if_ne (pc := 21) (off := 7) X (by decide +kernel) (by decide)) <|
  mF (sn_ldc2 (pc := 24) X (by decide +kernel) wd_432) <|
  mF (sn_lret (pc := 27) X hr hk (by decide +kernel)) <|
  mF (sn_iload_n (pc := 28) (j := 3) X (by decide +kernel) rfl) <|
  mF (sn_ts (pc := 29) (dflt := 136) (lo := 0) (hi := 6) (offs := #[43, 55, 67, 79, 91, 114, 125]) (len := 43) X (by decide +kernel) ⟨by decide, by decide, by decide⟩) <|
  mF (sn_aload (pc := 72) X (by decide +kernel)) <|
  mF (sn_getR (pc := 74) X fd_X10_68 (by decide +kernel)) <|
  mF (sn_getR (pc := 77) X fd_X10_202 (by decide +kernel)) <|
  mF (sn_iload_n (pc := 80) (j := 2) X (by decide +kernel) rfl) <|
  mF (sn_iaload (pc := 81) X (by decide +kernel)) <|
  mF (sn_i2l (pc := 82) X (by decide +kernel)) <|
  mF (sn_lret (pc := 83) X hr hk (by decide +kernel)) <|
  mF (sn_aload (pc := 84) X (by decide +kernel)) <|
  mF (sn_getR (pc := 86) X fd_X10_68 (by decide +kernel)) <|
  mF (sn_getR (pc := 89) X fd_X10_205 (by decide +kernel)) <|
  mF (sn_iload_n (pc := 92) (j := 2) X (by decide +kernel) rfl) <|
  mF (sn_iaload (pc := 93) X (by decide +kernel)) <|
  mF (sn_i2l (pc := 94) X (by decide +kernel)) <|
  mF (sn_lret (pc := 95) X hr hk (by decide +kernel)) <|
  mF (sn_aload (pc := 96) X (by decide +kernel)) <|
  mF (sn_getR (pc := 98) X fd_X10_68 (by decide +kernel)) <|
  mF (sn_getR (pc := 101) X fd_X10_208 (by decide +kernel)) <|
  mF (sn_iload_n (pc := 104) (j := 2) X (by decide +kernel) rfl) <|
  mF (sn_iaload (pc := 105) X (by decide +kernel)) <|
  mF (sn_i2l (pc := 106) X (by decide +kernel)) <|
  mF (sn_lret (pc := 107) X hr hk (by decide +kernel)) <|
  mF (sn_aload (pc := 108) X (by decide +kernel)) <|
  mF (sn_getR (pc := 110) X fd_X10_68 (by decide +kernel)) <|
  mF (sn_getR (pc := 113) X fd_X10_156 (by decide +kernel)) <|
  mF (sn_iload_n (pc := 116) (j := 2) X (by decide +kernel) rfl) <|
  mF (sn_iaload (pc := 117) X (by decide +kernel)) <|
  mF (sn_i2l (pc := 118) X (by decide +kernel)) <|
  mF (sn_lret (pc := 119) X hr hk (by decide +kernel)) <|
  mF (sn_aload_n (pc := 120) (j := 0) X (by decide +kernel) rfl) <|
  mF (sn_getR (pc := 121) X fd_X10_29 (by decide +kernel)) <|
  mF (sn_aload (pc := 124) X (by decide +kernel)) <|
  mF (sn_getR (pc := 126) X fd_X10_68 (by decide +kernel)) <|
  mF (sn_callV (pc := 129) X mc_X1_layLimbs (me_X1_layLimbs l B) yi_X1_layLimbs wd_579 wd_580 wd_581 (T := TX1) (N := 11) rfl (by decide) (by decide +kernel)) <|
  mF (sn_aload_n (pc := 132) (j := 0) X (by decide +kernel) rfl) <|
  mF (sn_getR (pc := 133) X fd_X10_29 (by decide +kernel)) <|
  mF (sn_getR (pc := 136) X fd_X10_215 (by decide +kernel)) <|
  mF (sn_iload_n (pc := 139) (j := 2) X (by decide +kernel) rfl) <|
  mF (sn_iaload (pc := 140) X (by decide +kernel)) <|
  mF (sn_i2l (pc := 141) X (by decide +kernel)) <|
  mF (sn_lret (pc := 142) X hr hk (by decide +kernel)) <|
  mF (sn_aload (pc := 143) X (by decide +kernel)) <|
  mF (sn_getR (pc := 145) X fd_X10_84 (by decide +kernel)) <|
  mF (sn_iload_n (pc := 148) (j := 2) X (by decide +kernel) rfl) <|
  mF (sn_callV (pc := 149) X mc_X9_leastOf (me_X9_leastOf l B) yi_X9_leastOf wd_599 wd_438 wd_439 (T := TX9) (N := 3) rfl (by decide) (by decide +kernel)) <|
  mF (sn_i2l (pc := 152) X (by decide +kernel)) <|
  mF (sn_lret (pc := 153) X hr hk (by decide +kernel)) <|
  mF (sn_aload (pc := 154) X (by decide +kernel)) <|
  mF (sn_getR (pc := 156) X fd_X10_84 (by decide +kernel)) <|
  mF (sn_iload_n (pc := 159) (j := 2) X (by decide +kernel) rfl) <|
  mF (sn_callV (pc := 160) X mc_X9_greatestOf (me_X9_greatestOf l B) yi_X9_greatestOf wd_600 wd_446 wd_447 (T := TX9) (N := 3) rfl (by decide) (by decide +kernel)) <|
  mF (sn_i2l (pc := 163) X (by decide +kernel)) <|
  mF (sn_lret (pc := 164) X hr hk (by decide +kernel)) <|
  mF (sn_ldc2 (pc := 165) X (by decide +kernel) wd_432) <|
  mF (sn_lret (pc := 168) X hr hk (by decide +kernel)) <|
  mF0
theorem me_X10_told (l : Launch) (B : mBs) : mMet l B yX10_told cX10_told 5 (some .long) 2 0 0 C_X10_told := mMet_of (own := RX10) (by decide) rfl (fun p e s m args below meth c Q X hr hk hn => sd_X10_told l B p e s m args below meth c Q X hr hk hn)
