/-! PuppetStageModel.about(II)J: 75 instructions, depth 2, makes 0 cells of 0 slots -/
def tb_X11_about_c0 : mTb := [(0, aLI 1 1), (1, aCS 1 C_X11_isPuppet 4), (4, aIf (fun x => x = 0) 17 7), (7, aLI 2 8), (8, aPI 0 9), (9, aPI 10 11), (11, aCS 3 C_X11_isIn 14), (14, aIf (fun x => x = 0) 17 21), (17, aPL (-9000000000000000001) 20), (20, aRL), (21, aLI 2 22), (22, aTs [(0, 72), (1, 80), (2, 89), (3, 89), (4, 89), (5, 102), (6, 112), (7, 122), (8, 132)] 157), (72, aLA 0 73), (73, aLI 1 74), (74, aPI 0 75), (75, aCV 11 2 C_X11_get 78), (78, aI2L 79), (79, aRL), (80, aLA 0 81), (81, aLI 1 82), (82, aPI 55 84), (84, aCV 11 2 C_X11_get 87), (87, aI2L 88), (88, aRL), (89, aLA 0 90), (90, aLI 1 91), (91, aPI 40 93), (93, aLI 2 94), (94, aB (fun x y => x + y) 95), (95, aPI 2 96), (96, aB (fun x y => x - y) 97), (97, aCV 11 2 C_X11_get 100), (100, aI2L 101), (101, aRL), (102, aLA 0 103), (103, aLI 1 104), (104, aPI 128 107), (107, aCV 11 2 C_X11_get 110), (110, aI2L 111), (111, aRL), (112, aLA 0 113), (113, aLI 1 114), (114, aPI 129 117), (117, aCV 11 2 C_X11_get 120), (120, aI2L 121), (121, aRL), (122, aLA 0 123), (123, aLI 1 124), (124, aPI 166 127), (127, aCV 11 2 C_X11_get 130), (130, aI2L 131), (131, aRL), (132, aLA 0 133), (133, aLI 1 134), (134, aPI 27 136), (136, aCV 11 2 C_X11_get 139), (139, aIf (fun x => 0 ≤ x) 148 142), (142, aPL (-9000000000000000005) 145), (145, aGo 156), (148, aLA 0 149), (149, aLI 1 150), (150, aPI 27 152), (152, aCV 11 2 C_X11_get 155), (155, aI2L 156), (156, aRL), (157, aLA 0 158), (158, aLI 1 159), (159, aPI 25 161), (161, aLI 2 162), (162, aB (fun x y => x + y) 163)]
theorem mt_X11_about_c0 : mMT tb_X11_about_c0 :=
  mF (mn_LI _ _) <|
  mF (mn_CS _ mc_X11_isPuppet _) <|
  mF (mn_If _ _ _) <|
  mF (mn_LI _ _) <|
  mF (mn_PI _ _) <|
  mF (mn_PI _ _) <|
  mF (mn_CS _ mc_X11_isIn _) <|
  mF (mn_If _ _ _) <|
  mF (mn_PL _ _) <|
  mF (mn_RL) <|
  mF (mn_LI _ _) <|
  mF (mn_Ts _ _) <|
  mF (mn_LA _ _) <|
  mF (mn_LI _ _) <|
  mF (mn_PI _ _) <|
  mF (mn_CV _ _ mc_X11_get _) <|
  mF (mn_I2L _) <|
  mF (mn_RL) <|
  mF (mn_LA _ _) <|
  mF (mn_LI _ _) <|
  mF (mn_PI _ _) <|
  mF (mn_CV _ _ mc_X11_get _) <|
  mF (mn_I2L _) <|
  mF (mn_RL) <|
  mF (mn_LA _ _) <|
  mF (mn_LI _ _) <|
  mF (mn_PI _ _) <|
  mF (mn_LI _ _) <|
  mF (mn_B _ _) <|
  mF (mn_PI _ _) <|
  mF (mn_B _ _) <|
  mF (mn_CV _ _ mc_X11_get _) <|
  mF (mn_I2L _) <|
  mF (mn_RL) <|
  mF (mn_LA _ _) <|
  mF (mn_LI _ _) <|
  mF (mn_PI _ _) <|
  mF (mn_CV _ _ mc_X11_get _) <|
  mF (mn_I2L _) <|
  mF (mn_RL) <|
  mF (mn_LA _ _) <|
  mF (mn_LI _ _) <|
  mF (mn_PI _ _) <|
  mF (mn_CV _ _ mc_X11_get _) <|
  mF (mn_I2L _) <|
  mF (mn_RL) <|
  mF (mn_LA _ _) <|
  mF (mn_LI _ _) <|
  mF (mn_PI _ _) <|
  mF (mn_CV _ _ mc_X11_get _) <|
  mF (mn_I2L _) <|
  mF (mn_RL) <|
  mF (mn_LA _ _) <|
  mF (mn_LI _ _) <|
  mF (mn_PI _ _) <|
  mF (mn_CV _ _ mc_X11_get _) <|
  mF (mn_If _ _ _) <|
  mF (mn_PL _ _) <|
  mF (mn_Go _) <|
  mF (mn_LA _ _) <|
  mF (mn_LI _ _) <|
  mF (mn_PI _ _) <|
  mF (mn_CV _ _ mc_X11_get _) <|
  mF (mn_I2L _) <|
  mF (mn_RL) <|
  mF (mn_LA _ _) <|
  mF (mn_LI _ _) <|
  mF (mn_PI _ _) <|
  mF (mn_LI _ _) <|
  mF (mn_B _ _) <|
  mF0
def tb_X11_about_c1 : mTb := [(163, aPI 9 165), (165, aB (fun x y => x - y) 166), (166, aCV 11 2 C_X11_get 169), (169, aI2L 170), (170, aRL)]
theorem mt_X11_about_c1 : mMT tb_X11_about_c1 :=
  mF (mn_PI _ _) <|
  mF (mn_B _ _) <|
  mF (mn_CV _ _ mc_X11_get _) <|
  mF (mn_I2L _) <|
  mF (mn_RL) <|
  mF0
def tb_X11_about : mTb := tb_X11_about_c0 ++ (tb_X11_about_c1)
theorem mt_X11_about : mMT tb_X11_about := mFA mt_X11_about_c0 mt_X11_about_c1
def C_X11_about : mCo := mRun tb_X11_about 3
theorem mc_X11_about : mMC C_X11_about := mRun_mn mt_X11_about 3
theorem yi_X11_about : mYin yX11_about cX11_about 3 (some .long) 2 := ⟨wd_60, wd_1077, by decide +kernel, by decide⟩
set_option maxRecDepth 100000 in
set_option maxHeartbeats 4000000 in
theorem sd_X11_about_c0 (l : Launch) (B : mBs) (p : Program) (e : Env) (s : State) (m : MethodId) (args : Array Value) (below : List Frame) (meth : Method) (c : Code) (Q : mQo) (X : mCx l B RX11 cX11_about 3 p s m args c) (hr : meth.sig.returnType = (some .long)) (hk : meth.locks = false) (hn : meth.name = "about") : ∀ q ∈ tb_X11_about_c0, mSnd l B 3 p e (mRm 2 0 0) s m args below meth c (MQ below (mPo B Q) args s 0 0 (mA B)) (fun r h' => (h'.1.2.1 ≤ 0 ∧ h'.1.2.2 ≤ 0) ∧ Q r h') q.2 q.1 :=
  mF (sn_iload_n (pc := 0) (j := 1) X (by decide +kernel) rfl) <|
  mF (sn_callS (pc := 1) X mc_X11_isPuppet (me_X11_isPuppet l B) yi_X11_isPuppet wd_989 wd_990 (by decide) (by decide +kernel)) <|
  mF (sn_if_eq (pc := 4) (off := 13) X (by decide +kernel) (by decide)) <|
  mF (sn_iload_n (pc := 7) (j := 2) X (by decide +kernel) rfl) <|
  mF (sn_iconst (pc := 8) (n := 0) X (by decide +kernel) (by decide)) <|
  mF (sn_bipush (pc := 9) (n := 10) X (by decide +kernel) (by decide)) <|
  mF (sn_callS (pc := 11) X mc_X11_isIn (me_X11_isIn l B) yi_X11_isIn wd_992 wd_993 (by decide) (by decide +kernel)) <|
  mF (sn_if_ne (pc := 14) (off := 7) X (by decide +kernel) (by decide)) <|
  mF (sn_ldc2 (pc := 17) X (by decide +kernel) wd_999) <|
  mF (sn_lret (pc := 20) X hr hk (by decide +kernel)) <|
  mF (sn_iload_n (pc := 21) (j := 2) X (by decide +kernel) rfl) <|
  mF (sn_ts (pc := 22) (dflt := 135) (lo := 0) (hi := 8) (offs := #[50, 58, 67, 67, 67, 80, 90, 100, 110]) (len := 50) X (by decide +kernel) ⟨by decide, by decide, by decide⟩) <|
  mF (sn_aload_n (pc := 72) (j := 0) X (by decide +kernel) rfl) <|
  mF (sn_iload_n (pc := 73) (j := 1) X (by decide +kernel) rfl) <|
  mF (sn_iconst (pc := 74) (n := 0) X (by decide +kernel) (by decide)) <|
  mF (sn_callV (pc := 75) X mc_X11_get (me_X11_get l B) yi_X11_get wd_995 wd_997 wd_12 (T := TX11) (N := 22) rfl (by decide) (by decide +kernel)) <|
  mF (sn_i2l (pc := 78) X (by decide +kernel)) <|
  mF (sn_lret (pc := 79) X hr hk (by decide +kernel)) <|
  mF (sn_aload_n (pc := 80) (j := 0) X (by decide +kernel) rfl) <|
  mF (sn_iload_n (pc := 81) (j := 1) X (by decide +kernel) rfl) <|
  mF (sn_bipush (pc := 82) (n := 55) X (by decide +kernel) (by decide)) <|
  mF (sn_callV (pc := 84) X mc_X11_get (me_X11_get l B) yi_X11_get wd_995 wd_997 wd_12 (T := TX11) (N := 22) rfl (by decide) (by decide +kernel)) <|
  mF (sn_i2l (pc := 87) X (by decide +kernel)) <|
  mF (sn_lret (pc := 88) X hr hk (by decide +kernel)) <|
  mF (sn_aload_n (pc := 89) (j := 0) X (by decide +kernel) rfl) <|
  mF (sn_iload_n (pc := 90) (j := 1) X (by decide +kernel) rfl) <|
  mF (sn_bipush (pc := 91) (n := 40) X (by decide +kernel) (by decide)) <|
  mF (sn_iload_n (pc := 93) (j := 2) X (by decide +kernel) rfl) <|
  mF (sn_iadd (pc := 94) X (by decide +kernel)) <|
  mF (sn_iconst (pc := 95) (n := 2) X (by decide +kernel) (by decide)) <|
  mF (sn_isub (pc := 96) X (by decide +kernel)) <|
  mF (sn_callV (pc := 97) X mc_X11_get (me_X11_get l B) yi_X11_get wd_995 wd_997 wd_12 (T := TX11) (N := 22) rfl (by decide) (by decide +kernel)) <|
  mF (sn_i2l (pc := 100) X (by decide +kernel)) <|
  mF (sn_lret (pc := 101) X hr hk (by decide +kernel)) <|
  mF (sn_aload_n (pc := 102) (j := 0) X (by decide +kernel) rfl) <|
  mF (sn_iload_n (pc := 103) (j := 1) X (by decide +kernel) rfl) <|
  mF (sn_sipush (pc := 104) (n := 128) X (by decide +kernel) (by decide)) <|
  mF (sn_callV (pc := 107) X mc_X11_get (me_X11_get l B) yi_X11_get wd_995 wd_997 wd_12 (T := TX11) (N := 22) rfl (by decide) (by decide +kernel)) <|
  mF (sn_i2l (pc := 110) X (by decide +kernel)) <|
  mF (sn_lret (pc := 111) X hr hk (by decide +kernel)) <|
  mF (sn_aload_n (pc := 112) (j := 0) X (by decide +kernel) rfl) <|
  mF (sn_iload_n (pc := 113) (j := 1) X (by decide +kernel) rfl) <|
  mF (sn_sipush (pc := 114) (n := 129) X (by decide +kernel) (by decide)) <|
  mF (sn_callV (pc := 117) X mc_X11_get (me_X11_get l B) yi_X11_get wd_995 wd_997 wd_12 (T := TX11) (N := 22) rfl (by decide) (by decide +kernel)) <|
  mF (sn_i2l (pc := 120) X (by decide +kernel)) <|
  mF (sn_lret (pc := 121) X hr hk (by decide +kernel)) <|
  mF (sn_aload_n (pc := 122) (j := 0) X (by decide +kernel) rfl) <|
  mF (sn_iload_n (pc := 123) (j := 1) X (by decide +kernel) rfl) <|
  mF (sn_sipush (pc := 124) (n := 166) X (by decide +kernel) (by decide)) <|
  mF (sn_callV (pc := 127) X mc_X11_get (me_X11_get l B) yi_X11_get wd_995 wd_997 wd_12 (T := TX11) (N := 22) rfl (by decide) (by decide +kernel)) <|
  mF (sn_i2l (pc := 130) X (by decide +kernel)) <|
  mF (sn_lret (pc := 131) X hr hk (by decide +kernel)) <|
  mF (sn_aload_n (pc := 132) (j := 0) X (by decide +kernel) rfl) <|
  mF (sn_iload_n (pc := 133) (j := 1) X (by decide +kernel) rfl) <|
  mF (sn_bipush (pc := 134) (n := 27) X (by decide +kernel) (by decide)) <|
  mF (sn_callV (pc := 136) X mc_X11_get (me_X11_get l B) yi_X11_get wd_995 wd_997 wd_12 (T := TX11) (N := 22) rfl (by decide) (by decide +kernel)) <|
  mF (sn_if_ge (pc := 139) (off := 9) X (by decide +kernel) (by decide)) <|
  mF (sn_ldc2 (pc := 142) X (by decide +kernel) wd_1078) <|
  mF (sn_goto (pc := 145) (off := 11) X (by decide +kernel) (by decide)) <|
  mF (sn_aload_n (pc := 148) (j := 0) X (by decide +kernel) rfl) <|
  mF (sn_iload_n (pc := 149) (j := 1) X (by decide +kernel) rfl) <|
  mF (sn_bipush (pc := 150) (n := 27) X (by decide +kernel) (by decide)) <|
  mF (sn_callV (pc := 152) X mc_X11_get (me_X11_get l B) yi_X11_get wd_995 wd_997 wd_12 (T := TX11) (N := 22) rfl (by decide) (by decide +kernel)) <|
  mF (sn_i2l (pc := 155) X (by decide +kernel)) <|
  mF (sn_lret (pc := 156) X hr hk (by decide +kernel)) <|
  mF (sn_aload_n (pc := 157) (j := 0) X (by decide +kernel) rfl) <|
  mF (sn_iload_n (pc := 158) (j := 1) X (by decide +kernel) rfl) <|
  mF (sn_bipush (pc := 159) (n := 25) X (by decide +kernel) (by decide)) <|
  mF (sn_iload_n (pc := 161) (j := 2) X (by decide +kernel) rfl) <|
  mF (sn_iadd (pc := 162) X (by decide +kernel)) <|
  mF0
set_option maxRecDepth 100000 in
set_option maxHeartbeats 4000000 in
theorem sd_X11_about_c1 (l : Launch) (B : mBs) (p : Program) (e : Env) (s : State) (m : MethodId) (args : Array Value) (below : List Frame) (meth : Method) (c : Code) (Q : mQo) (X : mCx l B RX11 cX11_about 3 p s m args c) (hr : meth.sig.returnType = (some .long)) (hk : meth.locks = false) (hn : meth.name = "about") : ∀ q ∈ tb_X11_about_c1, mSnd l B 3 p e (mRm 2 0 0) s m args below meth c (MQ below (mPo B Q) args s 0 0 (mA B)) (fun r h' => (h'.1.2.1 ≤ 0 ∧ h'.1.2.2 ≤ 0) ∧ Q r h') q.2 q.1 :=
  mF (sn_bipush (pc := 163) (n := 9) X (by decide +kernel) (by decide)) <|
  mF (sn_isub (pc := 165) X (by decide +kernel)) <|
  mF (sn_callV (pc := 166) X mc_X11_get (me_X11_get l B) yi_X11_get wd_995 wd_997 wd_12 (T := TX11) (N := 22) rfl (by decide) (by decide +kernel)) <|
  mF (sn_i2l (pc := 169) X (by decide +kernel)) <|
  mF (sn_lret (pc := 170) X hr hk (by decide +kernel)) <|
  mF0
theorem sd_X11_about (l : Launch) (B : mBs) (p : Program) (e : Env) (s : State) (m : MethodId) (args : Array Value) (below : List Frame) (meth : Method) (c : Code) (Q : mQo) (X : mCx l B RX11 cX11_about 3 p s m args c) (hr : meth.sig.returnType = (some .long)) (hk : meth.locks = false) (hn : meth.name = "about") : ∀ q ∈ tb_X11_about, mSnd l B 3 p e (mRm 2 0 0) s m args below meth c (MQ below (mPo B Q) args s 0 0 (mA B)) (fun r h' => (h'.1.2.1 ≤ 0 ∧ h'.1.2.2 ≤ 0) ∧ Q r h') q.2 q.1 := mFA (sd_X11_about_c0 l B p e s m args below meth c Q X hr hk hn) (sd_X11_about_c1 l B p e s m args below meth c Q X hr hk hn)
theorem me_X11_about (l : Launch) (B : mBs) : mMet l B yX11_about cX11_about 3 (some .long) 2 0 0 C_X11_about := mMet_of (own := RX11) (by decide) rfl (fun p e s m args below meth c Q X hr hk hn => sd_X11_about l B p e s m args below meth c Q X hr hk hn)
/-! PuppetStageModel.told(III)J: 67 instructions, depth 3, makes 0 cells of 0 slots -/
def tb_X11_told : mTb := [(0, aLA 0 1), (1, aLI 1 2), (2, aLI 2 3), (3, aCV 11 2 C_X11_isLimb 6), (6, aIf (fun x => x = 0) 19 9), (9, aLI 3 10), (10, aPI 0 11), (11, aPI 6 13), (13, aCS 3 C_X11_isIn 16), (16, aIf (fun x => x = 0) 19 23), (19, aPL (-9000000000000000001) 22), (22, aRL), (23, aLI 3 24), (24, aTs [(0, 64), (1, 74), (2, 85), (3, 96), (4, 107), (5, 120)] 128), (64, aLA 0 65), (65, aLI 1 66), (66, aPI 1 67), (67, aLI 2 68), (68, aB (fun x y => x + y) 69), (69, aCV 11 2 C_X11_get 72), (72, aI2L 73), (73, aRL), (74, aLA 0 75), (75, aLI 1 76), (76, aPI 7 78), (78, aLI 2 79), (79, aB (fun x y => x + y) 80), (80, aCV 11 2 C_X11_get 83), (83, aI2L 84), (84, aRL), (85, aLA 0 86), (86, aLI 1 87), (87, aPI 13 89), (89, aLI 2 90), (90, aB (fun x y => x + y) 91), (91, aCV 11 2 C_X11_get 94), (94, aI2L 95), (95, aRL), (96, aLA 0 97), (97, aLI 1 98), (98, aPI 19 100), (100, aLI 2 101), (101, aB (fun x y => x + y) 102), (102, aCV 11 2 C_X11_get 105), (105, aI2L 106), (106, aRL), (107, aLA 0 108), (108, aLI 1 109), (109, aCV 11 1 C_X11_lay 112), (112, aLA 0 113), (113, aGR 11 9 116), (116, aLI 2 117), (117, aIA 118), (118, aI2L 119), (119, aRL), (120, aLA 0 121), (121, aLI 1 122), (122, aLI 2 123), (123, aCV 11 2 C_X11_least 126), (126, aI2L 127), (127, aRL), (128, aLA 0 129), (129, aLI 1 130), (130, aLI 2 131), (131, aCV 11 2 C_X11_greatest 134), (134, aI2L 135), (135, aRL)]
theorem mt_X11_told : mMT tb_X11_told :=
  mF (mn_LA _ _) <|
  mF (mn_LI _ _) <|
  mF (mn_LI _ _) <|
  mF (mn_CV _ _ mc_X11_isLimb _) <|
  mF (mn_If _ _ _) <|
  mF (mn_LI _ _) <|
  mF (mn_PI _ _) <|
  mF (mn_PI _ _) <|
  mF (mn_CS _ mc_X11_isIn _) <|
  mF (mn_If _ _ _) <|
  mF (mn_PL _ _) <|
  mF (mn_RL) <|
  mF (mn_LI _ _) <|
  mF (mn_Ts _ _) <|
  mF (mn_LA _ _) <|
  mF (mn_LI _ _) <|
  mF (mn_PI _ _) <|
  mF (mn_LI _ _) <|
  mF (mn_B _ _) <|
  mF (mn_CV _ _ mc_X11_get _) <|
  mF (mn_I2L _) <|
  mF (mn_RL) <|
  mF (mn_LA _ _) <|
  mF (mn_LI _ _) <|
  mF (mn_PI _ _) <|
  mF (mn_LI _ _) <|
  mF (mn_B _ _) <|
  mF (mn_CV _ _ mc_X11_get _) <|
  mF (mn_I2L _) <|
  mF (mn_RL) <|
  mF (mn_LA _ _) <|
  mF (mn_LI _ _) <|
  mF (mn_PI _ _) <|
  mF (mn_LI _ _) <|
  mF (mn_B _ _) <|
  mF (mn_CV _ _ mc_X11_get _) <|
  mF (mn_I2L _) <|
  mF (mn_RL) <|
  mF (mn_LA _ _) <|
  mF (mn_LI _ _) <|
  mF (mn_PI _ _) <|
  mF (mn_LI _ _) <|
  mF (mn_B _ _) <|
  mF (mn_CV _ _ mc_X11_get _) <|
  mF (mn_I2L _) <|
  mF (mn_RL) <|
  mF (mn_LA _ _) <|
  mF (mn_LI _ _) <|
  mF (mn_CV _ _ mc_X11_lay _) <|
  mF (mn_LA _ _) <|
  mF (mn_GR _ _ _) <|
  mF (mn_LI _ _) <|
  mF (mn_IA _) <|
  mF (mn_I2L _) <|
  mF (mn_RL) <|
  mF (mn_LA _ _) <|
  mF (mn_LI _ _) <|
  mF (mn_LI _ _) <|
  mF (mn_CV _ _ mc_X11_least _) <|
  mF (mn_I2L _) <|
  mF (mn_RL) <|
  mF (mn_LA _ _) <|
  mF (mn_LI _ _) <|
  mF (mn_LI _ _) <|
  mF (mn_CV _ _ mc_X11_greatest _) <|
  mF (mn_I2L _) <|
  mF (mn_RL) <|
  mF0
def C_X11_told : mCo := mRun tb_X11_told 4
theorem mc_X11_told : mMC C_X11_told := mRun_mn mt_X11_told 4
theorem yi_X11_told : mYin yX11_told cX11_told 4 (some .long) 3 := ⟨wd_60, wd_1082, by decide +kernel, by decide⟩
set_option maxRecDepth 100000 in
set_option maxHeartbeats 4000000 in
theorem sd_X11_told (l : Launch) (B : mBs) (p : Program) (e : Env) (s : State) (m : MethodId) (args : Array Value) (below : List Frame) (meth : Method) (c : Code) (Q : mQo) (X : mCx l B RX11 cX11_told 4 p s m args c) (hr : meth.sig.returnType = (some .long)) (hk : meth.locks = false) (hn : meth.name = "told") : ∀ q ∈ tb_X11_told, mSnd l B 4 p e (mRm 3 0 0) s m args below meth c (MQ below (mPo B Q) args s 0 0 (mA B)) (fun r h' => (h'.1.2.1 ≤ 0 ∧ h'.1.2.2 ≤ 0) ∧ Q r h') q.2 q.1 :=
  mF (sn_aload_n (pc := 0) (j := 0) X (by decide +kernel) rfl) <|
  mF (sn_iload_n (pc := 1) (j := 1) X (by decide +kernel) rfl) <|
  mF (sn_iload_n (pc := 2) (j := 2) X (by decide +kernel) rfl) <|
  mF (sn_callV (pc := 3) X mc_X11_isLimb (me_X11_isLimb l B) yi_X11_isLimb wd_1062 wd_1064 wd_20 (T := TX11) (N := 22) rfl (by decide) (by decide +kernel)) <|
  mF (sn_if_eq (pc := 6) (off := 13) X (by decide +kernel) (by decide)) <|
  mF (sn_iload_n (pc := 9) (j := 3) X (by decide +kernel) rfl) <|
  mF (sn_iconst (pc := 10) (n := 0) X (by decide +kernel) (by decide)) <|
  mF (sn_bipush (pc := 11) (n := 6) X (by decide +kernel) (by decide)) <|
  mF (sn_callS (pc := 13) X mc_X11_isIn (me_X11_isIn l B) yi_X11_isIn wd_992 wd_993 (by decide) (by decide +kernel)) <|
  mF (sn_if_ne (pc := 16) (off := 7) X (by decide +kernel) (by decide)) <|
  mF (sn_ldc2 (pc := 19) X (by decide +kernel) wd_999) <|
  mF (sn_lret (pc := 22) X hr hk (by decide +kernel)) <|
  mF (sn_iload_n (pc := 23) (j := 3) X (by decide +kernel) rfl) <|
  mF (sn_ts (pc := 24) (dflt := 104) (lo := 0) (hi := 5) (offs := #[40, 50, 61, 72, 83, 96]) (len := 40) X (by decide +kernel) ⟨by decide, by decide, by decide⟩) <|
  mF (sn_aload_n (pc := 64) (j := 0) X (by decide +kernel) rfl) <|
  mF (sn_iload_n (pc := 65) (j := 1) X (by decide +kernel) rfl) <|
  mF (sn_iconst (pc := 66) (n := 1) X (by decide +kernel) (by decide)) <|
  mF (sn_iload_n (pc := 67) (j := 2) X (by decide +kernel) rfl) <|
  mF (sn_iadd (pc := 68) X (by decide +kernel)) <|
  mF (sn_callV (pc := 69) X mc_X11_get (me_X11_get l B) yi_X11_get wd_995 wd_997 wd_12 (T := TX11) (N := 22) rfl (by decide) (by decide +kernel)) <|
  mF (sn_i2l (pc := 72) X (by decide +kernel)) <|
  mF (sn_lret (pc := 73) X hr hk (by decide +kernel)) <|
  mF (sn_aload_n (pc := 74) (j := 0) X (by decide +kernel) rfl) <|
  mF (sn_iload_n (pc := 75) (j := 1) X (by decide +kernel) rfl) <|
  mF (sn_bipush (pc := 76) (n := 7) X (by decide +kernel) (by decide)) <|
  mF (sn_iload_n (pc := 78) (j := 2) X (by decide +kernel) rfl) <|
  mF (sn_iadd (pc := 79) X (by decide +kernel)) <|
  mF (sn_callV (pc := 80) X mc_X11_get (me_X11_get l B) yi_X11_get wd_995 wd_997 wd_12 (T := TX11) (N := 22) rfl (by decide) (by decide +kernel)) <|
  mF (sn_i2l (pc := 83) X (by decide +kernel)) <|
  mF (sn_lret (pc := 84) X hr hk (by decide +kernel)) <|
  mF (sn_aload_n (pc := 85) (j := 0) X (by decide +kernel) rfl) <|
  mF (sn_iload_n (pc := 86) (j := 1) X (by decide +kernel) rfl) <|
  mF (sn_bipush (pc := 87) (n := 13) X (by decide +kernel) (by decide)) <|
  mF (sn_iload_n (pc := 89) (j := 2) X (by decide +kernel) rfl) <|
  mF (sn_iadd (pc := 90) X (by decide +kernel)) <|
  mF (sn_callV (pc := 91) X mc_X11_get (me_X11_get l B) yi_X11_get wd_995 wd_997 wd_12 (T := TX11) (N := 22) rfl (by decide) (by decide +kernel)) <|
  mF (sn_i2l (pc := 94) X (by decide +kernel)) <|
  mF (sn_lret (pc := 95) X hr hk (by decide +kernel)) <|
  mF (sn_aload_n (pc := 96) (j := 0) X (by decide +kernel) rfl) <|
  mF (sn_iload_n (pc := 97) (j := 1) X (by decide +kernel) rfl) <|
  mF (sn_bipush (pc := 98) (n := 19) X (by decide +kernel) (by decide)) <|
  mF (sn_iload_n (pc := 100) (j := 2) X (by decide +kernel) rfl) <|
  mF (sn_iadd (pc := 101) X (by decide +kernel)) <|
  mF (sn_callV (pc := 102) X mc_X11_get (me_X11_get l B) yi_X11_get wd_995 wd_997 wd_12 (T := TX11) (N := 22) rfl (by decide) (by decide +kernel)) <|
  mF (sn_i2l (pc := 105) X (by decide +kernel)) <|
  mF (sn_lret (pc := 106) X hr hk (by decide +kernel)) <|
  mF (sn_aload_n (pc := 107) (j := 0) X (by decide +kernel) rfl) <|
  mF (sn_iload_n (pc := 108) (j := 1) X (by decide +kernel) rfl) <|
  mF (sn_callV (pc := 109) X mc_X11_lay (me_X11_lay l B) yi_X11_lay wd_1083 wd_1085 wd_22 (T := TX11) (N := 22) rfl (by decide) (by decide +kernel)) <|
  mF (sn_aload_n (pc := 112) (j := 0) X (by decide +kernel) rfl) <|
  mF (sn_getR (pc := 113) X fd_X11_32 (by decide +kernel)) <|
  mF (sn_iload_n (pc := 116) (j := 2) X (by decide +kernel) rfl) <|
  mF (sn_iaload (pc := 117) X (by decide +kernel)) <|
  mF (sn_i2l (pc := 118) X (by decide +kernel)) <|
  mF (sn_lret (pc := 119) X hr hk (by decide +kernel)) <|
  mF (sn_aload_n (pc := 120) (j := 0) X (by decide +kernel) rfl) <|
  mF (sn_iload_n (pc := 121) (j := 1) X (by decide +kernel) rfl) <|
  mF (sn_iload_n (pc := 122) (j := 2) X (by decide +kernel) rfl) <|
  mF (sn_callV (pc := 123) X mc_X11_least (me_X11_least l B) yi_X11_least wd_1000 wd_1002 wd_13 (T := TX11) (N := 22) rfl (by decide) (by decide +kernel)) <|
  mF (sn_i2l (pc := 126) X (by decide +kernel)) <|
  mF (sn_lret (pc := 127) X hr hk (by decide +kernel)) <|
  mF (sn_aload_n (pc := 128) (j := 0) X (by decide +kernel) rfl) <|
  mF (sn_iload_n (pc := 129) (j := 1) X (by decide +kernel) rfl) <|
  mF (sn_iload_n (pc := 130) (j := 2) X (by decide +kernel) rfl) <|
  mF (sn_callV (pc := 131) X mc_X11_greatest (me_X11_greatest l B) yi_X11_greatest wd_1004 wd_1006 wd_14 (T := TX11) (N := 22) rfl (by decide) (by decide +kernel)) <|
  mF (sn_i2l (pc := 134) X (by decide +kernel)) <|
  mF (sn_lret (pc := 135) X hr hk (by decide +kernel)) <|
  mF0
theorem me_X11_told (l : Launch) (B : mBs) : mMet l B yX11_told cX11_told 4 (some .long) 3 0 0 C_X11_told := mMet_of (own := RX11) (by decide) rfl (fun p e s m args below meth c Q X hr hk hn => sd_X11_told l B p e s m args below meth c Q X hr hk hn)
/-! PuppetStageModel.at(IIII)J: 39 instructions, depth 3, makes 0 cells of 0 slots -/
def tb_X11_at : mTb := [(0, aLA 0 1), (1, aLI 1 2), (2, aLI 2 3), (3, aCV 11 2 C_X11_isLimb 6), (6, aIf (fun x => x = 0) 35 9), (9, aLI 3 10), (10, aPI 0 11), (11, aLA 0 12), (12, aLI 1 13), (13, aPI 1 14), (14, aLI 2 15), (15, aB (fun x y => x + y) 16), (16, aCV 11 2 C_X11_get 19), (19, aCS 3 C_X11_isIn 22), (22, aIf (fun x => x = 0) 35 25), (25, aLI 4 27), (27, aPI 0 28), (28, aPI 1 29), (29, aCS 3 C_X11_isIn 32), (32, aIf (fun x => x = 0) 35 39), (35, aPL (-9000000000000000001) 38), (38, aRL), (39, aLA 0 40), (40, aLI 1 41), (41, aCV 11 1 C_X11_lay 44), (44, aLI 4 46), (46, aIf (fun x => x = 0) 49 59), (49, aLA 0 50), (50, aLI 1 51), (51, aLI 2 52), (52, aLI 3 53), (53, aCV 11 3 C_X11_spotX 56), (56, aGo 66), (59, aLA 0 60), (60, aLI 1 61), (61, aLI 2 62), (62, aLI 3 63), (63, aCV 11 3 C_X11_spotY 66), (66, aRL)]
theorem mt_X11_at : mMT tb_X11_at :=
  mF (mn_LA _ _) <|
  mF (mn_LI _ _) <|
  mF (mn_LI _ _) <|
  mF (mn_CV _ _ mc_X11_isLimb _) <|
  mF (mn_If _ _ _) <|
  mF (mn_LI _ _) <|
  mF (mn_PI _ _) <|
  mF (mn_LA _ _) <|
  mF (mn_LI _ _) <|
  mF (mn_PI _ _) <|
  mF (mn_LI _ _) <|
  mF (mn_B _ _) <|
  mF (mn_CV _ _ mc_X11_get _) <|
  mF (mn_CS _ mc_X11_isIn _) <|
  mF (mn_If _ _ _) <|
  mF (mn_LI _ _) <|
  mF (mn_PI _ _) <|
  mF (mn_PI _ _) <|
  mF (mn_CS _ mc_X11_isIn _) <|
  mF (mn_If _ _ _) <|
  mF (mn_PL _ _) <|
  mF (mn_RL) <|
  mF (mn_LA _ _) <|
  mF (mn_LI _ _) <|
  mF (mn_CV _ _ mc_X11_lay _) <|
  mF (mn_LI _ _) <|
  mF (mn_If _ _ _) <|
  mF (mn_LA _ _) <|
  mF (mn_LI _ _) <|
  mF (mn_LI _ _) <|
  mF (mn_LI _ _) <|
  mF (mn_CV _ _ mc_X11_spotX _) <|
  mF (mn_Go _) <|
  mF (mn_LA _ _) <|
  mF (mn_LI _ _) <|
  mF (mn_LI _ _) <|
  mF (mn_LI _ _) <|
  mF (mn_CV _ _ mc_X11_spotY _) <|
  mF (mn_RL) <|
  mF0
def C_X11_at : mCo := mRun tb_X11_at 5
theorem mc_X11_at : mMC C_X11_at := mRun_mn mt_X11_at 5
theorem yi_X11_at : mYin yX11_at cX11_at 5 (some .long) 4 := ⟨wd_60, wd_1107, by decide +kernel, by decide⟩
set_option maxRecDepth 100000 in
set_option maxHeartbeats 4000000 in
theorem sd_X11_at (l : Launch) (B : mBs) (p : Program) (e : Env) (s : State) (m : MethodId) (args : Array Value) (below : List Frame) (meth : Method) (c : Code) (Q : mQo) (X : mCx l B RX11 cX11_at 5 p s m args c) (hr : meth.sig.returnType = (some .long)) (hk : meth.locks = false) (hn : meth.name = "at") : ∀ q ∈ tb_X11_at, mSnd l B 5 p e (mRm 3 0 0) s m args below meth c (MQ below (mPo B Q) args s 0 0 (mA B)) (fun r h' => (h'.1.2.1 ≤ 0 ∧ h'.1.2.2 ≤ 0) ∧ Q r h') q.2 q.1 :=
  mF (sn_aload_n (pc := 0) (j := 0) X (by decide +kernel) rfl) <|
  mF (sn_iload_n (pc := 1) (j := 1) X (by decide +kernel) rfl) <|
  mF (sn_iload_n (pc := 2) (j := 2) X (by decide +kernel) rfl) <|
  mF (sn_callV (pc := 3) X mc_X11_isLimb (me_X11_isLimb l B) yi_X11_isLimb wd_1062 wd_1064 wd_20 (T := TX11) (N := 22) rfl (by decide) (by decide +kernel)) <|
  mF (sn_if_eq (pc := 6) (off := 29) X (by decide +kernel) (by decide)) <|
  mF (sn_iload_n (pc := 9) (j := 3) X (by decide +kernel) rfl) <|
  mF (sn_iconst (pc := 10) (n := 0) X (by decide +kernel) (by decide)) <|
  mF (sn_aload_n (pc := 11) (j := 0) X (by decide +kernel) rfl) <|
  mF (sn_iload_n (pc := 12) (j := 1) X (by decide +kernel) rfl) <|
  mF (sn_iconst (pc := 13) (n := 1) X (by decide +kernel) (by decide)) <|
  mF (sn_iload_n (pc := 14) (j := 2) X (by decide +kernel) rfl) <|
  mF (sn_iadd (pc := 15) X (by decide +kernel)) <|
  mF (sn_callV (pc := 16) X mc_X11_get (me_X11_get l B) yi_X11_get wd_995 wd_997 wd_12 (T := TX11) (N := 22) rfl (by decide) (by decide +kernel)) <|
  mF (sn_callS (pc := 19) X mc_X11_isIn (me_X11_isIn l B) yi_X11_isIn wd_992 wd_993 (by decide) (by decide +kernel)) <|
  mF (sn_if_eq (pc := 22) (off := 13) X (by decide +kernel) (by decide)) <|
  mF (sn_iload (pc := 25) X (by decide +kernel)) <|
  mF (sn_iconst (pc := 27) (n := 0) X (by decide +kernel) (by decide)) <|
  mF (sn_iconst (pc := 28) (n := 1) X (by decide +kernel) (by decide)) <|
  mF (sn_callS (pc := 29) X mc_X11_isIn (me_X11_isIn l B) yi_X11_isIn wd_992 wd_993 (by decide) (by decide +kernel)) <|
  mF (sn_if_ne (pc := 32) (off := 7) X (by decide +kernel) (by decide)) <|
  mF (sn_ldc2 (pc := 35) X (by decide +kernel) wd_999) <|
  mF (sn_lret (pc := 38) X hr hk (by decide +kernel)) <|
  mF (sn_aload_n (pc := 39) (j := 0) X (by decide +kernel) rfl) <|
  mF (sn_iload_n (pc := 40) (j := 1) X (by decide +kernel) rfl) <|
  mF (sn_callV (pc := 41) X mc_X11_lay (me_X11_lay l B) yi_X11_lay wd_1083 wd_1085 wd_22 (T := TX11) (N := 22) rfl (by decide) (by decide +kernel)) <|
  mF (sn_iload (pc := 44) X (by decide +kernel)) <|
  mF (sn_if_ne (pc := 46) (off := 13) X (by decide +kernel) (by decide)) <|
  mF (sn_aload_n (pc := 49) (j := 0) X (by decide +kernel) rfl) <|
  mF (sn_iload_n (pc := 50) (j := 1) X (by decide +kernel) rfl) <|
  mF (sn_iload_n (pc := 51) (j := 2) X (by decide +kernel) rfl) <|
  mF (sn_iload_n (pc := 52) (j := 3) X (by decide +kernel) rfl) <|
  mF (sn_callV (pc := 53) X mc_X11_spotX (me_X11_spotX l B) yi_X11_spotX wd_1088 wd_1090 wd_23 (T := TX11) (N := 22) rfl (by decide) (by decide +kernel)) <|
  mF (sn_goto (pc := 56) (off := 10) X (by decide +kernel) (by decide)) <|
  mF (sn_aload_n (pc := 59) (j := 0) X (by decide +kernel) rfl) <|
  mF (sn_iload_n (pc := 60) (j := 1) X (by decide +kernel) rfl) <|
  mF (sn_iload_n (pc := 61) (j := 2) X (by decide +kernel) rfl) <|
  mF (sn_iload_n (pc := 62) (j := 3) X (by decide +kernel) rfl) <|
  mF (sn_callV (pc := 63) X mc_X11_spotY (me_X11_spotY l B) yi_X11_spotY wd_1096 wd_1098 wd_25 (T := TX11) (N := 22) rfl (by decide) (by decide +kernel)) <|
  mF (sn_lret (pc := 66) X hr hk (by decide +kernel)) <|
  mF0
theorem me_X11_at (l : Launch) (B : mBs) : mMet l B yX11_at cX11_at 5 (some .long) 3 0 0 C_X11_at := mMet_of (own := RX11) (by decide) rfl (fun p e s m args below meth c Q X hr hk hn => sd_X11_at l B p e s m args below meth c Q X hr hk hn)
/-! PuppetStageModel.barAt(III)J: 27 instructions, depth 2, makes 0 cells of 0 slots -/
def tb_X11_barAt : mTb := [(0, aLI 1 1), (1, aCS 1 C_X11_isPuppet 4), (4, aIf (fun x => x = 0) 25 7), (7, aLI 2 8), (8, aPI 0 9), (9, aPI 5 10), (10, aCS 3 C_X11_isIn 13), (13, aIf (fun x => x = 0) 25 16), (16, aLI 3 17), (17, aPI 0 18), (18, aPI 1 19), (19, aCS 3 C_X11_isIn 22), (22, aIf (fun x => x = 0) 25 29), (25, aPL (-9000000000000000001) 28), (28, aRL), (29, aLI 3 30), (30, aIf (fun x => x = 0) 33 42), (33, aLA 0 34), (34, aLI 1 35), (35, aLI 2 36), (36, aCV 11 2 C_X11_barX 39), (39, aGo 48), (42, aLA 0 43), (43, aLI 1 44), (44, aLI 2 45), (45, aCV 11 2 C_X11_barY 48), (48, aRL)]
theorem mt_X11_barAt : mMT tb_X11_barAt :=
  mF (mn_LI _ _) <|
  mF (mn_CS _ mc_X11_isPuppet _) <|
  mF (mn_If _ _ _) <|
  mF (mn_LI _ _) <|
  mF (mn_PI _ _) <|
  mF (mn_PI _ _) <|
  mF (mn_CS _ mc_X11_isIn _) <|
  mF (mn_If _ _ _) <|
  mF (mn_LI _ _) <|
  mF (mn_PI _ _) <|
  mF (mn_PI _ _) <|
  mF (mn_CS _ mc_X11_isIn _) <|
  mF (mn_If _ _ _) <|
  mF (mn_PL _ _) <|
  mF (mn_RL) <|
  mF (mn_LI _ _) <|
  mF (mn_If _ _ _) <|
  mF (mn_LA _ _) <|
  mF (mn_LI _ _) <|
  mF (mn_LI _ _) <|
  mF (mn_CV _ _ mc_X11_barX _) <|
  mF (mn_Go _) <|
  mF (mn_LA _ _) <|
  mF (mn_LI _ _) <|
  mF (mn_LI _ _) <|
  mF (mn_CV _ _ mc_X11_barY _) <|
  mF (mn_RL) <|
  mF0
def C_X11_barAt : mCo := mRun tb_X11_barAt 4
theorem mc_X11_barAt : mMC C_X11_barAt := mRun_mn mt_X11_barAt 4
theorem yi_X11_barAt : mYin yX11_barAt cX11_barAt 4 (some .long) 3 := ⟨wd_60, wd_1111, by decide +kernel, by decide⟩
set_option maxRecDepth 100000 in
set_option maxHeartbeats 4000000 in
theorem sd_X11_barAt (l : Launch) (B : mBs) (p : Program) (e : Env) (s : State) (m : MethodId) (args : Array Value) (below : List Frame) (meth : Method) (c : Code) (Q : mQo) (X : mCx l B RX11 cX11_barAt 4 p s m args c) (hr : meth.sig.returnType = (some .long)) (hk : meth.locks = false) (hn : meth.name = "barAt") : ∀ q ∈ tb_X11_barAt, mSnd l B 4 p e (mRm 2 0 0) s m args below meth c (MQ below (mPo B Q) args s 0 0 (mA B)) (fun r h' => (h'.1.2.1 ≤ 0 ∧ h'.1.2.2 ≤ 0) ∧ Q r h') q.2 q.1 :=
  mF (sn_iload_n (pc := 0) (j := 1) X (by decide +kernel) rfl) <|
  mF (sn_callS (pc := 1) X mc_X11_isPuppet (me_X11_isPuppet l B) yi_X11_isPuppet wd_989 wd_990 (by decide) (by decide +kernel)) <|
  mF (sn_if_eq (pc := 4) (off := 21) X (by decide +kernel) (by decide)) <|
  mF (sn_iload_n (pc := 7) (j := 2) X (by decide +kernel) rfl) <|
  mF (sn_iconst (pc := 8) (n := 0) X (by decide +kernel) (by decide)) <|
  mF (sn_iconst (pc := 9) (n := 5) X (by decide +kernel) (by decide)) <|
  mF (sn_callS (pc := 10) X mc_X11_isIn (me_X11_isIn l B) yi_X11_isIn wd_992 wd_993 (by decide) (by decide +kernel)) <|
  mF (sn_if_eq (pc := 13) (off := 12) X (by decide +kernel) (by decide)) <|
  mF (sn_iload_n (pc := 16) (j := 3) X (by decide +kernel) rfl) <|
  mF (sn_iconst (pc := 17) (n := 0) X (by decide +kernel) (by decide)) <|
  mF (sn_iconst (pc := 18) (n := 1) X (by decide +kernel) (by decide)) <|
  mF (sn_callS (pc := 19) X mc_X11_isIn (me_X11_isIn l B) yi_X11_isIn wd_992 wd_993 (by decide) (by decide +kernel)) <|
  mF (sn_if_ne (pc := 22) (off := 7) X (by decide +kernel) (by decide)) <|
  mF (sn_ldc2 (pc := 25) X (by decide +kernel) wd_999) <|
  mF (sn_lret (pc := 28) X hr hk (by decide +kernel)) <|
  mF (sn_iload_n (pc := 29) (j := 3) X (by decide +kernel) rfl) <|
  mF (sn_if_ne (pc := 30) (off := 12) X (by decide +kernel) (by decide)) <|
  mF (sn_aload_n (pc := 33) (j := 0) X (by decide +kernel) rfl) <|
  mF (sn_iload_n (pc := 34) (j := 1) X (by decide +kernel) rfl) <|
  mF (sn_iload_n (pc := 35) (j := 2) X (by decide +kernel) rfl) <|
  mF (sn_callV (pc := 36) X mc_X11_barX (me_X11_barX l B) yi_X11_barX wd_1112 wd_1114 wd_27 (T := TX11) (N := 22) rfl (by decide) (by decide +kernel)) <|
  mF (sn_goto (pc := 39) (off := 9) X (by decide +kernel) (by decide)) <|
  mF (sn_aload_n (pc := 42) (j := 0) X (by decide +kernel) rfl) <|
  mF (sn_iload_n (pc := 43) (j := 1) X (by decide +kernel) rfl) <|
  mF (sn_iload_n (pc := 44) (j := 2) X (by decide +kernel) rfl) <|
  mF (sn_callV (pc := 45) X mc_X11_barY (me_X11_barY l B) yi_X11_barY wd_1116 wd_1118 wd_28 (T := TX11) (N := 22) rfl (by decide) (by decide +kernel)) <|
  mF (sn_lret (pc := 48) X hr hk (by decide +kernel)) <|
  mF0
theorem me_X11_barAt (l : Launch) (B : mBs) : mMet l B yX11_barAt cX11_barAt 4 (some .long) 2 0 0 C_X11_barAt := mMet_of (own := RX11) (by decide) rfl (fun p e s m args below meth c Q X hr hk hn => sd_X11_barAt l B p e s m args below meth c Q X hr hk hn)
/-! PuppetStageModel.hold(IIIII)J: 106 instructions, depth 3, makes 0 cells of 0 slots -/
def tb_X11_hold_c0 : mTb := [(0, aLA 0 1), (1, aLI 1 2), (2, aLI 3 3), (3, aCV 11 2 C_X11_isLimb 6), (6, aIf (fun x => x = 0) 27 9), (9, aLI 2 10), (10, aPI 0 11), (11, aPI 45 13), (13, aCS 3 C_X11_isIn 16), (16, aIf (fun x => x = 0) 27 19), (19, aLI 2 20), (20, aPI 10 22), (22, aD (fun x y => x - x / y * y) 23), (23, aPI 5 24), (24, aIc (fun x y => x ≤ y) 31 27), (27, aPL (-9000000000000000001) 30), (30, aRL), (31, aLI 4 33), (33, aPI 0 34), (34, aLA 0 35), (35, aLI 1 36), (36, aPI 1 37), (37, aLI 3 38), (38, aB (fun x y => x + y) 39), (39, aCV 11 2 C_X11_get 42), (42, aCS 3 C_X11_isIn 45), (45, aIf (fun x => x = 0) 60 48), (48, aLI 5 50), (50, aPI 0 51), (51, aPI 500 54), (54, aCS 3 C_X11_isIn 57), (57, aIf (fun x => x = 0) 60 64), (60, aPL (-9000000000000000001) 63), (63, aRL), (64, aLA 0 65), (65, aLI 1 66), (66, aPI 55 68), (68, aCV 11 2 C_X11_get 71), (71, aSI 6 73), (73, aLI 6 75), (75, aPI 12 77), (77, aIc (fun x y => x = y) 80 84), (80, aPL (-9000000000000000003) 83), (83, aRL), (84, aLA 0 85), (85, aCV 11 0 C_X11_keep 88), (88, aPI 56 90), (90, aPI 6 92), (92, aLI 6 94), (94, aB (fun x y => x * y) 95), (95, aB (fun x y => x + y) 96), (96, aSI 7 98), (98, aLA 0 99), (99, aLI 1 100), (100, aLI 7 102), (102, aLI 2 103), (103, aPI 10 105), (105, aD (fun x y => x / y) 106), (106, aCV 11 3 C_X11_put 109), (109, aLA 0 110), (110, aLI 1 111), (111, aLI 7 113), (113, aPI 1 114), (114, aB (fun x y => x + y) 115), (115, aLI 3 116), (116, aCV 11 3 C_X11_put 119), (119, aLA 0 120), (120, aLI 1 121), (121, aLI 7 123), (123, aPI 2 124)]
theorem mt_X11_hold_c0 : mMT tb_X11_hold_c0 :=
  mF (mn_LA _ _) <|
  mF (mn_LI _ _) <|
  mF (mn_LI _ _) <|
  mF (mn_CV _ _ mc_X11_isLimb _) <|
  mF (mn_If _ _ _) <|
  mF (mn_LI _ _) <|
  mF (mn_PI _ _) <|
  mF (mn_PI _ _) <|
  mF (mn_CS _ mc_X11_isIn _) <|
  mF (mn_If _ _ _) <|
  mF (mn_LI _ _) <|
  mF (mn_PI _ _) <|
  mF (mn_D _ _) <|
  mF (mn_PI _ _) <|
  mF (mn_Ic _ _ _) <|
  mF (mn_PL _ _) <|
  mF (mn_RL) <|
  mF (mn_LI _ _) <|
  mF (mn_PI _ _) <|
  mF (mn_LA _ _) <|
  mF (mn_LI _ _) <|
  mF (mn_PI _ _) <|
  mF (mn_LI _ _) <|
  mF (mn_B _ _) <|
  mF (mn_CV _ _ mc_X11_get _) <|
  mF (mn_CS _ mc_X11_isIn _) <|
  mF (mn_If _ _ _) <|
  mF (mn_LI _ _) <|
  mF (mn_PI _ _) <|
  mF (mn_PI _ _) <|
  mF (mn_CS _ mc_X11_isIn _) <|
  mF (mn_If _ _ _) <|
  mF (mn_PL _ _) <|
  mF (mn_RL) <|
  mF (mn_LA _ _) <|
  mF (mn_LI _ _) <|
  mF (mn_PI _ _) <|
  mF (mn_CV _ _ mc_X11_get _) <|
  mF (mn_SI _ _) <|
  mF (mn_LI _ _) <|
  mF (mn_PI _ _) <|
  mF (mn_Ic _ _ _) <|
  mF (mn_PL _ _) <|
  mF (mn_RL) <|
  mF (mn_LA _ _) <|
  mF (mn_CV _ _ mc_X11_keep _) <|
  mF (mn_PI _ _) <|
  mF (mn_PI _ _) <|
  mF (mn_LI _ _) <|
  mF (mn_B _ _) <|
  mF (mn_B _ _) <|
  mF (mn_SI _ _) <|
  mF (mn_LA _ _) <|
  mF (mn_LI _ _) <|
  mF (mn_LI _ _) <|
  mF (mn_LI _ _) <|
  mF (mn_PI _ _) <|
  mF (mn_D _ _) <|
  mF (mn_CV _ _ mc_X11_put _) <|
  mF (mn_LA _ _) <|
  mF (mn_LI _ _) <|
  mF (mn_LI _ _) <|
  mF (mn_PI _ _) <|
  mF (mn_B _ _) <|
  mF (mn_LI _ _) <|
  mF (mn_CV _ _ mc_X11_put _) <|
  mF (mn_LA _ _) <|
  mF (mn_LI _ _) <|
  mF (mn_LI _ _) <|
  mF (mn_PI _ _) <|
  mF0
def tb_X11_hold_c1 : mTb := [(124, aB (fun x y => x + y) 125), (125, aLI 4 127), (127, aCV 11 3 C_X11_put 130), (130, aLA 0 131), (131, aLI 1 132), (132, aLI 7 134), (134, aPI 3 135), (135, aB (fun x y => x + y) 136), (136, aLI 2 137), (137, aPI 10 139), (139, aD (fun x y => x - x / y * y) 140), (140, aCV 11 3 C_X11_put 143), (143, aLA 0 144), (144, aLI 1 145), (145, aLI 7 147), (147, aPI 4 148), (148, aB (fun x y => x + y) 149), (149, aLI 5 151), (151, aCV 11 3 C_X11_put 154), (154, aLA 0 155), (155, aLI 1 156), (156, aLI 7 158), (158, aPI 5 159), (159, aB (fun x y => x + y) 160), (160, aPI 0 161), (161, aCV 11 3 C_X11_put 164), (164, aLA 0 165), (165, aLI 1 166), (166, aPI 55 168), (168, aLI 6 170), (170, aPI 1 171), (171, aB (fun x y => x + y) 172), (172, aCV 11 3 C_X11_put 175), (175, aLI 6 177), (177, aI2L 178), (178, aRL)]
theorem mt_X11_hold_c1 : mMT tb_X11_hold_c1 :=
  mF (mn_B _ _) <|
  mF (mn_LI _ _) <|
  mF (mn_CV _ _ mc_X11_put _) <|
  mF (mn_LA _ _) <|
  mF (mn_LI _ _) <|
  mF (mn_LI _ _) <|
  mF (mn_PI _ _) <|
  mF (mn_B _ _) <|
  mF (mn_LI _ _) <|
  mF (mn_PI _ _) <|
  mF (mn_D _ _) <|
  mF (mn_CV _ _ mc_X11_put _) <|
  mF (mn_LA _ _) <|
  mF (mn_LI _ _) <|
  mF (mn_LI _ _) <|
  mF (mn_PI _ _) <|
  mF (mn_B _ _) <|
  mF (mn_LI _ _) <|
  mF (mn_CV _ _ mc_X11_put _) <|
  mF (mn_LA _ _) <|
  mF (mn_LI _ _) <|
  mF (mn_LI _ _) <|
  mF (mn_PI _ _) <|
  mF (mn_B _ _) <|
  mF (mn_PI _ _) <|
  mF (mn_CV _ _ mc_X11_put _) <|
  mF (mn_LA _ _) <|
  mF (mn_LI _ _) <|
  mF (mn_PI _ _) <|
  mF (mn_LI _ _) <|
  mF (mn_PI _ _) <|
  mF (mn_B _ _) <|
  mF (mn_CV _ _ mc_X11_put _) <|
  mF (mn_LI _ _) <|
  mF (mn_I2L _) <|
  mF (mn_RL) <|
  mF0
def tb_X11_hold : mTb := tb_X11_hold_c0 ++ (tb_X11_hold_c1)
theorem mt_X11_hold : mMT tb_X11_hold := mFA mt_X11_hold_c0 mt_X11_hold_c1
def C_X11_hold : mCo := mRun tb_X11_hold 8
theorem mc_X11_hold : mMC C_X11_hold := mRun_mn mt_X11_hold 8
theorem yi_X11_hold : mYin yX11_hold cX11_hold 8 (some .long) 5 := ⟨wd_60, wd_1123, by decide +kernel, by decide⟩
set_option maxRecDepth 100000 in
set_option maxHeartbeats 4000000 in
theorem sd_X11_hold_c0 (l : Launch) (B : mBs) (p : Program) (e : Env) (s : State) (m : MethodId) (args : Array Value) (below : List Frame) (meth : Method) (c : Code) (Q : mQo) (X : mCx l B RX11 cX11_hold 8 p s m args c) (hr : meth.sig.returnType = (some .long)) (hk : meth.locks = false) (hn : meth.name = "hold") : ∀ q ∈ tb_X11_hold_c0, mSnd l B 8 p e (mRm 3 0 0) s m args below meth c (MQ below (mPo B Q) args s 0 0 (mA B)) (fun r h' => (h'.1.2.1 ≤ 0 ∧ h'.1.2.2 ≤ 0) ∧ Q r h') q.2 q.1 :=
  mF (sn_aload_n (pc := 0) (j := 0) X (by decide +kernel) rfl) <|
  mF (sn_iload_n (pc := 1) (j := 1) X (by decide +kernel) rfl) <|
  mF (sn_iload_n (pc := 2) (j := 3) X (by decide +kernel) rfl) <|
  mF (sn_callV (pc := 3) X mc_X11_isLimb (me_X11_isLimb l B) yi_X11_isLimb wd_1062 wd_1064 wd_20 (T := TX11) (N := 22) rfl (by decide) (by decide +kernel)) <|
  mF (sn_if_eq (pc := 6) (off := 21) X (by decide +kernel) (by decide)) <|
  mF (sn_iload_n (pc := 9) (j := 2) X (by decide +kernel) rfl) <|
  mF (sn_iconst (pc := 10) (n := 0) X (by decide +kernel) (by decide)) <|
  mF (sn_bipush (pc := 11) (n := 45) X (by decide +kernel) (by decide)) <|
  mF (sn_callS (pc := 13) X mc_X11_isIn (me_X11_isIn l B) yi_X11_isIn wd_992 wd_993 (by decide) (by decide +kernel)) <|
  mF (sn_if_eq (pc := 16) (off := 11) X (by decide +kernel) (by decide)) <|
  mF (sn_iload_n (pc := 19) (j := 2) X (by decide +kernel) rfl) <|
  mF (sn_bipush (pc := 20) (n := 10) X (by decide +kernel) (by decide)) <|
  mF (sn_irem (pc := 22) X (by decide +kernel)) <|
  mF (sn_iconst (pc := 23) (n := 5) X (by decide +kernel) (by decide)) <|
  mF (sn_icmp_le (pc := 24) (off := 7) X (by decide +kernel) (by decide)) <|
  mF (sn_ldc2 (pc := 27) X (by decide +kernel) wd_999) <|
  mF (sn_lret (pc := 30) X hr hk (by decide +kernel)) <|
  mF (sn_iload (pc := 31) X (by decide +kernel)) <|
  mF (sn_iconst (pc := 33) (n := 0) X (by decide +kernel) (by decide)) <|
  mF (sn_aload_n (pc := 34) (j := 0) X (by decide +kernel) rfl) <|
  mF (sn_iload_n (pc := 35) (j := 1) X (by decide +kernel) rfl) <|
  mF (sn_iconst (pc := 36) (n := 1) X (by decide +kernel) (by decide)) <|
  mF (sn_iload_n (pc := 37) (j := 3) X (by decide +kernel) rfl) <|
  mF (sn_iadd (pc := 38) X (by decide +kernel)) <|
  mF (sn_callV (pc := 39) X mc_X11_get (me_X11_get l B) yi_X11_get wd_995 wd_997 wd_12 (T := TX11) (N := 22) rfl (by decide) (by decide +kernel)) <|
  mF (sn_callS (pc := 42) X mc_X11_isIn (me_X11_isIn l B) yi_X11_isIn wd_992 wd_993 (by decide) (by decide +kernel)) <|
  mF (sn_if_eq (pc := 45) (off := 15) X (by decide +kernel) (by decide)) <|
  mF (sn_iload (pc := 48) X (by decide +kernel)) <|
  mF (sn_iconst (pc := 50) (n := 0) X (by decide +kernel) (by decide)) <|
  mF (sn_sipush (pc := 51) (n := 500) X (by decide +kernel) (by decide)) <|
  mF (sn_callS (pc := 54) X mc_X11_isIn (me_X11_isIn l B) yi_X11_isIn wd_992 wd_993 (by decide) (by decide +kernel)) <|
  mF (sn_if_ne (pc := 57) (off := 7) X (by decide +kernel) (by decide)) <|
  mF (sn_ldc2 (pc := 60) X (by decide +kernel) wd_999) <|
  mF (sn_lret (pc := 63) X hr hk (by decide +kernel)) <|
  mF (sn_aload_n (pc := 64) (j := 0) X (by decide +kernel) rfl) <|
  mF (sn_iload_n (pc := 65) (j := 1) X (by decide +kernel) rfl) <|
  mF (sn_bipush (pc := 66) (n := 55) X (by decide +kernel) (by decide)) <|
  mF (sn_callV (pc := 68) X mc_X11_get (me_X11_get l B) yi_X11_get wd_995 wd_997 wd_12 (T := TX11) (N := 22) rfl (by decide) (by decide +kernel)) <|
  mF (sn_istore (pc := 71) X (by decide +kernel) (by decide)) <|
  mF (sn_iload (pc := 73) X (by decide +kernel)) <|
  mF (sn_bipush (pc := 75) (n := 12) X (by decide +kernel) (by decide)) <|
  mF (sn_icmp_ne (pc := 77) (off := 7) X (by decide +kernel) (by decide)) <|
  mF (sn_ldc2 (pc := 80) X (by decide +kernel) wd_1008) <|
  mF (sn_lret (pc := 83) X hr hk (by decide +kernel)) <|
  mF (sn_aload_n (pc := 84) (j := 0) X (by decide +kernel) rfl) <|
  mF (sn_callV (pc := 85) X mc_X11_keep (me_X11_keep l B) yi_X11_keep wd_1009 wd_1011 wd_15 (T := TX11) (N := 22) rfl (by decide) (by decide +kernel)) <|
  mF (sn_bipush (pc := 88) (n := 56) X (by decide +kernel) (by decide)) <|
  mF (sn_bipush (pc := 90) (n := 6) X (by decide +kernel) (by decide)) <|
  mF (sn_iload (pc := 92) X (by decide +kernel)) <|
  mF (sn_imul (pc := 94) X (by decide +kernel)) <|
  mF (sn_iadd (pc := 95) X (by decide +kernel)) <|
  mF (sn_istore (pc := 96) X (by decide +kernel) (by decide)) <|
  mF (sn_aload_n (pc := 98) (j := 0) X (by decide +kernel) rfl) <|
  mF (sn_iload_n (pc := 99) (j := 1) X (by decide +kernel) rfl) <|
  mF (sn_iload (pc := 100) X (by decide +kernel)) <|
  mF (sn_iload_n (pc := 102) (j := 2) X (by decide +kernel) rfl) <|
  mF (sn_bipush (pc := 103) (n := 10) X (by decide +kernel) (by decide)) <|
  mF (sn_idiv (pc := 105) X (by decide +kernel)) <|
  mF (sn_callV (pc := 106) X mc_X11_put (me_X11_put l B) yi_X11_put wd_1013 wd_1015 wd_16 (T := TX11) (N := 22) rfl (by decide) (by decide +kernel)) <|
  mF (sn_aload_n (pc := 109) (j := 0) X (by decide +kernel) rfl) <|
  mF (sn_iload_n (pc := 110) (j := 1) X (by decide +kernel) rfl) <|
  mF (sn_iload (pc := 111) X (by decide +kernel)) <|
  mF (sn_iconst (pc := 113) (n := 1) X (by decide +kernel) (by decide)) <|
  mF (sn_iadd (pc := 114) X (by decide +kernel)) <|
  mF (sn_iload_n (pc := 115) (j := 3) X (by decide +kernel) rfl) <|
  mF (sn_callV (pc := 116) X mc_X11_put (me_X11_put l B) yi_X11_put wd_1013 wd_1015 wd_16 (T := TX11) (N := 22) rfl (by decide) (by decide +kernel)) <|
  mF (sn_aload_n (pc := 119) (j := 0) X (by decide +kernel) rfl) <|
  mF (sn_iload_n (pc := 120) (j := 1) X (by decide +kernel) rfl) <|
  mF (sn_iload (pc := 121) X (by decide +kernel)) <|
  mF (sn_iconst (pc := 123) (n := 2) X (by decide +kernel) (by decide)) <|
  mF0
set_option maxRecDepth 100000 in
set_option maxHeartbeats 4000000 in
theorem sd_X11_hold_c1 (l : Launch) (B : mBs) (p : Program) (e : Env) (s : State) (m : MethodId) (args : Array Value) (below : List Frame) (meth : Method) (c : Code) (Q : mQo) (X : mCx l B RX11 cX11_hold 8 p s m args c) (hr : meth.sig.returnType = (some .long)) (hk : meth.locks = false) (hn : meth.name = "hold") : ∀ q ∈ tb_X11_hold_c1, mSnd l B 8 p e (mRm 3 0 0) s m args below meth c (MQ below (mPo B Q) args s 0 0 (mA B)) (fun r h' => (h'.1.2.1 ≤ 0 ∧ h'.1.2.2 ≤ 0) ∧ Q r h') q.2 q.1 :=
  mF (sn_iadd (pc := 124) X (by decide +kernel)) <|
  mF (sn_iload (pc := 125) X (by decide +kernel)) <|
  mF (sn_callV (pc := 127) X mc_X11_put (me_X11_put l B) yi_X11_put wd_1013 wd_1015 wd_16 (T := TX11) (N := 22) rfl (by decide) (by decide +kernel)) <|
  mF (sn_aload_n (pc := 130) (j := 0) X (by decide +kernel) rfl) <|
  mF (sn_iload_n (pc := 131) (j := 1) X (by decide +kernel) rfl) <|
  mF (sn_iload (pc := 132) X (by decide +kernel)) <|
  mF (sn_iconst (pc := 134) (n := 3) X (by decide +kernel) (by decide)) <|
  mF (sn_iadd (pc := 135) X (by decide +kernel)) <|
  mF (sn_iload_n (pc := 136) (j := 2) X (by decide +kernel) rfl) <|
  mF (sn_bipush (pc := 137) (n := 10) X (by decide +kernel) (by decide)) <|
  mF (sn_irem (pc := 139) X (by decide +kernel)) <|
  mF (sn_callV (pc := 140) X mc_X11_put (me_X11_put l B) yi_X11_put wd_1013 wd_1015 wd_16 (T := TX11) (N := 22) rfl (by decide) (by decide +kernel)) <|
  mF (sn_aload_n (pc := 143) (j := 0) X (by decide +kernel) rfl) <|
  mF (sn_iload_n (pc := 144) (j := 1) X (by decide +kernel) rfl) <|
  mF (sn_iload (pc := 145) X (by decide +kernel)) <|
  mF (sn_iconst (pc := 147) (n := 4) X (by decide +kernel) (by decide)) <|
  mF (sn_iadd (pc := 148) X (by decide +kernel)) <|
  mF (sn_iload (pc := 149) X (by decide +kernel)) <|
  mF (sn_callV (pc := 151) X mc_X11_put (me_X11_put l B) yi_X11_put wd_1013 wd_1015 wd_16 (T := TX11) (N := 22) rfl (by decide) (by decide +kernel)) <|
  mF (sn_aload_n (pc := 154) (j := 0) X (by decide +kernel) rfl) <|
  mF (sn_iload_n (pc := 155) (j := 1) X (by decide +kernel) rfl) <|
  mF (sn_iload (pc := 156) X (by decide +kernel)) <|
  mF (sn_iconst (pc := 158) (n := 5) X (by decide +kernel) (by decide)) <|
  mF (sn_iadd (pc := 159) X (by decide +kernel)) <|
  mF (sn_iconst (pc := 160) (n := 0) X (by decide +kernel) (by decide)) <|
  mF (sn_callV (pc := 161) X mc_X11_put (me_X11_put l B) yi_X11_put wd_1013 wd_1015 wd_16 (T := TX11) (N := 22) rfl (by decide) (by decide +kernel)) <|
  mF (sn_aload_n (pc := 164) (j := 0) X (by decide +kernel) rfl) <|
  mF (sn_iload_n (pc := 165) (j := 1) X (by decide +kernel) rfl) <|
  mF (sn_bipush (pc := 166) (n := 55) X (by decide +kernel) (by decide)) <|
  mF (sn_iload (pc := 168) X (by decide +kernel)) <|
  mF (sn_iconst (pc := 170) (n := 1) X (by decide +kernel) (by decide)) <|
  mF (sn_iadd (pc := 171) X (by decide +kernel)) <|
  mF (sn_callV (pc := 172) X mc_X11_put (me_X11_put l B) yi_X11_put wd_1013 wd_1015 wd_16 (T := TX11) (N := 22) rfl (by decide) (by decide +kernel)) <|
  mF (sn_iload (pc := 175) X (by decide +kernel)) <|
  mF (sn_i2l (pc := 177) X (by decide +kernel)) <|
  mF (sn_lret (pc := 178) X hr hk (by decide +kernel)) <|
  mF0
theorem sd_X11_hold (l : Launch) (B : mBs) (p : Program) (e : Env) (s : State) (m : MethodId) (args : Array Value) (below : List Frame) (meth : Method) (c : Code) (Q : mQo) (X : mCx l B RX11 cX11_hold 8 p s m args c) (hr : meth.sig.returnType = (some .long)) (hk : meth.locks = false) (hn : meth.name = "hold") : ∀ q ∈ tb_X11_hold, mSnd l B 8 p e (mRm 3 0 0) s m args below meth c (MQ below (mPo B Q) args s 0 0 (mA B)) (fun r h' => (h'.1.2.1 ≤ 0 ∧ h'.1.2.2 ≤ 0) ∧ Q r h') q.2 q.1 := mFA (sd_X11_hold_c0 l B p e s m args below meth c Q X hr hk hn) (sd_X11_hold_c1 l B p e s m args below meth c Q X hr hk hn)
theorem me_X11_hold (l : Launch) (B : mBs) : mMet l B yX11_hold cX11_hold 8 (some .long) 3 0 0 C_X11_hold := mMet_of (own := RX11) (by decide) rfl (fun p e s m args below meth c Q X hr hk hn => sd_X11_hold l B p e s m args below meth c Q X hr hk hn)
/-! PuppetStageModel.drop(II)J: 22 instructions, depth 3, makes 0 cells of 0 slots -/
def tb_X11_drop : mTb := [(0, aLA 0 1), (1, aLI 1 2), (2, aLI 2 3), (3, aCV 11 2 C_X11_isHold 6), (6, aIf (fun x => x = 0) 9 13), (9, aPL (-9000000000000000001) 12), (12, aRL), (13, aLA 0 14), (14, aCV 11 0 C_X11_keep 17), (17, aLA 0 18), (18, aLI 1 19), (19, aLI 2 20), (20, aPI 0 21), (21, aCV 11 3 C_X11_of 24), (24, aI2L 25), (25, aSL 3 26), (26, aLA 0 27), (27, aLI 1 28), (28, aLI 2 29), (29, aCV 11 2 C_X11_dropHold 32), (32, aLL 3 33), (33, aRL)]
theorem mt_X11_drop : mMT tb_X11_drop :=
  mF (mn_LA _ _) <|
  mF (mn_LI _ _) <|
  mF (mn_LI _ _) <|
  mF (mn_CV _ _ mc_X11_isHold _) <|
  mF (mn_If _ _ _) <|
  mF (mn_PL _ _) <|
  mF (mn_RL) <|
  mF (mn_LA _ _) <|
  mF (mn_CV _ _ mc_X11_keep _) <|
  mF (mn_LA _ _) <|
  mF (mn_LI _ _) <|
  mF (mn_LI _ _) <|
  mF (mn_PI _ _) <|
  mF (mn_CV _ _ mc_X11_of _) <|
  mF (mn_I2L _) <|
  mF (mn_SL _ _) <|
  mF (mn_LA _ _) <|
  mF (mn_LI _ _) <|
  mF (mn_LI _ _) <|
  mF (mn_CV _ _ mc_X11_dropHold _) <|
  mF (mn_LL _ _) <|
  mF (mn_RL) <|
  mF0
def C_X11_drop : mCo := mRun tb_X11_drop 5
theorem mc_X11_drop : mMC C_X11_drop := mRun_mn mt_X11_drop 5
theorem yi_X11_drop : mYin yX11_drop cX11_drop 5 (some .long) 2 := ⟨wd_60, wd_1127, by decide +kernel, by decide⟩
set_option maxRecDepth 100000 in
set_option maxHeartbeats 4000000 in
theorem sd_X11_drop (l : Launch) (B : mBs) (p : Program) (e : Env) (s : State) (m : MethodId) (args : Array Value) (below : List Frame) (meth : Method) (c : Code) (Q : mQo) (X : mCx l B RX11 cX11_drop 5 p s m args c) (hr : meth.sig.returnType = (some .long)) (hk : meth.locks = false) (hn : meth.name = "drop") : ∀ q ∈ tb_X11_drop, mSnd l B 5 p e (mRm 3 0 0) s m args below meth c (MQ below (mPo B Q) args s 0 0 (mA B)) (fun r h' => (h'.1.2.1 ≤ 0 ∧ h'.1.2.2 ≤ 0) ∧ Q r h') q.2 q.1 :=
  mF (sn_aload_n (pc := 0) (j := 0) X (by decide +kernel) rfl) <|
  mF (sn_iload_n (pc := 1) (j := 1) X (by decide +kernel) rfl) <|
  mF (sn_iload_n (pc := 2) (j := 2) X (by decide +kernel) rfl) <|
  mF (sn_callV (pc := 3) X mc_X11_isHold (me_X11_isHold l B) yi_X11_isHold wd_1128 wd_1130 wd_29 (T := TX11) (N := 22) rfl (by decide) (by decide +kernel)) <|
  mF (sn_if_ne (pc := 6) (off := 7) X (by decide +kernel) (by decide)) <|
  mF (sn_ldc2 (pc := 9) X (by decide +kernel) wd_999) <|
  mF (sn_lret (pc := 12) X hr hk (by decide +kernel)) <|
  mF (sn_aload_n (pc := 13) (j := 0) X (by decide +kernel) rfl) <|
  mF (sn_callV (pc := 14) X mc_X11_keep (me_X11_keep l B) yi_X11_keep wd_1009 wd_1011 wd_15 (T := TX11) (N := 22) rfl (by decide) (by decide +kernel)) <|
  mF (sn_aload_n (pc := 17) (j := 0) X (by decide +kernel) rfl) <|
  mF (sn_iload_n (pc := 18) (j := 1) X (by decide +kernel) rfl) <|
  mF (sn_iload_n (pc := 19) (j := 2) X (by decide +kernel) rfl) <|
  mF (sn_iconst (pc := 20) (n := 0) X (by decide +kernel) (by decide)) <|
  mF (sn_callV (pc := 21) X mc_X11_of (me_X11_of l B) yi_X11_of wd_1021 wd_1023 wd_17 (T := TX11) (N := 22) rfl (by decide) (by decide +kernel)) <|
  mF (sn_i2l (pc := 24) X (by decide +kernel)) <|
  mF (sn_lstore_n (pc := 25) (j := 3) X (by decide +kernel) rfl (by decide)) <|
  mF (sn_aload_n (pc := 26) (j := 0) X (by decide +kernel) rfl) <|
  mF (sn_iload_n (pc := 27) (j := 1) X (by decide +kernel) rfl) <|
  mF (sn_iload_n (pc := 28) (j := 2) X (by decide +kernel) rfl) <|
  mF (sn_callV (pc := 29) X mc_X11_dropHold (me_X11_dropHold l B) yi_X11_dropHold wd_1025 wd_1027 wd_18 (T := TX11) (N := 22) rfl (by decide) (by decide +kernel)) <|
  mF (sn_lload_n (pc := 32) (j := 3) X (by decide +kernel) rfl) <|
  mF (sn_lret (pc := 33) X hr hk (by decide +kernel)) <|
  mF0
theorem me_X11_drop (l : Launch) (B : mBs) : mMet l B yX11_drop cX11_drop 5 (some .long) 3 0 0 C_X11_drop := mMet_of (own := RX11) (by decide) rfl (fun p e s m args below meth c Q X hr hk hn => sd_X11_drop l B p e s m args below meth c Q X hr hk hn)
/-! PuppetStageModel.pluck(III)J: 49 instructions, depth 3, makes 0 cells of 0 slots -/
def tb_X11_pluck : mTb := [(0, aLA 0 1), (1, aLI 1 2), (2, aLI 2 3), (3, aCV 11 2 C_X11_isHold 6), (6, aIf (fun x => x = 0) 9 13), (9, aPL (-9000000000000000001) 12), (12, aRL), (13, aLA 0 14), (14, aLI 1 15), (15, aLI 2 16), (16, aPI 0 17), (17, aCV 11 3 C_X11_of 20), (20, aPI 2 21), (21, aIc (fun x y => x = y) 28 24), (24, aPL (-9000000000000000002) 27), (27, aRL), (28, aLI 3 29), (29, aPI 0 30), (30, aLA 0 31), (31, aLI 1 32), (32, aLI 2 33), (33, aPI 4 34), (34, aCV 11 3 C_X11_of 37), (37, aCS 3 C_X11_isIn 40), (40, aIf (fun x => x = 0) 43 47), (43, aPL (-9000000000000000001) 46), (46, aRL), (47, aLA 0 48), (48, aCV 11 0 C_X11_keep 51), (51, aLA 0 52), (52, aLI 1 53), (53, aLI 2 54), (54, aPI 5 55), (55, aCV 11 3 C_X11_of 58), (58, aI2L 59), (59, aSL 4 61), (61, aLA 0 62), (62, aLI 1 63), (63, aPI 56 65), (65, aPI 6 67), (67, aLI 2 68), (68, aB (fun x y => x * y) 69), (69, aB (fun x y => x + y) 70), (70, aPI 5 71), (71, aB (fun x y => x + y) 72), (72, aLI 3 73), (73, aCV 11 3 C_X11_put 76), (76, aLL 4 78), (78, aRL)]
theorem mt_X11_pluck : mMT tb_X11_pluck :=
  mF (mn_LA _ _) <|
  mF (mn_LI _ _) <|
  mF (mn_LI _ _) <|
  mF (mn_CV _ _ mc_X11_isHold _) <|
  mF (mn_If _ _ _) <|
  mF (mn_PL _ _) <|
  mF (mn_RL) <|
  mF (mn_LA _ _) <|
  mF (mn_LI _ _) <|
  mF (mn_LI _ _) <|
  mF (mn_PI _ _) <|
  mF (mn_CV _ _ mc_X11_of _) <|
  mF (mn_PI _ _) <|
  mF (mn_Ic _ _ _) <|
  mF (mn_PL _ _) <|
  mF (mn_RL) <|
  mF (mn_LI _ _) <|
  mF (mn_PI _ _) <|
  mF (mn_LA _ _) <|
  mF (mn_LI _ _) <|
  mF (mn_LI _ _) <|
  mF (mn_PI _ _) <|
  mF (mn_CV _ _ mc_X11_of _) <|
  mF (mn_CS _ mc_X11_isIn _) <|
  mF (mn_If _ _ _) <|
  mF (mn_PL _ _) <|
  mF (mn_RL) <|
  mF (mn_LA _ _) <|
  mF (mn_CV _ _ mc_X11_keep _) <|
  mF (mn_LA _ _) <|
  mF (mn_LI _ _) <|
  mF (mn_LI _ _) <|
  mF (mn_PI _ _) <|
  mF (mn_CV _ _ mc_X11_of _) <|
  mF (mn_I2L _) <|
  mF (mn_SL _ _) <|
  mF (mn_LA _ _) <|
  mF (mn_LI _ _) <|
  mF (mn_PI _ _) <|
  mF (mn_PI _ _) <|
  mF (mn_LI _ _) <|
  mF (mn_B _ _) <|
  mF (mn_B _ _) <|
  mF (mn_PI _ _) <|
  mF (mn_B _ _) <|
  mF (mn_LI _ _) <|
  mF (mn_CV _ _ mc_X11_put _) <|
  mF (mn_LL _ _) <|
  mF (mn_RL) <|
  mF0
def C_X11_pluck : mCo := mRun tb_X11_pluck 6
theorem mc_X11_pluck : mMC C_X11_pluck := mRun_mn mt_X11_pluck 6
theorem yi_X11_pluck : mYin yX11_pluck cX11_pluck 6 (some .long) 3 := ⟨wd_60, wd_1135, by decide +kernel, by decide⟩
set_option maxRecDepth 100000 in
set_option maxHeartbeats 4000000 in
theorem sd_X11_pluck (l : Launch) (B : mBs) (p : Program) (e : Env) (s : State) (m : MethodId) (args : Array Value) (below : List Frame) (meth : Method) (c : Code) (Q : mQo) (X : mCx l B RX11 cX11_pluck 6 p s m args c) (hr : meth.sig.returnType = (some .long)) (hk : meth.locks = false) (hn : meth.name = "pluck") : ∀ q ∈ tb_X11_pluck, mSnd l B 6 p e (mRm 3 0 0) s m args below meth c (MQ below (mPo B Q) args s 0 0 (mA B)) (fun r h' => (h'.1.2.1 ≤ 0 ∧ h'.1.2.2 ≤ 0) ∧ Q r h') q.2 q.1 :=
  mF (sn_aload_n (pc := 0) (j := 0) X (by decide +kernel) rfl) <|
  mF (sn_iload_n (pc := 1) (j := 1) X (by decide +kernel) rfl) <|
  mF (sn_iload_n (pc := 2) (j := 2) X (by decide +kernel) rfl) <|
  mF (sn_callV (pc := 3) X mc_X11_isHold (me_X11_isHold l B) yi_X11_isHold wd_1128 wd_1130 wd_29 (T := TX11) (N := 22) rfl (by decide) (by decide +kernel)) <|
  mF (sn_if_ne (pc := 6) (off := 7) X (by decide +kernel) (by decide)) <|
  mF (sn_ldc2 (pc := 9) X (by decide +kernel) wd_999) <|
  mF (sn_lret (pc := 12) X hr hk (by decide +kernel)) <|
  mF (sn_aload_n (pc := 13) (j := 0) X (by decide +kernel) rfl) <|
  mF (sn_iload_n (pc := 14) (j := 1) X (by decide +kernel) rfl) <|
  mF (sn_iload_n (pc := 15) (j := 2) X (by decide +kernel) rfl) <|
  mF (sn_iconst (pc := 16) (n := 0) X (by decide +kernel) (by decide)) <|
  mF (sn_callV (pc := 17) X mc_X11_of (me_X11_of l B) yi_X11_of wd_1021 wd_1023 wd_17 (T := TX11) (N := 22) rfl (by decide) (by decide +kernel)) <|
  mF (sn_iconst (pc := 20) (n := 2) X (by decide +kernel) (by decide)) <|
  mF (sn_icmp_eq (pc := 21) (off := 7) X (by decide +kernel) (by decide)) <|
  mF (sn_ldc2 (pc := 24) X (by decide +kernel) wd_984) <|
  mF (sn_lret (pc := 27) X hr hk (by decide +kernel)) <|
  mF (sn_iload_n (pc := 28) (j := 3) X (by decide +kernel) rfl) <|
  mF (sn_iconst (pc := 29) (n := 0) X (by decide +kernel) (by decide)) <|
  mF (sn_aload_n (pc := 30) (j := 0) X (by decide +kernel) rfl) <|
  mF (sn_iload_n (pc := 31) (j := 1) X (by decide +kernel) rfl) <|
  mF (sn_iload_n (pc := 32) (j := 2) X (by decide +kernel) rfl) <|
  mF (sn_iconst (pc := 33) (n := 4) X (by decide +kernel) (by decide)) <|
  mF (sn_callV (pc := 34) X mc_X11_of (me_X11_of l B) yi_X11_of wd_1021 wd_1023 wd_17 (T := TX11) (N := 22) rfl (by decide) (by decide +kernel)) <|
  mF (sn_callS (pc := 37) X mc_X11_isIn (me_X11_isIn l B) yi_X11_isIn wd_992 wd_993 (by decide) (by decide +kernel)) <|
  mF (sn_if_ne (pc := 40) (off := 7) X (by decide +kernel) (by decide)) <|
  mF (sn_ldc2 (pc := 43) X (by decide +kernel) wd_999) <|
  mF (sn_lret (pc := 46) X hr hk (by decide +kernel)) <|
  mF (sn_aload_n (pc := 47) (j := 0) X (by decide +kernel) rfl) <|
  mF (sn_callV (pc := 48) X mc_X11_keep (me_X11_keep l B) yi_X11_keep wd_1009 wd_1011 wd_15 (T := TX11) (N := 22) rfl (by decide) (by decide +kernel)) <|
  mF (sn_aload_n (pc := 51) (j := 0) X (by decide +kernel) rfl) <|
  mF (sn_iload_n (pc := 52) (j := 1) X (by decide +kernel) rfl) <|
  mF (sn_iload_n (pc := 53) (j := 2) X (by decide +kernel) rfl) <|
  mF (sn_iconst (pc := 54) (n := 5) X (by decide +kernel) (by decide)) <|
  mF (sn_callV (pc := 55) X mc_X11_of (me_X11_of l B) yi_X11_of wd_1021 wd_1023 wd_17 (T := TX11) (N := 22) rfl (by decide) (by decide +kernel)) <|
  mF (sn_i2l (pc := 58) X (by decide +kernel)) <|
  mF (sn_lstore (pc := 59) X (by decide +kernel) (by decide)) <|
  mF (sn_aload_n (pc := 61) (j := 0) X (by decide +kernel) rfl) <|
  mF (sn_iload_n (pc := 62) (j := 1) X (by decide +kernel) rfl) <|
  mF (sn_bipush (pc := 63) (n := 56) X (by decide +kernel) (by decide)) <|
  mF (sn_bipush (pc := 65) (n := 6) X (by decide +kernel) (by decide)) <|
  mF (sn_iload_n (pc := 67) (j := 2) X (by decide +kernel) rfl) <|
  mF (sn_imul (pc := 68) X (by decide +kernel)) <|
  mF (sn_iadd (pc := 69) X (by decide +kernel)) <|
  mF (sn_iconst (pc := 70) (n := 5) X (by decide +kernel) (by decide)) <|
  mF (sn_iadd (pc := 71) X (by decide +kernel)) <|
  mF (sn_iload_n (pc := 72) (j := 3) X (by decide +kernel) rfl) <|
  mF (sn_callV (pc := 73) X mc_X11_put (me_X11_put l B) yi_X11_put wd_1013 wd_1015 wd_16 (T := TX11) (N := 22) rfl (by decide) (by decide +kernel)) <|
  mF (sn_lload (pc := 76) X (by decide +kernel)) <|
  mF (sn_lret (pc := 78) X hr hk (by decide +kernel)) <|
  mF0
theorem me_X11_pluck (l : Launch) (B : mBs) : mMet l B yX11_pluck cX11_pluck 6 (some .long) 3 0 0 C_X11_pluck := mMet_of (own := RX11) (by decide) rfl (fun p e s m args below meth c Q X hr hk hn => sd_X11_pluck l B p e s m args below meth c Q X hr hk hn)
/-! PuppetStageModel.holds(III)J: 43 instructions, depth 4, makes 0 cells of 0 slots -/
def tb_X11_holds : mTb := [(0, aLA 0 1), (1, aLI 1 2), (2, aLI 2 3), (3, aCV 11 2 C_X11_isHold 6), (6, aIf (fun x => x = 0) 19 9), (9, aLI 3 10), (10, aPI 0 11), (11, aPI 8 13), (13, aCS 3 C_X11_isIn 16), (16, aIf (fun x => x = 0) 19 23), (19, aPL (-9000000000000000001) 22), (22, aRL), (23, aLA 0 24), (24, aLI 1 25), (25, aCV 11 1 C_X11_lay 28), (28, aLI 3 29), (29, aTs [(6, 56), (7, 63), (8, 70)] 85), (56, aLA 0 57), (57, aLI 1 58), (58, aLI 2 59), (59, aCV 11 2 C_X11_far 62), (62, aRL), (63, aLA 0 64), (64, aLI 1 65), (65, aLI 2 66), (66, aCV 11 2 C_X11_excess 69), (69, aRL), (70, aLA 0 71), (71, aLI 1 72), (72, aLI 2 73), (73, aCV 11 2 C_X11_isTaut 76), (76, aIf (fun x => x = 0) 83 79), (79, aPL 1 80), (80, aGo 84), (83, aPL 0 84), (84, aRL), (85, aLA 0 86), (86, aLI 1 87), (87, aLI 2 88), (88, aLI 3 89), (89, aCV 11 3 C_X11_of 92), (92, aI2L 93), (93, aRL)]
theorem mt_X11_holds : mMT tb_X11_holds :=
  mF (mn_LA _ _) <|
  mF (mn_LI _ _) <|
  mF (mn_LI _ _) <|
  mF (mn_CV _ _ mc_X11_isHold _) <|
  mF (mn_If _ _ _) <|
  mF (mn_LI _ _) <|
  mF (mn_PI _ _) <|
  mF (mn_PI _ _) <|
  mF (mn_CS _ mc_X11_isIn _) <|
  mF (mn_If _ _ _) <|
  mF (mn_PL _ _) <|
  mF (mn_RL) <|
  mF (mn_LA _ _) <|
  mF (mn_LI _ _) <|
  mF (mn_CV _ _ mc_X11_lay _) <|
  mF (mn_LI _ _) <|
  mF (mn_Ts _ _) <|
  mF (mn_LA _ _) <|
  mF (mn_LI _ _) <|
  mF (mn_LI _ _) <|
  mF (mn_CV _ _ mc_X11_far _) <|
  mF (mn_RL) <|
  mF (mn_LA _ _) <|
  mF (mn_LI _ _) <|
  mF (mn_LI _ _) <|
  mF (mn_CV _ _ mc_X11_excess _) <|
  mF (mn_RL) <|
  mF (mn_LA _ _) <|
  mF (mn_LI _ _) <|
  mF (mn_LI _ _) <|
  mF (mn_CV _ _ mc_X11_isTaut _) <|
  mF (mn_If _ _ _) <|
  mF (mn_PL _ _) <|
  mF (mn_Go _) <|
  mF (mn_PL _ _) <|
  mF (mn_RL) <|
  mF (mn_LA _ _) <|
  mF (mn_LI _ _) <|
  mF (mn_LI _ _) <|
  mF (mn_LI _ _) <|
  mF (mn_CV _ _ mc_X11_of _) <|
  mF (mn_I2L _) <|
  mF (mn_RL) <|
  mF0
def C_X11_holds : mCo := mRun tb_X11_holds 4
theorem mc_X11_holds : mMC C_X11_holds := mRun_mn mt_X11_holds 4
theorem yi_X11_holds : mYin yX11_holds cX11_holds 4 (some .long) 3 := ⟨wd_60, wd_1139, by decide +kernel, by decide⟩
set_option maxRecDepth 100000 in
set_option maxHeartbeats 4000000 in
theorem sd_X11_holds (l : Launch) (B : mBs) (p : Program) (e : Env) (s : State) (m : MethodId) (args : Array Value) (below : List Frame) (meth : Method) (c : Code) (Q : mQo) (X : mCx l B RX11 cX11_holds 4 p s m args c) (hr : meth.sig.returnType = (some .long)) (hk : meth.locks = false) (hn : meth.name = "holds") : ∀ q ∈ tb_X11_holds, mSnd l B 4 p e (mRm 4 0 0) s m args below meth c (MQ below (mPo B Q) args s 0 0 (mA B)) (fun r h' => (h'.1.2.1 ≤ 0 ∧ h'.1.2.2 ≤ 0) ∧ Q r h') q.2 q.1 :=
  mF (sn_aload_n (pc := 0) (j := 0) X (by decide +kernel) rfl) <|
  mF (sn_iload_n (pc := 1) (j := 1) X (by decide +kernel) rfl) <|
  mF (sn_iload_n (pc := 2) (j := 2) X (by decide +kernel) rfl) <|
  mF (sn_callV (pc := 3) X mc_X11_isHold (me_X11_isHold l B) yi_X11_isHold wd_1128 wd_1130 wd_29 (T := TX11) (N := 22) rfl (by decide) (by decide +kernel)) <|
  mF (sn_if_eq (pc := 6) (off := 13) X (by decide +kernel) (by decide)) <|
  mF (sn_iload_n (pc := 9) (j := 3) X (by decide +kernel) rfl) <|
  mF (sn_iconst (pc := 10) (n := 0) X (by decide +kernel) (by decide)) <|
  mF (sn_bipush (pc := 11) (n := 8) X (by decide +kernel) (by decide)) <|
  mF (sn_callS (pc := 13) X mc_X11_isIn (me_X11_isIn l B) yi_X11_isIn wd_992 wd_993 (by decide) (by decide +kernel)) <|
  mF (sn_if_ne (pc := 16) (off := 7) X (by decide +kernel) (by decide)) <|
  mF (sn_ldc2 (pc := 19) X (by decide +kernel) wd_999) <|
  mF (sn_lret (pc := 22) X hr hk (by decide +kernel)) <|
  mF (sn_aload_n (pc := 23) (j := 0) X (by decide +kernel) rfl) <|
  mF (sn_iload_n (pc := 24) (j := 1) X (by decide +kernel) rfl) <|
  mF (sn_callV (pc := 25) X mc_X11_lay (me_X11_lay l B) yi_X11_lay wd_1083 wd_1085 wd_22 (T := TX11) (N := 22) rfl (by decide) (by decide +kernel)) <|
  mF (sn_iload_n (pc := 28) (j := 3) X (by decide +kernel) rfl) <|
  mF (sn_ts (pc := 29) (dflt := 56) (lo := 6) (hi := 8) (offs := #[27, 34, 41]) (len := 27) X (by decide +kernel) ⟨by decide, by decide, by decide⟩) <|
  mF (sn_aload_n (pc := 56) (j := 0) X (by decide +kernel) rfl) <|
  mF (sn_iload_n (pc := 57) (j := 1) X (by decide +kernel) rfl) <|
  mF (sn_iload_n (pc := 58) (j := 2) X (by decide +kernel) rfl) <|
  mF (sn_callV (pc := 59) X mc_X11_far (me_X11_far l B) yi_X11_far wd_1140 wd_1142 wd_30 (T := TX11) (N := 22) rfl (by decide) (by decide +kernel)) <|
  mF (sn_lret (pc := 62) X hr hk (by decide +kernel)) <|
  mF (sn_aload_n (pc := 63) (j := 0) X (by decide +kernel) rfl) <|
  mF (sn_iload_n (pc := 64) (j := 1) X (by decide +kernel) rfl) <|
  mF (sn_iload_n (pc := 65) (j := 2) X (by decide +kernel) rfl) <|
  mF (sn_callV (pc := 66) X mc_X11_excess (me_X11_excess l B) yi_X11_excess wd_1152 wd_1154 wd_31 (T := TX11) (N := 22) rfl (by decide) (by decide +kernel)) <|
  mF (sn_lret (pc := 69) X hr hk (by decide +kernel)) <|
  mF (sn_aload_n (pc := 70) (j := 0) X (by decide +kernel) rfl) <|
  mF (sn_iload_n (pc := 71) (j := 1) X (by decide +kernel) rfl) <|
  mF (sn_iload_n (pc := 72) (j := 2) X (by decide +kernel) rfl) <|
  mF (sn_callV (pc := 73) X mc_X11_isTaut (me_X11_isTaut l B) yi_X11_isTaut wd_1160 wd_1162 wd_33 (T := TX11) (N := 22) rfl (by decide) (by decide +kernel)) <|
  mF (sn_if_eq (pc := 76) (off := 7) X (by decide +kernel) (by decide)) <|
  mF (sn_lconst (pc := 79) (n := 1) X (by decide +kernel) (by decide)) <|
  mF (sn_goto (pc := 80) (off := 4) X (by decide +kernel) (by decide)) <|
  mF (sn_lconst (pc := 83) (n := 0) X (by decide +kernel) (by decide)) <|
  mF (sn_lret (pc := 84) X hr hk (by decide +kernel)) <|
  mF (sn_aload_n (pc := 85) (j := 0) X (by decide +kernel) rfl) <|
  mF (sn_iload_n (pc := 86) (j := 1) X (by decide +kernel) rfl) <|
  mF (sn_iload_n (pc := 87) (j := 2) X (by decide +kernel) rfl) <|
  mF (sn_iload_n (pc := 88) (j := 3) X (by decide +kernel) rfl) <|
  mF (sn_callV (pc := 89) X mc_X11_of (me_X11_of l B) yi_X11_of wd_1021 wd_1023 wd_17 (T := TX11) (N := 22) rfl (by decide) (by decide +kernel)) <|
  mF (sn_i2l (pc := 92) X (by decide +kernel)) <|
  mF (sn_lret (pc := 93) X hr hk (by decide +kernel)) <|
  mF0
theorem me_X11_holds (l : Launch) (B : mBs) : mMet l B yX11_holds cX11_holds 4 (some .long) 4 0 0 C_X11_holds := mMet_of (own := RX11) (by decide) rfl (fun p e s m args below meth c Q X hr hk hn => sd_X11_holds l B p e s m args below meth c Q X hr hk hn)
/-! PuppetStageModel.isOf(III)J: 30 instructions, depth 3, makes 0 cells of 0 slots -/
def tb_X11_isOf : mTb := [(0, aLA 0 1), (1, aLI 1 2), (2, aLI 2 3), (3, aCV 11 2 C_X11_isHold 6), (6, aIf (fun x => x = 0) 18 9), (9, aLI 3 10), (10, aPI 0 11), (11, aPI 4 12), (12, aCS 3 C_X11_isIn 15), (15, aIf (fun x => x = 0) 18 22), (18, aPL (-9000000000000000001) 21), (21, aRL), (22, aLA 0 23), (23, aLI 1 24), (24, aLI 2 25), (25, aPI 0 26), (26, aCV 11 3 C_X11_of 29), (29, aSI 4 31), (31, aLI 4 33), (33, aLI 3 34), (34, aIc (fun x y => x = y) 47 37), (37, aLI 3 38), (38, aIf (fun x => x = 0) 41 51), (41, aLI 4 43), (43, aPI 4 44), (44, aIc (fun x y => y ≤ x) 51 47), (47, aPL 1 48), (48, aGo 52), (51, aPL 0 52), (52, aRL)]
theorem mt_X11_isOf : mMT tb_X11_isOf :=
  mF (mn_LA _ _) <|
  mF (mn_LI _ _) <|
  mF (mn_LI _ _) <|
  mF (mn_CV _ _ mc_X11_isHold _) <|
  mF (mn_If _ _ _) <|
  mF (mn_LI _ _) <|
  mF (mn_PI _ _) <|
  mF (mn_PI _ _) <|
  mF (mn_CS _ mc_X11_isIn _) <|
  mF (mn_If _ _ _) <|
  mF (mn_PL _ _) <|
  mF (mn_RL) <|
  mF (mn_LA _ _) <|
  mF (mn_LI _ _) <|
  mF (mn_LI _ _) <|
  mF (mn_PI _ _) <|
  mF (mn_CV _ _ mc_X11_of _) <|
  mF (mn_SI _ _) <|
  mF (mn_LI _ _) <|
  mF (mn_LI _ _) <|
  mF (mn_Ic _ _ _) <|
  mF (mn_LI _ _) <|
  mF (mn_If _ _ _) <|
  mF (mn_LI _ _) <|
  mF (mn_PI _ _) <|
  mF (mn_Ic _ _ _) <|
  mF (mn_PL _ _) <|
  mF (mn_Go _) <|
  mF (mn_PL _ _) <|
  mF (mn_RL) <|
  mF0
def C_X11_isOf : mCo := mRun tb_X11_isOf 5
theorem mc_X11_isOf : mMC C_X11_isOf := mRun_mn mt_X11_isOf 5
theorem yi_X11_isOf : mYin yX11_isOf cX11_isOf 5 (some .long) 3 := ⟨wd_60, wd_1168, by decide +kernel, by decide⟩
set_option maxRecDepth 100000 in
set_option maxHeartbeats 4000000 in
theorem sd_X11_isOf (l : Launch) (B : mBs) (p : Program) (e : Env) (s : State) (m : MethodId) (args : Array Value) (below : List Frame) (meth : Method) (c : Code) (Q : mQo) (X : mCx l B RX11 cX11_isOf 5 p s m args c) (hr : meth.sig.returnType = (some .long)) (hk : meth.locks = false) (hn : meth.name = "isOf") : ∀ q ∈ tb_X11_isOf, mSnd l B 5 p e (mRm 3 0 0) s m args below meth c (MQ below (mPo B Q) args s 0 0 (mA B)) (fun r h' => (h'.1.2.1 ≤ 0 ∧ h'.1.2.2 ≤ 0) ∧ Q r h') q.2 q.1 :=
  mF (sn_aload_n (pc := 0) (j := 0) X (by decide +kernel) rfl) <|
  mF (sn_iload_n (pc := 1) (j := 1) X (by decide +kernel) rfl) <|
  mF (sn_iload_n (pc := 2) (j := 2) X (by decide +kernel) rfl) <|
  mF (sn_callV (pc := 3) X mc_X11_isHold (me_X11_isHold l B) yi_X11_isHold wd_1128 wd_1130 wd_29 (T := TX11) (N := 22) rfl (by decide) (by decide +kernel)) <|
  mF (sn_if_eq (pc := 6) (off := 12) X (by decide +kernel) (by decide)) <|
  mF (sn_iload_n (pc := 9) (j := 3) X (by decide +kernel) rfl) <|
  mF (sn_iconst (pc := 10) (n := 0) X (by decide +kernel) (by decide)) <|
  mF (sn_iconst (pc := 11) (n := 4) X (by decide +kernel) (by decide)) <|
  mF (sn_callS (pc := 12) X mc_X11_isIn (me_X11_isIn l B) yi_X11_isIn wd_992 wd_993 (by decide) (by decide +kernel)) <|
  mF (sn_if_ne (pc := 15) (off := 7) X (by decide +kernel) (by decide)) <|
  mF (sn_ldc2 (pc := 18) X (by decide +kernel) wd_999) <|
  mF (sn_lret (pc := 21) X hr hk (by decide +kernel)) <|
  mF (sn_aload_n (pc := 22) (j := 0) X (by decide +kernel) rfl) <|
  mF (sn_iload_n (pc := 23) (j := 1) X (by decide +kernel) rfl) <|
  mF (sn_iload_n (pc := 24) (j := 2) X (by decide +kernel) rfl) <|
  mF (sn_iconst (pc := 25) (n := 0) X (by decide +kernel) (by decide)) <|
  mF (sn_callV (pc := 26) X mc_X11_of (me_X11_of l B) yi_X11_of wd_1021 wd_1023 wd_17 (T := TX11) (N := 22) rfl (by decide) (by decide +kernel)) <|
  mF (sn_istore (pc := 29) X (by decide +kernel) (by decide)) <|
  mF (sn_iload (pc := 31) X (by decide +kernel)) <|
  mF (sn_iload_n (pc := 33) (j := 3) X (by decide +kernel) rfl) <|
  mF (sn_icmp_eq (pc := 34) (off := 13) X (by decide +kernel) (by decide)) <|
  mF (sn_iload_n (pc := 37) (j := 3) X (by decide +kernel) rfl) <|
  mF (sn_if_ne (pc := 38) (off := 13) X (by decide +kernel) (by decide)) <|
  mF (sn_iload (pc := 41) X (by decide +kernel)) <|
  mF (sn_iconst (pc := 43) (n := 4) X (by decide +kernel) (by decide)) <|
  mF (sn_icmp_ge (pc := 44) (off := 7) X (by decide +kernel) (by decide)) <|
  mF (sn_lconst (pc := 47) (n := 1) X (by decide +kernel) (by decide)) <|
  mF (sn_goto (pc := 48) (off := 4) X (by decide +kernel) (by decide)) <|
  mF (sn_lconst (pc := 51) (n := 0) X (by decide +kernel) (by decide)) <|
  mF (sn_lret (pc := 52) X hr hk (by decide +kernel)) <|
  mF0
theorem me_X11_isOf (l : Launch) (B : mBs) : mMet l B yX11_isOf cX11_isOf 5 (some .long) 3 0 0 C_X11_isOf := mMet_of (own := RX11) (by decide) rfl (fun p e s m args below meth c Q X hr hk hn => sd_X11_isOf l B p e s m args below meth c Q X hr hk hn)
/-! PuppetStageModel.lies(II)J: 68 instructions, depth 5, makes 0 cells of 0 slots -/
def tb_X11_lies : mTb := [(0, aLI 1 1), (1, aCS 1 C_X11_isPuppet 4), (4, aIf (fun x => x = 0) 16 7), (7, aLI 2 8), (8, aPI 0 9), (9, aPI 3 10), (10, aCS 3 C_X11_isIn 13), (13, aIf (fun x => x = 0) 16 20), (16, aPL (-9000000000000000001) 19), (19, aRL), (20, aLA 0 21), (21, aLI 1 22), (22, aCV 11 1 C_X11_lay 25), (25, aLI 2 26), (26, aIf (fun x => x = 0) 29 35), (29, aLA 0 30), (30, aLI 1 31), (31, aCV 11 1 C_X11_allExcess 34), (34, aRL), (35, aLI 2 36), (36, aPI 1 37), (37, aIc (fun x y => x = y) 40 46), (40, aLA 0 41), (41, aLI 1 42), (42, aCV 11 1 C_X11_depth 45), (45, aRL), (46, aPI 0 47), (47, aSI 3 48), (48, aPI 0 49), (49, aSI 4 51), (51, aLI 4 53), (53, aLA 0 54), (54, aLI 1 55), (55, aPI 55 57), (57, aCV 11 2 C_X11_get 60), (60, aIc (fun x y => y ≤ x) 116 63), (63, aLI 2 64), (64, aPI 2 65), (65, aIc (fun x y => x = y) 68 88), (68, aLA 0 69), (69, aLI 1 70), (70, aLI 4 72), (72, aCV 11 2 C_X11_excess 75), (75, aPL 0 76), (76, aCmp 77), (77, aIf (fun x => x ≤ 0) 84 80), (80, aPI 1 81), (81, aGo 95), (84, aPI 0 85), (85, aGo 95), (88, aLA 0 89), (89, aLI 1 90), (90, aLI 4 92), (92, aCV 11 2 C_X11_isTaut 95), (95, aSI 5 97), (97, aLI 3 98), (98, aLI 5 100), (100, aIf (fun x => x = 0) 107 103), (103, aPI 1 104), (104, aGo 108), (107, aPI 0 108), (108, aB (fun x y => x + y) 109), (109, aSI 3 110), (110, aInc 4 1 113), (113, aGo 51), (116, aLI 3 117), (117, aI2L 118), (118, aRL)]
theorem mt_X11_lies : mMT tb_X11_lies :=
  mF (mn_LI _ _) <|
  mF (mn_CS _ mc_X11_isPuppet _) <|
  mF (mn_If _ _ _) <|
  mF (mn_LI _ _) <|
  mF (mn_PI _ _) <|
  mF (mn_PI _ _) <|
  mF (mn_CS _ mc_X11_isIn _) <|
  mF (mn_If _ _ _) <|
  mF (mn_PL _ _) <|
  mF (mn_RL) <|
  mF (mn_LA _ _) <|
  mF (mn_LI _ _) <|
  mF (mn_CV _ _ mc_X11_lay _) <|
  mF (mn_LI _ _) <|
  mF (mn_If _ _ _) <|
  mF (mn_LA _ _) <|
  mF (mn_LI _ _) <|
  mF (mn_CV _ _ mc_X11_allExcess _) <|
  mF (mn_RL) <|
  mF (mn_LI _ _) <|
  mF (mn_PI _ _) <|
  mF (mn_Ic _ _ _) <|
  mF (mn_LA _ _) <|
  mF (mn_LI _ _) <|
  mF (mn_CV _ _ mc_X11_depth _) <|
  mF (mn_RL) <|
  mF (mn_PI _ _) <|
  mF (mn_SI _ _) <|
  mF (mn_PI _ _) <|
  mF (mn_SI _ _) <|
  mF (mn_LI _ _) <|
  mF (mn_LA _ _) <|
  mF (mn_LI _ _) <|
  mF (mn_PI _ _) <|
  mF (mn_CV _ _ mc_X11_get _) <|
  mF (mn_Ic _ _ _) <|
  mF (mn_LI _ _) <|
  mF (mn_PI _ _) <|
  mF (mn_Ic _ _ _) <|
  mF (mn_LA _ _) <|
  mF (mn_LI _ _) <|
  mF (mn_LI _ _) <|
  mF (mn_CV _ _ mc_X11_excess _) <|
  mF (mn_PL _ _) <|
  mF (mn_Cmp _) <|
  mF (mn_If _ _ _) <|
  mF (mn_PI _ _) <|
  mF (mn_Go _) <|
  mF (mn_PI _ _) <|
  mF (mn_Go _) <|
  mF (mn_LA _ _) <|
  mF (mn_LI _ _) <|
  mF (mn_LI _ _) <|
  mF (mn_CV _ _ mc_X11_isTaut _) <|
  mF (mn_SI _ _) <|
  mF (mn_LI _ _) <|
  mF (mn_LI _ _) <|
  mF (mn_If _ _ _) <|
  mF (mn_PI _ _) <|
  mF (mn_Go _) <|
  mF (mn_PI _ _) <|
  mF (mn_B _ _) <|
  mF (mn_SI _ _) <|
  mF (mn_Inc _ _ _) <|
  mF (mn_Go _) <|
  mF (mn_LI _ _) <|
  mF (mn_I2L _) <|
  mF (mn_RL) <|
  mF0
def C_X11_lies : mCo := mRun tb_X11_lies 6
theorem mc_X11_lies : mMC C_X11_lies := mRun_mn mt_X11_lies 6
theorem yi_X11_lies : mYin yX11_lies cX11_lies 6 (some .long) 2 := ⟨wd_60, wd_1172, by decide +kernel, by decide⟩
set_option maxRecDepth 100000 in
set_option maxHeartbeats 4000000 in
theorem sd_X11_lies (l : Launch) (B : mBs) (p : Program) (e : Env) (s : State) (m : MethodId) (args : Array Value) (below : List Frame) (meth : Method) (c : Code) (Q : mQo) (X : mCx l B RX11 cX11_lies 6 p s m args c) (hr : meth.sig.returnType = (some .long)) (hk : meth.locks = false) (hn : meth.name = "lies") : ∀ q ∈ tb_X11_lies, mSnd l B 6 p e (mRm 5 0 0) s m args below meth c (MQ below (mPo B Q) args s 0 0 (mA B)) (fun r h' => (h'.1.2.1 ≤ 0 ∧ h'.1.2.2 ≤ 0) ∧ Q r h') q.2 q.1 :=
  mF (sn_iload_n (pc := 0) (j := 1) X (by decide +kernel) rfl) <|
  mF (sn_callS (pc := 1) X mc_X11_isPuppet (me_X11_isPuppet l B) yi_X11_isPuppet wd_989 wd_990 (by decide) (by decide +kernel)) <|
  mF (sn_if_eq (pc := 4) (off := 12) X (by decide +kernel) (by decide)) <|
  mF (sn_iload_n (pc := 7) (j := 2) X (by decide +kernel) rfl) <|
  mF (sn_iconst (pc := 8) (n := 0) X (by decide +kernel) (by decide)) <|
  mF (sn_iconst (pc := 9) (n := 3) X (by decide +kernel) (by decide)) <|
  mF (sn_callS (pc := 10) X mc_X11_isIn (me_X11_isIn l B) yi_X11_isIn wd_992 wd_993 (by decide) (by decide +kernel)) <|
  mF (sn_if_ne (pc := 13) (off := 7) X (by decide +kernel) (by decide)) <|
  mF (sn_ldc2 (pc := 16) X (by decide +kernel) wd_999) <|
  mF (sn_lret (pc := 19) X hr hk (by decide +kernel)) <|
  mF (sn_aload_n (pc := 20) (j := 0) X (by decide +kernel) rfl) <|
  mF (sn_iload_n (pc := 21) (j := 1) X (by decide +kernel) rfl) <|
  mF (sn_callV (pc := 22) X mc_X11_lay (me_X11_lay l B) yi_X11_lay wd_1083 wd_1085 wd_22 (T := TX11) (N := 22) rfl (by decide) (by decide +kernel)) <|
  mF (sn_iload_n (pc := 25) (j := 2) X (by decide +kernel) rfl) <|
  mF (sn_if_ne (pc := 26) (off := 9) X (by decide +kernel) (by decide)) <|
  mF (sn_aload_n (pc := 29) (j := 0) X (by decide +kernel) rfl) <|
  mF (sn_iload_n (pc := 30) (j := 1) X (by decide +kernel) rfl) <|
  mF (sn_callV (pc := 31) X mc_X11_allExcess (me_X11_allExcess l B) yi_X11_allExcess wd_1173 wd_1175 wd_34 (T := TX11) (N := 22) rfl (by decide) (by decide +kernel)) <|
  mF (sn_lret (pc := 34) X hr hk (by decide +kernel)) <|
  mF (sn_iload_n (pc := 35) (j := 2) X (by decide +kernel) rfl) <|
  mF (sn_iconst (pc := 36) (n := 1) X (by decide +kernel) (by decide)) <|
  mF (sn_icmp_ne (pc := 37) (off := 9) X (by decide +kernel) (by decide)) <|
  mF (sn_aload_n (pc := 40) (j := 0) X (by decide +kernel) rfl) <|
  mF (sn_iload_n (pc := 41) (j := 1) X (by decide +kernel) rfl) <|
  mF (sn_callV (pc := 42) X mc_X11_depth (me_X11_depth l B) yi_X11_depth wd_1177 wd_1179 wd_35 (T := TX11) (N := 22) rfl (by decide) (by decide +kernel)) <|
  mF (sn_lret (pc := 45) X hr hk (by decide +kernel)) <|
  mF (sn_iconst (pc := 46) (n := 0) X (by decide +kernel) (by decide)) <|
  mF (sn_istore_n (pc := 47) (j := 3) X (by decide +kernel) rfl (by decide)) <|
  mF (sn_iconst (pc := 48) (n := 0) X (by decide +kernel) (by decide)) <|
  mF (sn_istore (pc := 49) X (by decide +kernel) (by decide)) <|
  mF (sn_iload (pc := 51) X (by decide +kernel)) <|
  mF (sn_aload_n (pc := 53) (j := 0) X (by decide +kernel) rfl) <|
  mF (sn_iload_n (pc := 54) (j := 1) X (by decide +kernel) rfl) <|
  mF (sn_bipush (pc := 55) (n := 55) X (by decide +kernel) (by decide)) <|
  mF (sn_callV (pc := 57) X mc_X11_get (me_X11_get l B) yi_X11_get wd_995 wd_997 wd_12 (T := TX11) (N := 22) rfl (by decide) (by decide +kernel)) <|
  mF (sn_icmp_ge (pc := 60) (off := 56) X (by decide +kernel) (by decide)) <|
  mF (sn_iload_n (pc := 63) (j := 2) X (by decide +kernel) rfl) <|
  mF (sn_iconst (pc := 64) (n := 2) X (by decide +kernel) (by decide)) <|
  mF (sn_icmp_ne (pc := 65) (off := 23) X (by decide +kernel) (by decide)) <|
  mF (sn_aload_n (pc := 68) (j := 0) X (by decide +kernel) rfl) <|
  mF (sn_iload_n (pc := 69) (j := 1) X (by decide +kernel) rfl) <|
  mF (sn_iload (pc := 70) X (by decide +kernel)) <|
  mF (sn_callV (pc := 72) X mc_X11_excess (me_X11_excess l B) yi_X11_excess wd_1152 wd_1154 wd_31 (T := TX11) (N := 22) rfl (by decide) (by decide +kernel)) <|
  mF (sn_lconst (pc := 75) (n := 0) X (by decide +kernel) (by decide)) <|
  mF (sn_lcmp (pc := 76) X (by decide +kernel)) <|
  mF (sn_if_le (pc := 77) (off := 7) X (by decide +kernel) (by decide)) <|
  mF (sn_iconst (pc := 80) (n := 1) X (by decide +kernel) (by decide)) <|
  mF (sn_goto (pc := 81) (off := 14) X (by decide +kernel) (by decide)) <|
  mF (sn_iconst (pc := 84) (n := 0) X (by decide +kernel) (by decide)) <|
  mF (sn_goto (pc := 85) (off := 10) X (by decide +kernel) (by decide)) <|
  mF (sn_aload_n (pc := 88) (j := 0) X (by decide +kernel) rfl) <|
  mF (sn_iload_n (pc := 89) (j := 1) X (by decide +kernel) rfl) <|
  mF (sn_iload (pc := 90) X (by decide +kernel)) <|
  mF (sn_callV (pc := 92) X mc_X11_isTaut (me_X11_isTaut l B) yi_X11_isTaut wd_1160 wd_1162 wd_33 (T := TX11) (N := 22) rfl (by decide) (by decide +kernel)) <|
  mF (sn_istore (pc := 95) X (by decide +kernel) (by decide)) <|
  mF (sn_iload_n (pc := 97) (j := 3) X (by decide +kernel) rfl) <|
  mF (sn_iload (pc := 98) X (by decide +kernel)) <|
  mF (sn_if_eq (pc := 100) (off := 7) X (by decide +kernel) (by decide)) <|
  mF (sn_iconst (pc := 103) (n := 1) X (by decide +kernel) (by decide)) <|
  mF (sn_goto (pc := 104) (off := 4) X (by decide +kernel) (by decide)) <|
  mF (sn_iconst (pc := 107) (n := 0) X (by decide +kernel) (by decide)) <|
  mF (sn_iadd (pc := 108) X (by decide +kernel)) <|
  mF (sn_istore_n (pc := 109) (j := 3) X (by decide +kernel) rfl (by decide)) <|
  mF (sn_iinc (pc := 110) (n := 1) X (by decide +kernel) (by decide) (by decide)) <|
  mF (sn_goto (pc := 113) (off := (-62)) X (by decide +kernel) (by decide)) <|
  mF (sn_iload_n (pc := 116) (j := 3) X (by decide +kernel) rfl) <|
  mF (sn_i2l (pc := 117) X (by decide +kernel)) <|
  mF (sn_lret (pc := 118) X hr hk (by decide +kernel)) <|
  mF0
theorem me_X11_lies (l : Launch) (B : mBs) : mMet l B yX11_lies cX11_lies 6 (some .long) 5 0 0 C_X11_lies := mMet_of (own := RX11) (by decide) rfl (fun p e s m args below meth c Q X hr hk hn => sd_X11_lies l B p e s m args below meth c Q X hr hk hn)
/-! PuppetStageModel.why(I)J: 39 instructions, depth 4, makes 0 cells of 0 slots -/
def tb_X11_why : mTb := [(0, aLI 1 1), (1, aCS 1 C_X11_isPuppet 4), (4, aIf (fun x => x = 0) 7 11), (7, aPL (-9000000000000000001) 10), (10, aRL), (11, aLA 0 12), (12, aLI 1 13), (13, aCV 11 1 C_X11_lay 16), (16, aPL 0 17), (17, aSL 2 18), (18, aPL (-9000000000000000005) 21), (21, aSL 4 23), (23, aPI 0 24), (24, aSI 6 26), (26, aLI 6 28), (28, aLA 0 29), (29, aLI 1 30), (30, aPI 55 32), (32, aCV 11 2 C_X11_get 35), (35, aIc (fun x y => y ≤ x) 69 38), (38, aLA 0 39), (39, aLI 1 40), (40, aLI 6 42), (42, aCV 11 2 C_X11_excess 45), (45, aLL 2 46), (46, aCmp 47), (47, aIf (fun x => x ≤ 0) 63 50), (50, aLA 0 51), (51, aLI 1 52), (52, aLI 6 54), (54, aCV 11 2 C_X11_excess 57), (57, aSL 2 58), (58, aLI 6 60), (60, aI2L 61), (61, aSL 4 63), (63, aInc 6 1 66), (66, aGo 26), (69, aLL 4 71), (71, aRL)]
theorem mt_X11_why : mMT tb_X11_why :=
  mF (mn_LI _ _) <|
  mF (mn_CS _ mc_X11_isPuppet _) <|
  mF (mn_If _ _ _) <|
  mF (mn_PL _ _) <|
  mF (mn_RL) <|
  mF (mn_LA _ _) <|
  mF (mn_LI _ _) <|
  mF (mn_CV _ _ mc_X11_lay _) <|
  mF (mn_PL _ _) <|
  mF (mn_SL _ _) <|
  mF (mn_PL _ _) <|
  mF (mn_SL _ _) <|
  mF (mn_PI _ _) <|
  mF (mn_SI _ _) <|
  mF (mn_LI _ _) <|
  mF (mn_LA _ _) <|
  mF (mn_LI _ _) <|
  mF (mn_PI _ _) <|
  mF (mn_CV _ _ mc_X11_get _) <|
  mF (mn_Ic _ _ _) <|
  mF (mn_LA _ _) <|
  mF (mn_LI _ _) <|
  mF (mn_LI _ _) <|
  mF (mn_CV _ _ mc_X11_excess _) <|
  mF (mn_LL _ _) <|
  mF (mn_Cmp _) <|
  mF (mn_If _ _ _) <|
  mF (mn_LA _ _) <|
  mF (mn_LI _ _) <|
  mF (mn_LI _ _) <|
  mF (mn_CV _ _ mc_X11_excess _) <|
  mF (mn_SL _ _) <|
  mF (mn_LI _ _) <|
  mF (mn_I2L _) <|
  mF (mn_SL _ _) <|
  mF (mn_Inc _ _ _) <|
  mF (mn_Go _) <|
  mF (mn_LL _ _) <|
  mF (mn_RL) <|
  mF0
def C_X11_why : mCo := mRun tb_X11_why 7
theorem mc_X11_why : mMC C_X11_why := mRun_mn mt_X11_why 7
theorem yi_X11_why : mYin yX11_why cX11_why 7 (some .long) 1 := ⟨wd_60, wd_1184, by decide +kernel, by decide⟩
set_option maxRecDepth 100000 in
set_option maxHeartbeats 4000000 in
theorem sd_X11_why (l : Launch) (B : mBs) (p : Program) (e : Env) (s : State) (m : MethodId) (args : Array Value) (below : List Frame) (meth : Method) (c : Code) (Q : mQo) (X : mCx l B RX11 cX11_why 7 p s m args c) (hr : meth.sig.returnType = (some .long)) (hk : meth.locks = false) (hn : meth.name = "why") : ∀ q ∈ tb_X11_why, mSnd l B 7 p e (mRm 4 0 0) s m args below meth c (MQ below (mPo B Q) args s 0 0 (mA B)) (fun r h' => (h'.1.2.1 ≤ 0 ∧ h'.1.2.2 ≤ 0) ∧ Q r h') q.2 q.1 :=
  mF (sn_iload_n (pc := 0) (j := 1) X (by decide +kernel) rfl) <|
  mF (sn_callS (pc := 1) X mc_X11_isPuppet (me_X11_isPuppet l B) yi_X11_isPuppet wd_989 wd_990 (by decide) (by decide +kernel)) <|
  mF (sn_if_ne (pc := 4) (off := 7) X (by decide +kernel) (by decide)) <|
  mF (sn_ldc2 (pc := 7) X (by decide +kernel) wd_999) <|
  mF (sn_lret (pc := 10) X hr hk (by decide +kernel)) <|
  mF (sn_aload_n (pc := 11) (j := 0) X (by decide +kernel) rfl) <|
  mF (sn_iload_n (pc := 12) (j := 1) X (by decide +kernel) rfl) <|
  mF (sn_callV (pc := 13) X mc_X11_lay (me_X11_lay l B) yi_X11_lay wd_1083 wd_1085 wd_22 (T := TX11) (N := 22) rfl (by decide) (by decide +kernel)) <|
  mF (sn_lconst (pc := 16) (n := 0) X (by decide +kernel) (by decide)) <|
  mF (sn_lstore_n (pc := 17) (j := 2) X (by decide +kernel) rfl (by decide)) <|
  mF (sn_ldc2 (pc := 18) X (by decide +kernel) wd_1078) <|
  mF (sn_lstore (pc := 21) X (by decide +kernel) (by decide)) <|
  mF (sn_iconst (pc := 23) (n := 0) X (by decide +kernel) (by decide)) <|
  mF (sn_istore (pc := 24) X (by decide +kernel) (by decide)) <|
  mF (sn_iload (pc := 26) X (by decide +kernel)) <|
  mF (sn_aload_n (pc := 28) (j := 0) X (by decide +kernel) rfl) <|
  mF (sn_iload_n (pc := 29) (j := 1) X (by decide +kernel) rfl) <|
  mF (sn_bipush (pc := 30) (n := 55) X (by decide +kernel) (by decide)) <|
  mF (sn_callV (pc := 32) X mc_X11_get (me_X11_get l B) yi_X11_get wd_995 wd_997 wd_12 (T := TX11) (N := 22) rfl (by decide) (by decide +kernel)) <|
  mF (sn_icmp_ge (pc := 35) (off := 34) X (by decide +kernel) (by decide)) <|
  mF (sn_aload_n (pc := 38) (j := 0) X (by decide +kernel) rfl) <|
  mF (sn_iload_n (pc := 39) (j := 1) X (by decide +kernel) rfl) <|
  mF (sn_iload (pc := 40) X (by decide +kernel)) <|
  mF (sn_callV (pc := 42) X mc_X11_excess (me_X11_excess l B) yi_X11_excess wd_1152 wd_1154 wd_31 (T := TX11) (N := 22) rfl (by decide) (by decide +kernel)) <|
  mF (sn_lload_n (pc := 45) (j := 2) X (by decide +kernel) rfl) <|
  mF (sn_lcmp (pc := 46) X (by decide +kernel)) <|
  mF (sn_if_le (pc := 47) (off := 16) X (by decide +kernel) (by decide)) <|
  mF (sn_aload_n (pc := 50) (j := 0) X (by decide +kernel) rfl) <|
  mF (sn_iload_n (pc := 51) (j := 1) X (by decide +kernel) rfl) <|
  mF (sn_iload (pc := 52) X (by decide +kernel)) <|
  mF (sn_callV (pc := 54) X mc_X11_excess (me_X11_excess l B) yi_X11_excess wd_1152 wd_1154 wd_31 (T := TX11) (N := 22) rfl (by decide) (by decide +kernel)) <|
  mF (sn_lstore_n (pc := 57) (j := 2) X (by decide +kernel) rfl (by decide)) <|
  mF (sn_iload (pc := 58) X (by decide +kernel)) <|
  mF (sn_i2l (pc := 60) X (by decide +kernel)) <|
  mF (sn_lstore (pc := 61) X (by decide +kernel) (by decide)) <|
  mF (sn_iinc (pc := 63) (n := 1) X (by decide +kernel) (by decide) (by decide)) <|
  mF (sn_goto (pc := 66) (off := (-40)) X (by decide +kernel) (by decide)) <|
  mF (sn_lload (pc := 69) X (by decide +kernel)) <|
  mF (sn_lret (pc := 71) X hr hk (by decide +kernel)) <|
  mF0
theorem me_X11_why (l : Launch) (B : mBs) : mMet l B yX11_why cX11_why 7 (some .long) 4 0 0 C_X11_why := mMet_of (own := RX11) (by decide) rfl (fun p e s m args below meth c Q X hr hk hn => sd_X11_why l B p e s m args below meth c Q X hr hk hn)
/-! PuppetStageModel.note(I)V: 14 instructions, depth 5, makes 0 cells of 0 slots -/
def tb_X11_note : mTb := [(0, aLA 0 1), (1, aLI 1 2), (2, aCV 11 1 C_X11_lay 5), (5, aLA 0 6), (6, aLA 0 7), (7, aLI 1 8), (8, aCV 11 1 C_X11_allExcess 11), (11, aWL 11 10 14), (14, aLA 0 15), (15, aLA 0 16), (16, aLI 1 17), (17, aCV 11 1 C_X11_depth 20), (20, aWL 11 11 23), (23, aRV)]
theorem mt_X11_note : mMT tb_X11_note :=
  mF (mn_LA _ _) <|
  mF (mn_LI _ _) <|
  mF (mn_CV _ _ mc_X11_lay _) <|
  mF (mn_LA _ _) <|
  mF (mn_LA _ _) <|
  mF (mn_LI _ _) <|
  mF (mn_CV _ _ mc_X11_allExcess _) <|
  mF (mn_WL _ _ _) <|
  mF (mn_LA _ _) <|
  mF (mn_LA _ _) <|
  mF (mn_LI _ _) <|
  mF (mn_CV _ _ mc_X11_depth _) <|
  mF (mn_WL _ _ _) <|
  mF (mn_RV) <|
  mF0
def C_X11_note : mCo := mRun tb_X11_note 2
theorem mc_X11_note : mMC C_X11_note := mRun_mn mt_X11_note 2
theorem yi_X11_note : mYin yX11_note cX11_note 2 none 1 := ⟨wd_60, wd_1200, by decide +kernel, by decide⟩
set_option maxRecDepth 100000 in
set_option maxHeartbeats 4000000 in
theorem sd_X11_note (l : Launch) (B : mBs) (p : Program) (e : Env) (s : State) (m : MethodId) (args : Array Value) (below : List Frame) (meth : Method) (c : Code) (Q : mQo) (X : mCx l B RX11 cX11_note 2 p s m args c) (hr : meth.sig.returnType = none) (hk : meth.locks = false) (hn : meth.name = "note") : ∀ q ∈ tb_X11_note, mSnd l B 2 p e (mRm 5 0 0) s m args below meth c (MQ below (mPo B Q) args s 0 0 (mA B)) (fun r h' => (h'.1.2.1 ≤ 0 ∧ h'.1.2.2 ≤ 0) ∧ Q r h') q.2 q.1 :=
  mF (sn_aload_n (pc := 0) (j := 0) X (by decide +kernel) rfl) <|
  mF (sn_iload_n (pc := 1) (j := 1) X (by decide +kernel) rfl) <|
  mF (sn_callV (pc := 2) X mc_X11_lay (me_X11_lay l B) yi_X11_lay wd_1083 wd_1085 wd_22 (T := TX11) (N := 22) rfl (by decide) (by decide +kernel)) <|
  mF (sn_aload_n (pc := 5) (j := 0) X (by decide +kernel) rfl) <|
  mF (sn_aload_n (pc := 6) (j := 0) X (by decide +kernel) rfl) <|
  mF (sn_iload_n (pc := 7) (j := 1) X (by decide +kernel) rfl) <|
  mF (sn_callV (pc := 8) X mc_X11_allExcess (me_X11_allExcess l B) yi_X11_allExcess wd_1173 wd_1175 wd_34 (T := TX11) (N := 22) rfl (by decide) (by decide +kernel)) <|
  mF (sn_putL (pc := 11) X fd_X11_170 ⟨tyX11_ok, nmX11⟩ rfl rfl (by decide +kernel)) <|
  mF (sn_aload_n (pc := 14) (j := 0) X (by decide +kernel) rfl) <|
  mF (sn_aload_n (pc := 15) (j := 0) X (by decide +kernel) rfl) <|
  mF (sn_iload_n (pc := 16) (j := 1) X (by decide +kernel) rfl) <|
  mF (sn_callV (pc := 17) X mc_X11_depth (me_X11_depth l B) yi_X11_depth wd_1177 wd_1179 wd_35 (T := TX11) (N := 22) rfl (by decide) (by decide +kernel)) <|
  mF (sn_putL (pc := 20) X fd_X11_174 ⟨tyX11_ok, nmX11⟩ rfl rfl (by decide +kernel)) <|
  mF (sn_vret (pc := 23) X hr hk (by decide +kernel)) <|
  mF0
theorem me_X11_note (l : Launch) (B : mBs) : mMet l B yX11_note cX11_note 2 none 5 0 0 C_X11_note := mMet_of (own := RX11) (by decide) rfl (fun p e s m args below meth c Q X hr hk hn => sd_X11_note l B p e s m args below meth c Q X hr hk hn)
/-! PuppetStageModel.isBetter(I)Z: 28 instructions, depth 5, makes 0 cells of 0 slots -/
def tb_X11_isBetter : mTb := [(0, aLA 0 1), (1, aLI 1 2), (2, aCV 11 1 C_X11_lay 5), (5, aLA 0 6), (6, aLI 1 7), (7, aCV 11 1 C_X11_allExcess 10), (10, aSL 2 11), (11, aLL 2 12), (12, aLA 0 13), (13, aGL 11 10 16), (16, aCmp 17), (17, aIf (fun x => x < 0) 42 20), (20, aLL 2 21), (21, aLA 0 22), (22, aGL 11 10 25), (25, aCmp 26), (26, aIf (fun x => x = 0) 29 46), (29, aLA 0 30), (30, aLI 1 31), (31, aCV 11 1 C_X11_depth 34), (34, aLA 0 35), (35, aGL 11 11 38), (38, aCmp 39), (39, aIf (fun x => 0 ≤ x) 46 42), (42, aPI 1 43), (43, aGo 47), (46, aPI 0 47), (47, aRZ)]
theorem mt_X11_isBetter : mMT tb_X11_isBetter :=
  mF (mn_LA _ _) <|
  mF (mn_LI _ _) <|
  mF (mn_CV _ _ mc_X11_lay _) <|
  mF (mn_LA _ _) <|
  mF (mn_LI _ _) <|
  mF (mn_CV _ _ mc_X11_allExcess _) <|
  mF (mn_SL _ _) <|
  mF (mn_LL _ _) <|
  mF (mn_LA _ _) <|
  mF (mn_GL _ _ _) <|
  mF (mn_Cmp _) <|
  mF (mn_If _ _ _) <|
  mF (mn_LL _ _) <|
  mF (mn_LA _ _) <|
  mF (mn_GL _ _ _) <|
  mF (mn_Cmp _) <|
  mF (mn_If _ _ _) <|
  mF (mn_LA _ _) <|
  mF (mn_LI _ _) <|
  mF (mn_CV _ _ mc_X11_depth _) <|
  mF (mn_LA _ _) <|
  mF (mn_GL _ _ _) <|
  mF (mn_Cmp _) <|
  mF (mn_If _ _ _) <|
  mF (mn_PI _ _) <|
  mF (mn_Go _) <|
  mF (mn_PI _ _) <|
  mF (mn_RZ) <|
  mF0
def C_X11_isBetter : mCo := mRun tb_X11_isBetter 4
theorem mc_X11_isBetter : mMC C_X11_isBetter := mRun_mn mt_X11_isBetter 4
theorem yi_X11_isBetter : mYin yX11_isBetter cX11_isBetter 4 (some .boolean) 1 := ⟨wd_60, wd_1208, by decide +kernel, by decide⟩
set_option maxRecDepth 100000 in
set_option maxHeartbeats 4000000 in
theorem sd_X11_isBetter (l : Launch) (B : mBs) (p : Program) (e : Env) (s : State) (m : MethodId) (args : Array Value) (below : List Frame) (meth : Method) (c : Code) (Q : mQo) (X : mCx l B RX11 cX11_isBetter 4 p s m args c) (hr : meth.sig.returnType = (some .boolean)) (hk : meth.locks = false) (hn : meth.name = "isBetter") : ∀ q ∈ tb_X11_isBetter, mSnd l B 4 p e (mRm 5 0 0) s m args below meth c (MQ below (mPo B Q) args s 0 0 (mA B)) (fun r h' => (h'.1.2.1 ≤ 0 ∧ h'.1.2.2 ≤ 0) ∧ Q r h') q.2 q.1 :=
  mF (sn_aload_n (pc := 0) (j := 0) X (by decide +kernel) rfl) <|
  mF (sn_iload_n (pc := 1) (j := 1) X (by decide +kernel) rfl) <|
  mF (sn_callV (pc := 2) X mc_X11_lay (me_X11_lay l B) yi_X11_lay wd_1083 wd_1085 wd_22 (T := TX11) (N := 22) rfl (by decide) (by decide +kernel)) <|
  mF (sn_aload_n (pc := 5) (j := 0) X (by decide +kernel) rfl) <|
  mF (sn_iload_n (pc := 6) (j := 1) X (by decide +kernel) rfl) <|
  mF (sn_callV (pc := 7) X mc_X11_allExcess (me_X11_allExcess l B) yi_X11_allExcess wd_1173 wd_1175 wd_34 (T := TX11) (N := 22) rfl (by decide) (by decide +kernel)) <|
  mF (sn_lstore_n (pc := 10) (j := 2) X (by decide +kernel) rfl (by decide)) <|
  mF (sn_lload_n (pc := 11) (j := 2) X (by decide +kernel) rfl) <|
  mF (sn_aload_n (pc := 12) (j := 0) X (by decide +kernel) rfl) <|
  mF (sn_getL (pc := 13) X fd_X11_170 (by decide +kernel)) <|
  mF (sn_lcmp (pc := 16) X (by decide +kernel)) <|
  mF (sn_if_lt (pc := 17) (off := 25) X (by decide +kernel) (by decide)) <|
  mF (sn_lload_n (pc := 20) (j := 2) X (by decide +kernel) rfl) <|
  mF (sn_aload_n (pc := 21) (j := 0) X (by decide +kernel) rfl) <|
  mF (sn_getL (pc := 22) X fd_X11_170 (by decide +kernel)) <|
  mF (sn_lcmp (pc := 25) X (by decide +kernel)) <|
  mF (sn_if_ne (pc := 26) (off := 20) X (by decide +kernel) (by decide)) <|
  mF (sn_aload_n (pc := 29) (j := 0) X (by decide +kernel) rfl) <|
  mF (sn_iload_n (pc := 30) (j := 1) X (by decide +kernel) rfl) <|
  mF (sn_callV (pc := 31) X mc_X11_depth (me_X11_depth l B) yi_X11_depth wd_1177 wd_1179 wd_35 (T := TX11) (N := 22) rfl (by decide) (by decide +kernel)) <|
  mF (sn_aload_n (pc := 34) (j := 0) X (by decide +kernel) rfl) <|
  mF (sn_getL (pc := 35) X fd_X11_174 (by decide +kernel)) <|
  mF (sn_lcmp (pc := 38) X (by decide +kernel)) <|
  mF (sn_if_ge (pc := 39) (off := 7) X (by decide +kernel) (by decide)) <|
  mF (sn_iconst (pc := 42) (n := 1) X (by decide +kernel) (by decide)) <|
  mF (sn_goto (pc := 43) (off := 4) X (by decide +kernel) (by decide)) <|
  mF (sn_iconst (pc := 46) (n := 0) X (by decide +kernel) (by decide)) <|
  mF (sn_zret (pc := 47) X hr hk (by decide +kernel)) <|
  mF0
theorem me_X11_isBetter (l : Launch) (B : mBs) : mMet l B yX11_isBetter cX11_isBetter 4 (some .boolean) 5 0 0 C_X11_isBetter := mMet_of (own := RX11) (by decide) rfl (fun p e s m args below meth c Q X hr hk hn => sd_X11_isBetter l B p e s m args below meth c Q X hr hk hn)
/-! PuppetStageModel.changes(IIIII)Z: 88 instructions, depth 6, makes 0 cells of 0 slots -/
def tb_X11_changes_c0 : mTb := [(0, aLA 0 1), (1, aLI 1 2), (2, aPI 19 4), (4, aLI 2 5), (5, aB (fun x y => x + y) 6), (6, aCV 11 2 C_X11_get 9), (9, aLI 3 10), (10, aB (fun x y => x + y) 11), (11, aSI 6 13), (13, aLA 0 14), (14, aLI 1 15), (15, aLI 2 16), (16, aLI 6 18), (18, aCV 11 3 C_X11_mayBend 21), (21, aIf (fun x => x = 0) 52 24), (24, aLI 4 26), (26, aIf (fun x => x < 0) 54 29), (29, aLA 0 30), (30, aLI 1 31), (31, aLI 4 33), (33, aLA 0 34), (34, aLI 1 35), (35, aPI 19 37), (37, aLI 4 39), (39, aB (fun x y => x + y) 40), (40, aCV 11 2 C_X11_get 43), (43, aLI 5 45), (45, aB (fun x y => x + y) 46), (46, aCV 11 3 C_X11_mayBend 49), (49, aIf (fun x => x = 0) 52 54), (52, aPI 0 53), (53, aRZ), (54, aLA 0 55), (55, aLI 1 56), (56, aPI 19 58), (58, aLI 2 59), (59, aB (fun x y => x + y) 60), (60, aLI 6 62), (62, aCV 11 3 C_X11_put 65), (65, aLI 4 67), (67, aIf (fun x => x < 0) 93 70), (70, aLA 0 71), (71, aLI 1 72), (72, aPI 19 74), (74, aLI 4 76), (76, aB (fun x y => x + y) 77), (77, aLA 0 78), (78, aLI 1 79), (79, aPI 19 81), (81, aLI 4 83), (83, aB (fun x y => x + y) 84), (84, aCV 11 2 C_X11_get 87), (87, aLI 5 89), (89, aB (fun x y => x + y) 90), (90, aCV 11 3 C_X11_put 93), (93, aLA 0 94), (94, aLI 1 95), (95, aCV 11 1 C_X11_isBetter 98), (98, aIf (fun x => x = 0) 103 101), (101, aPI 1 102), (102, aRZ), (103, aLA 0 104), (104, aLI 1 105), (105, aPI 19 107), (107, aLI 2 108), (108, aB (fun x y => x + y) 109), (109, aLI 6 111), (111, aLI 3 112), (112, aB (fun x y => x - y) 113), (113, aCV 11 3 C_X11_put 116)]
theorem mt_X11_changes_c0 : mMT tb_X11_changes_c0 :=
  mF (mn_LA _ _) <|
  mF (mn_LI _ _) <|
  mF (mn_PI _ _) <|
  mF (mn_LI _ _) <|
  mF (mn_B _ _) <|
  mF (mn_CV _ _ mc_X11_get _) <|
  mF (mn_LI _ _) <|
  mF (mn_B _ _) <|
  mF (mn_SI _ _) <|
  mF (mn_LA _ _) <|
  mF (mn_LI _ _) <|
  mF (mn_LI _ _) <|
  mF (mn_LI _ _) <|
  mF (mn_CV _ _ mc_X11_mayBend _) <|
  mF (mn_If _ _ _) <|
  mF (mn_LI _ _) <|
  mF (mn_If _ _ _) <|
  mF (mn_LA _ _) <|
  mF (mn_LI _ _) <|
  mF (mn_LI _ _) <|
  mF (mn_LA _ _) <|
  mF (mn_LI _ _) <|
  mF (mn_PI _ _) <|
  mF (mn_LI _ _) <|
  mF (mn_B _ _) <|
  mF (mn_CV _ _ mc_X11_get _) <|
  mF (mn_LI _ _) <|
  mF (mn_B _ _) <|
  mF (mn_CV _ _ mc_X11_mayBend _) <|
  mF (mn_If _ _ _) <|
  mF (mn_PI _ _) <|
  mF (mn_RZ) <|
  mF (mn_LA _ _) <|
  mF (mn_LI _ _) <|
  mF (mn_PI _ _) <|
  mF (mn_LI _ _) <|
  mF (mn_B _ _) <|
  mF (mn_LI _ _) <|
  mF (mn_CV _ _ mc_X11_put _) <|
  mF (mn_LI _ _) <|
  mF (mn_If _ _ _) <|
  mF (mn_LA _ _) <|
  mF (mn_LI _ _) <|
  mF (mn_PI _ _) <|
  mF (mn_LI _ _) <|
  mF (mn_B _ _) <|
  mF (mn_LA _ _) <|
  mF (mn_LI _ _) <|
  mF (mn_PI _ _) <|
  mF (mn_LI _ _) <|
  mF (mn_B _ _) <|
  mF (mn_CV _ _ mc_X11_get _) <|
  mF (mn_LI _ _) <|
  mF (mn_B _ _) <|
  mF (mn_CV _ _ mc_X11_put _) <|
  mF (mn_LA _ _) <|
  mF (mn_LI _ _) <|
  mF (mn_CV _ _ mc_X11_isBetter _) <|
  mF (mn_If _ _ _) <|
  mF (mn_PI _ _) <|
  mF (mn_RZ) <|
  mF (mn_LA _ _) <|
  mF (mn_LI _ _) <|
  mF (mn_PI _ _) <|
  mF (mn_LI _ _) <|
  mF (mn_B _ _) <|
  mF (mn_LI _ _) <|
  mF (mn_LI _ _) <|
  mF (mn_B _ _) <|
  mF (mn_CV _ _ mc_X11_put _) <|
  mF0
def tb_X11_changes_c1 : mTb := [(116, aLI 4 118), (118, aIf (fun x => x < 0) 144 121), (121, aLA 0 122), (122, aLI 1 123), (123, aPI 19 125), (125, aLI 4 127), (127, aB (fun x y => x + y) 128), (128, aLA 0 129), (129, aLI 1 130), (130, aPI 19 132), (132, aLI 4 134), (134, aB (fun x y => x + y) 135), (135, aCV 11 2 C_X11_get 138), (138, aLI 5 140), (140, aB (fun x y => x - y) 141), (141, aCV 11 3 C_X11_put 144), (144, aPI 0 145), (145, aRZ)]
theorem mt_X11_changes_c1 : mMT tb_X11_changes_c1 :=
  mF (mn_LI _ _) <|
  mF (mn_If _ _ _) <|
  mF (mn_LA _ _) <|
  mF (mn_LI _ _) <|
  mF (mn_PI _ _) <|
  mF (mn_LI _ _) <|
  mF (mn_B _ _) <|
  mF (mn_LA _ _) <|
  mF (mn_LI _ _) <|
  mF (mn_PI _ _) <|
  mF (mn_LI _ _) <|
  mF (mn_B _ _) <|
  mF (mn_CV _ _ mc_X11_get _) <|
  mF (mn_LI _ _) <|
  mF (mn_B _ _) <|
  mF (mn_CV _ _ mc_X11_put _) <|
  mF (mn_PI _ _) <|
  mF (mn_RZ) <|
  mF0
def tb_X11_changes : mTb := tb_X11_changes_c0 ++ (tb_X11_changes_c1)
theorem mt_X11_changes : mMT tb_X11_changes := mFA mt_X11_changes_c0 mt_X11_changes_c1
def C_X11_changes : mCo := mRun tb_X11_changes 7
theorem mc_X11_changes : mMC C_X11_changes := mRun_mn mt_X11_changes 7
theorem yi_X11_changes : mYin yX11_changes cX11_changes 7 (some .boolean) 5 := ⟨wd_60, wd_1204, by decide +kernel, by decide⟩
set_option maxRecDepth 100000 in
set_option maxHeartbeats 4000000 in
theorem sd_X11_changes_c0 (l : Launch) (B : mBs) (p : Program) (e : Env) (s : State) (m : MethodId) (args : Array Value) (below : List Frame) (meth : Method) (c : Code) (Q : mQo) (X : mCx l B RX11 cX11_changes 7 p s m args c) (hr : meth.sig.returnType = (some .boolean)) (hk : meth.locks = false) (hn : meth.name = "changes") : ∀ q ∈ tb_X11_changes_c0, mSnd l B 7 p e (mRm 6 0 0) s m args below meth c (MQ below (mPo B Q) args s 0 0 (mA B)) (fun r h' => (h'.1.2.1 ≤ 0 ∧ h'.1.2.2 ≤ 0) ∧ Q r h') q.2 q.1 :=
  mF (sn_aload_n (pc := 0) (j := 0) X (by decide +kernel) rfl) <|
  mF (sn_iload_n (pc := 1) (j := 1) X (by decide +kernel) rfl) <|
  mF (sn_bipush (pc := 2) (n := 19) X (by decide +kernel) (by decide)) <|
  mF (sn_iload_n (pc := 4) (j := 2) X (by decide +kernel) rfl) <|
  mF (sn_iadd (pc := 5) X (by decide +kernel)) <|
  mF (sn_callV (pc := 6) X mc_X11_get (me_X11_get l B) yi_X11_get wd_995 wd_997 wd_12 (T := TX11) (N := 22) rfl (by decide) (by decide +kernel)) <|
  mF (sn_iload_n (pc := 9) (j := 3) X (by decide +kernel) rfl) <|
  mF (sn_iadd (pc := 10) X (by decide +kernel)) <|
  mF (sn_istore (pc := 11) X (by decide +kernel) (by decide)) <|
  mF (sn_aload_n (pc := 13) (j := 0) X (by decide +kernel) rfl) <|
  mF (sn_iload_n (pc := 14) (j := 1) X (by decide +kernel) rfl) <|
  mF (sn_iload_n (pc := 15) (j := 2) X (by decide +kernel) rfl) <|
  mF (sn_iload (pc := 16) X (by decide +kernel)) <|
  mF (sn_callV (pc := 18) X mc_X11_mayBend (me_X11_mayBend l B) yi_X11_mayBend wd_1066 wd_1068 wd_21 (T := TX11) (N := 22) rfl (by decide) (by decide +kernel)) <|
  mF (sn_if_eq (pc := 21) (off := 31) X (by decide +kernel) (by decide)) <|
  mF (sn_iload (pc := 24) X (by decide +kernel)) <|
  mF (sn_if_lt (pc := 26) (off := 28) X (by decide +kernel) (by decide)) <|
  mF (sn_aload_n (pc := 29) (j := 0) X (by decide +kernel) rfl) <|
  mF (sn_iload_n (pc := 30) (j := 1) X (by decide +kernel) rfl) <|
  mF (sn_iload (pc := 31) X (by decide +kernel)) <|
  mF (sn_aload_n (pc := 33) (j := 0) X (by decide +kernel) rfl) <|
  mF (sn_iload_n (pc := 34) (j := 1) X (by decide +kernel) rfl) <|
  mF (sn_bipush (pc := 35) (n := 19) X (by decide +kernel) (by decide)) <|
  mF (sn_iload (pc := 37) X (by decide +kernel)) <|
  mF (sn_iadd (pc := 39) X (by decide +kernel)) <|
  mF (sn_callV (pc := 40) X mc_X11_get (me_X11_get l B) yi_X11_get wd_995 wd_997 wd_12 (T := TX11) (N := 22) rfl (by decide) (by decide +kernel)) <|
  mF (sn_iload (pc := 43) X (by decide +kernel)) <|
  mF (sn_iadd (pc := 45) X (by decide +kernel)) <|
  mF (sn_callV (pc := 46) X mc_X11_mayBend (me_X11_mayBend l B) yi_X11_mayBend wd_1066 wd_1068 wd_21 (T := TX11) (N := 22) rfl (by decide) (by decide +kernel)) <|
  mF (sn_if_ne (pc := 49) (off := 5) X (by decide +kernel) (by decide)) <|
  mF (sn_iconst (pc := 52) (n := 0) X (by decide +kernel) (by decide)) <|
  mF (sn_zret (pc := 53) X hr hk (by decide +kernel)) <|
  mF (sn_aload_n (pc := 54) (j := 0) X (by decide +kernel) rfl) <|
  mF (sn_iload_n (pc := 55) (j := 1) X (by decide +kernel) rfl) <|
  mF (sn_bipush (pc := 56) (n := 19) X (by decide +kernel) (by decide)) <|
  mF (sn_iload_n (pc := 58) (j := 2) X (by decide +kernel) rfl) <|
  mF (sn_iadd (pc := 59) X (by decide +kernel)) <|
  mF (sn_iload (pc := 60) X (by decide +kernel)) <|
  mF (sn_callV (pc := 62) X mc_X11_put (me_X11_put l B) yi_X11_put wd_1013 wd_1015 wd_16 (T := TX11) (N := 22) rfl (by decide) (by decide +kernel)) <|
  mF (sn_iload (pc := 65) X (by decide +kernel)) <|
  mF (sn_if_lt (pc := 67) (off := 26) X (by decide +kernel) (by decide)) <|
  mF (sn_aload_n (pc := 70) (j := 0) X (by decide +kernel) rfl) <|
  mF (sn_iload_n (pc := 71) (j := 1) X (by decide +kernel) rfl) <|
  mF (sn_bipush (pc := 72) (n := 19) X (by decide +kernel) (by decide)) <|
  mF (sn_iload (pc := 74) X (by decide +kernel)) <|
  mF (sn_iadd (pc := 76) X (by decide +kernel)) <|
  mF (sn_aload_n (pc := 77) (j := 0) X (by decide +kernel) rfl) <|
  mF (sn_iload_n (pc := 78) (j := 1) X (by decide +kernel) rfl) <|
  mF (sn_bipush (pc := 79) (n := 19) X (by decide +kernel) (by decide)) <|
  mF (sn_iload (pc := 81) X (by decide +kernel)) <|
  mF (sn_iadd (pc := 83) X (by decide +kernel)) <|
  mF (sn_callV (pc := 84) X mc_X11_get (me_X11_get l B) yi_X11_get wd_995 wd_997 wd_12 (T := TX11) (N := 22) rfl (by decide) (by decide +kernel)) <|
  mF (sn_iload (pc := 87) X (by decide +kernel)) <|
  mF (sn_iadd (pc := 89) X (by decide +kernel)) <|
  mF (sn_callV (pc := 90) X mc_X11_put (me_X11_put l B) yi_X11_put wd_1013 wd_1015 wd_16 (T := TX11) (N := 22) rfl (by decide) (by decide +kernel)) <|
  mF (sn_aload_n (pc := 93) (j := 0) X (by decide +kernel) rfl) <|
  mF (sn_iload_n (pc := 94) (j := 1) X (by decide +kernel) rfl) <|
  mF (sn_callV (pc := 95) X mc_X11_isBetter (me_X11_isBetter l B) yi_X11_isBetter wd_1205 wd_1207 wd_40 (T := TX11) (N := 22) rfl (by decide) (by decide +kernel)) <|
  mF (sn_if_eq (pc := 98) (off := 5) X (by decide +kernel) (by decide)) <|
  mF (sn_iconst (pc := 101) (n := 1) X (by decide +kernel) (by decide)) <|
  mF (sn_zret (pc := 102) X hr hk (by decide +kernel)) <|
  mF (sn_aload_n (pc := 103) (j := 0) X (by decide +kernel) rfl) <|
  mF (sn_iload_n (pc := 104) (j := 1) X (by decide +kernel) rfl) <|
  mF (sn_bipush (pc := 105) (n := 19) X (by decide +kernel) (by decide)) <|
  mF (sn_iload_n (pc := 107) (j := 2) X (by decide +kernel) rfl) <|
  mF (sn_iadd (pc := 108) X (by decide +kernel)) <|
  mF (sn_iload (pc := 109) X (by decide +kernel)) <|
  mF (sn_iload_n (pc := 111) (j := 3) X (by decide +kernel) rfl) <|
  mF (sn_isub (pc := 112) X (by decide +kernel)) <|
  mF (sn_callV (pc := 113) X mc_X11_put (me_X11_put l B) yi_X11_put wd_1013 wd_1015 wd_16 (T := TX11) (N := 22) rfl (by decide) (by decide +kernel)) <|
  mF0
set_option maxRecDepth 100000 in
set_option maxHeartbeats 4000000 in
theorem sd_X11_changes_c1 (l : Launch) (B : mBs) (p : Program) (e : Env) (s : State) (m : MethodId) (args : Array Value) (below : List Frame) (meth : Method) (c : Code) (Q : mQo) (X : mCx l B RX11 cX11_changes 7 p s m args c) (hr : meth.sig.returnType = (some .boolean)) (hk : meth.locks = false) (hn : meth.name = "changes") : ∀ q ∈ tb_X11_changes_c1, mSnd l B 7 p e (mRm 6 0 0) s m args below meth c (MQ below (mPo B Q) args s 0 0 (mA B)) (fun r h' => (h'.1.2.1 ≤ 0 ∧ h'.1.2.2 ≤ 0) ∧ Q r h') q.2 q.1 :=
  mF (sn_iload (pc := 116) X (by decide +kernel)) <|
  mF (sn_if_lt (pc := 118) (off := 26) X (by decide +kernel) (by decide)) <|
  mF (sn_aload_n (pc := 121) (j := 0) X (by decide +kernel) rfl) <|
  mF (sn_iload_n (pc := 122) (j := 1) X (by decide +kernel) rfl) <|
  mF (sn_bipush (pc := 123) (n := 19) X (by decide +kernel) (by decide)) <|
  mF (sn_iload (pc := 125) X (by decide +kernel)) <|
  mF (sn_iadd (pc := 127) X (by decide +kernel)) <|
  mF (sn_aload_n (pc := 128) (j := 0) X (by decide +kernel) rfl) <|
  mF (sn_iload_n (pc := 129) (j := 1) X (by decide +kernel) rfl) <|
  mF (sn_bipush (pc := 130) (n := 19) X (by decide +kernel) (by decide)) <|
  mF (sn_iload (pc := 132) X (by decide +kernel)) <|
  mF (sn_iadd (pc := 134) X (by decide +kernel)) <|
  mF (sn_callV (pc := 135) X mc_X11_get (me_X11_get l B) yi_X11_get wd_995 wd_997 wd_12 (T := TX11) (N := 22) rfl (by decide) (by decide +kernel)) <|
  mF (sn_iload (pc := 138) X (by decide +kernel)) <|
  mF (sn_isub (pc := 140) X (by decide +kernel)) <|
  mF (sn_callV (pc := 141) X mc_X11_put (me_X11_put l B) yi_X11_put wd_1013 wd_1015 wd_16 (T := TX11) (N := 22) rfl (by decide) (by decide +kernel)) <|
  mF (sn_iconst (pc := 144) (n := 0) X (by decide +kernel) (by decide)) <|
  mF (sn_zret (pc := 145) X hr hk (by decide +kernel)) <|
  mF0
theorem sd_X11_changes (l : Launch) (B : mBs) (p : Program) (e : Env) (s : State) (m : MethodId) (args : Array Value) (below : List Frame) (meth : Method) (c : Code) (Q : mQo) (X : mCx l B RX11 cX11_changes 7 p s m args c) (hr : meth.sig.returnType = (some .boolean)) (hk : meth.locks = false) (hn : meth.name = "changes") : ∀ q ∈ tb_X11_changes, mSnd l B 7 p e (mRm 6 0 0) s m args below meth c (MQ below (mPo B Q) args s 0 0 (mA B)) (fun r h' => (h'.1.2.1 ≤ 0 ∧ h'.1.2.2 ≤ 0) ∧ Q r h') q.2 q.1 := mFA (sd_X11_changes_c0 l B p e s m args below meth c Q X hr hk hn) (sd_X11_changes_c1 l B p e s m args below meth c Q X hr hk hn)
theorem me_X11_changes (l : Launch) (B : mBs) : mMet l B yX11_changes cX11_changes 7 (some .boolean) 6 0 0 C_X11_changes := mMet_of (own := RX11) (by decide) rfl (fun p e s m args below meth c Q X hr hk hn => sd_X11_changes l B p e s m args below meth c Q X hr hk hn)
/-! PuppetStageModel.step(I)Z: 99 instructions, depth 7, makes 0 cells of 0 slots -/
def tb_X11_step_c0 : mTb := [(0, aLA 0 1), (1, aLI 1 2), (2, aCV 11 1 C_X11_note 5), (5, aLA 0 6), (6, aLI 1 7), (7, aPI 128 10), (10, aCV 11 2 C_X11_get 13), (13, aIf (fun x => x = 0) 16 20), (16, aPI 1 17), (17, aGo 21), (20, aPI (-1) 21), (21, aSI 2 22), (22, aLA 0 23), (23, aLI 1 24), (24, aPI 0 25), (25, aCV 11 2 C_X11_get 28), (28, aSI 3 29), (29, aPI 0 30), (30, aSI 4 32), (32, aLI 4 34), (34, aLI 3 35), (35, aIc (fun x y => y ≤ x) 73 38), (38, aLA 0 39), (39, aLI 1 40), (40, aLI 4 42), (42, aLI 2 43), (43, aPI (-1) 44), (44, aPI 0 45), (45, aCV 11 5 C_X11_changes 48), (48, aIf (fun x => x = 0) 51 65), (51, aLA 0 52), (52, aLI 1 53), (53, aLI 4 55), (55, aLI 2 56), (56, aU (fun x => -x) 57), (57, aPI (-1) 58), (58, aPI 0 59), (59, aCV 11 5 C_X11_changes 62), (62, aIf (fun x => x = 0) 67 65), (65, aPI 1 66), (66, aRZ), (67, aInc 4 1 70), (70, aGo 32), (73, aPI 0 74), (74, aSI 4 76), (76, aLI 4 78), (78, aLI 3 79), (79, aIc (fun x y => y ≤ x) 168 82), (82, aLI 4 84), (84, aPI 1 85), (85, aB (fun x y => x + y) 86), (86, aSI 5 88), (88, aLI 5 90), (90, aLI 3 91), (91, aIc (fun x y => y ≤ x) 162 94), (94, aLA 0 95), (95, aLI 1 96), (96, aLI 4 98), (98, aLI 2 99), (99, aLI 5 101), (101, aLI 2 102), (102, aCV 11 5 C_X11_changes 105), (105, aIf (fun x => x = 0) 108 154), (108, aLA 0 109), (109, aLI 1 110), (110, aLI 4 112), (112, aLI 2 113), (113, aLI 5 115), (115, aLI 2 116), (116, aU (fun x => -x) 117)]
theorem mt_X11_step_c0 : mMT tb_X11_step_c0 :=
  mF (mn_LA _ _) <|
  mF (mn_LI _ _) <|
  mF (mn_CV _ _ mc_X11_note _) <|
  mF (mn_LA _ _) <|
  mF (mn_LI _ _) <|
  mF (mn_PI _ _) <|
  mF (mn_CV _ _ mc_X11_get _) <|
  mF (mn_If _ _ _) <|
  mF (mn_PI _ _) <|
  mF (mn_Go _) <|
  mF (mn_PI _ _) <|
  mF (mn_SI _ _) <|
  mF (mn_LA _ _) <|
  mF (mn_LI _ _) <|
  mF (mn_PI _ _) <|
  mF (mn_CV _ _ mc_X11_get _) <|
  mF (mn_SI _ _) <|
  mF (mn_PI _ _) <|
  mF (mn_SI _ _) <|
  mF (mn_LI _ _) <|
  mF (mn_LI _ _) <|
  mF (mn_Ic _ _ _) <|
  mF (mn_LA _ _) <|
  mF (mn_LI _ _) <|
  mF (mn_LI _ _) <|
  mF (mn_LI _ _) <|
  mF (mn_PI _ _) <|
  mF (mn_PI _ _) <|
  mF (mn_CV _ _ mc_X11_changes _) <|
  mF (mn_If _ _ _) <|
  mF (mn_LA _ _) <|
  mF (mn_LI _ _) <|
  mF (mn_LI _ _) <|
  mF (mn_LI _ _) <|
  mF (mn_U _ _) <|
  mF (mn_PI _ _) <|
  mF (mn_PI _ _) <|
  mF (mn_CV _ _ mc_X11_changes _) <|
  mF (mn_If _ _ _) <|
  mF (mn_PI _ _) <|
  mF (mn_RZ) <|
  mF (mn_Inc _ _ _) <|
  mF (mn_Go _) <|
  mF (mn_PI _ _) <|
  mF (mn_SI _ _) <|
  mF (mn_LI _ _) <|
  mF (mn_LI _ _) <|
  mF (mn_Ic _ _ _) <|
  mF (mn_LI _ _) <|
  mF (mn_PI _ _) <|
  mF (mn_B _ _) <|
  mF (mn_SI _ _) <|
  mF (mn_LI _ _) <|
  mF (mn_LI _ _) <|
  mF (mn_Ic _ _ _) <|
  mF (mn_LA _ _) <|
  mF (mn_LI _ _) <|
  mF (mn_LI _ _) <|
  mF (mn_LI _ _) <|
  mF (mn_LI _ _) <|
  mF (mn_LI _ _) <|
  mF (mn_CV _ _ mc_X11_changes _) <|
  mF (mn_If _ _ _) <|
  mF (mn_LA _ _) <|
  mF (mn_LI _ _) <|
  mF (mn_LI _ _) <|
  mF (mn_LI _ _) <|
  mF (mn_LI _ _) <|
  mF (mn_LI _ _) <|
  mF (mn_U _ _) <|
  mF0
def tb_X11_step_c1 : mTb := [(117, aCV 11 5 C_X11_changes 120), (120, aIf (fun x => x = 0) 123 154), (123, aLA 0 124), (124, aLI 1 125), (125, aLI 4 127), (127, aLI 2 128), (128, aU (fun x => -x) 129), (129, aLI 5 131), (131, aLI 2 132), (132, aCV 11 5 C_X11_changes 135), (135, aIf (fun x => x = 0) 138 154), (138, aLA 0 139), (139, aLI 1 140), (140, aLI 4 142), (142, aLI 2 143), (143, aU (fun x => -x) 144), (144, aLI 5 146), (146, aLI 2 147), (147, aU (fun x => -x) 148), (148, aCV 11 5 C_X11_changes 151), (151, aIf (fun x => x = 0) 156 154), (154, aPI 1 155), (155, aRZ), (156, aInc 5 1 159), (159, aGo 88), (162, aInc 4 1 165), (165, aGo 76), (168, aPI 0 169), (169, aRZ)]
theorem mt_X11_step_c1 : mMT tb_X11_step_c1 :=
  mF (mn_CV _ _ mc_X11_changes _) <|
  mF (mn_If _ _ _) <|
  mF (mn_LA _ _) <|
  mF (mn_LI _ _) <|
  mF (mn_LI _ _) <|
  mF (mn_LI _ _) <|
  mF (mn_U _ _) <|
  mF (mn_LI _ _) <|
  mF (mn_LI _ _) <|
  mF (mn_CV _ _ mc_X11_changes _) <|
  mF (mn_If _ _ _) <|
  mF (mn_LA _ _) <|
  mF (mn_LI _ _) <|
  mF (mn_LI _ _) <|
  mF (mn_LI _ _) <|
  mF (mn_U _ _) <|
  mF (mn_LI _ _) <|
  mF (mn_LI _ _) <|
  mF (mn_U _ _) <|
  mF (mn_CV _ _ mc_X11_changes _) <|
  mF (mn_If _ _ _) <|
  mF (mn_PI _ _) <|
  mF (mn_RZ) <|
  mF (mn_Inc _ _ _) <|
  mF (mn_Go _) <|
  mF (mn_Inc _ _ _) <|
  mF (mn_Go _) <|
  mF (mn_PI _ _) <|
  mF (mn_RZ) <|
  mF0
def tb_X11_step : mTb := tb_X11_step_c0 ++ (tb_X11_step_c1)
theorem mt_X11_step : mMT tb_X11_step := mFA mt_X11_step_c0 mt_X11_step_c1
def C_X11_step : mCo := mRun tb_X11_step 6
theorem mc_X11_step : mMC C_X11_step := mRun_mn mt_X11_step 6
theorem yi_X11_step : mYin yX11_step cX11_step 6 (some .boolean) 1 := ⟨wd_60, wd_1196, by decide +kernel, by decide⟩
set_option maxRecDepth 100000 in
set_option maxHeartbeats 4000000 in
theorem sd_X11_step_c0 (l : Launch) (B : mBs) (p : Program) (e : Env) (s : State) (m : MethodId) (args : Array Value) (below : List Frame) (meth : Method) (c : Code) (Q : mQo) (X : mCx l B RX11 cX11_step 6 p s m args c) (hr : meth.sig.returnType = (some .boolean)) (hk : meth.locks = false) (hn : meth.name = "step") : ∀ q ∈ tb_X11_step_c0, mSnd l B 6 p e (mRm 7 0 0) s m args below meth c (MQ below (mPo B Q) args s 0 0 (mA B)) (fun r h' => (h'.1.2.1 ≤ 0 ∧ h'.1.2.2 ≤ 0) ∧ Q r h') q.2 q.1 :=
  mF (sn_aload_n (pc := 0) (j := 0) X (by decide +kernel) rfl) <|
  mF (sn_iload_n (pc := 1) (j := 1) X (by decide +kernel) rfl) <|
  mF (sn_callV (pc := 2) X mc_X11_note (me_X11_note l B) yi_X11_note wd_1197 wd_1199 wd_38 (T := TX11) (N := 22) rfl (by decide) (by decide +kernel)) <|
  mF (sn_aload_n (pc := 5) (j := 0) X (by decide +kernel) rfl) <|
  mF (sn_iload_n (pc := 6) (j := 1) X (by decide +kernel) rfl) <|
  mF (sn_sipush (pc := 7) (n := 128) X (by decide +kernel) (by decide)) <|
  mF (sn_callV (pc := 10) X mc_X11_get (me_X11_get l B) yi_X11_get wd_995 wd_997 wd_12 (T := TX11) (N := 22) rfl (by decide) (by decide +kernel)) <|
  mF (sn_if_ne (pc := 13) (off := 7) X (by decide +kernel) (by decide)) <|
  mF (sn_iconst (pc := 16) (n := 1) X (by decide +kernel) (by decide)) <|
  mF (sn_goto (pc := 17) (off := 4) X (by decide +kernel) (by decide)) <|
  mF (sn_iconst (pc := 20) (n := (-1)) X (by decide +kernel) (by decide)) <|
  mF (sn_istore_n (pc := 21) (j := 2) X (by decide +kernel) rfl (by decide)) <|
  mF (sn_aload_n (pc := 22) (j := 0) X (by decide +kernel) rfl) <|
  mF (sn_iload_n (pc := 23) (j := 1) X (by decide +kernel) rfl) <|
  mF (sn_iconst (pc := 24) (n := 0) X (by decide +kernel) (by decide)) <|
  mF (sn_callV (pc := 25) X mc_X11_get (me_X11_get l B) yi_X11_get wd_995 wd_997 wd_12 (T := TX11) (N := 22) rfl (by decide) (by decide +kernel)) <|
  mF (sn_istore_n (pc := 28) (j := 3) X (by decide +kernel) rfl (by decide)) <|
  mF (sn_iconst (pc := 29) (n := 0) X (by decide +kernel) (by decide)) <|
  mF (sn_istore (pc := 30) X (by decide +kernel) (by decide)) <|
  mF (sn_iload (pc := 32) X (by decide +kernel)) <|
  mF (sn_iload_n (pc := 34) (j := 3) X (by decide +kernel) rfl) <|
  mF (sn_icmp_ge (pc := 35) (off := 38) X (by decide +kernel) (by decide)) <|
  mF (sn_aload_n (pc := 38) (j := 0) X (by decide +kernel) rfl) <|
  mF (sn_iload_n (pc := 39) (j := 1) X (by decide +kernel) rfl) <|
  mF (sn_iload (pc := 40) X (by decide +kernel)) <|
  mF (sn_iload_n (pc := 42) (j := 2) X (by decide +kernel) rfl) <|
  mF (sn_iconst (pc := 43) (n := (-1)) X (by decide +kernel) (by decide)) <|
  mF (sn_iconst (pc := 44) (n := 0) X (by decide +kernel) (by decide)) <|
  mF (sn_callV (pc := 45) X mc_X11_changes (me_X11_changes l B) yi_X11_changes wd_1201 wd_1203 wd_39 (T := TX11) (N := 22) rfl (by decide) (by decide +kernel)) <|
  mF (sn_if_ne (pc := 48) (off := 17) X (by decide +kernel) (by decide)) <|
  mF (sn_aload_n (pc := 51) (j := 0) X (by decide +kernel) rfl) <|
  mF (sn_iload_n (pc := 52) (j := 1) X (by decide +kernel) rfl) <|
  mF (sn_iload (pc := 53) X (by decide +kernel)) <|
  mF (sn_iload_n (pc := 55) (j := 2) X (by decide +kernel) rfl) <|
  mF (sn_ineg (pc := 56) X (by decide +kernel)) <|
  mF (sn_iconst (pc := 57) (n := (-1)) X (by decide +kernel) (by decide)) <|
  mF (sn_iconst (pc := 58) (n := 0) X (by decide +kernel) (by decide)) <|
  mF (sn_callV (pc := 59) X mc_X11_changes (me_X11_changes l B) yi_X11_changes wd_1201 wd_1203 wd_39 (T := TX11) (N := 22) rfl (by decide) (by decide +kernel)) <|
  mF (sn_if_eq (pc := 62) (off := 5) X (by decide +kernel) (by decide)) <|
  mF (sn_iconst (pc := 65) (n := 1) X (by decide +kernel) (by decide)) <|
  mF (sn_zret (pc := 66) X hr hk (by decide +kernel)) <|
  mF (sn_iinc (pc := 67) (n := 1) X (by decide +kernel) (by decide) (by decide)) <|
  mF (sn_goto (pc := 70) (off := (-38)) X (by decide +kernel) (by decide)) <|
  mF (sn_iconst (pc := 73) (n := 0) X (by decide +kernel) (by decide)) <|
  mF (sn_istore (pc := 74) X (by decide +kernel) (by decide)) <|
  mF (sn_iload (pc := 76) X (by decide +kernel)) <|
  mF (sn_iload_n (pc := 78) (j := 3) X (by decide +kernel) rfl) <|
  mF (sn_icmp_ge (pc := 79) (off := 89) X (by decide +kernel) (by decide)) <|
  mF (sn_iload (pc := 82) X (by decide +kernel)) <|
  mF (sn_iconst (pc := 84) (n := 1) X (by decide +kernel) (by decide)) <|
  mF (sn_iadd (pc := 85) X (by decide +kernel)) <|
  mF (sn_istore (pc := 86) X (by decide +kernel) (by decide)) <|
  mF (sn_iload (pc := 88) X (by decide +kernel)) <|
  mF (sn_iload_n (pc := 90) (j := 3) X (by decide +kernel) rfl) <|
  mF (sn_icmp_ge (pc := 91) (off := 71) X (by decide +kernel) (by decide)) <|
  mF (sn_aload_n (pc := 94) (j := 0) X (by decide +kernel) rfl) <|
  mF (sn_iload_n (pc := 95) (j := 1) X (by decide +kernel) rfl) <|
  mF (sn_iload (pc := 96) X (by decide +kernel)) <|
  mF (sn_iload_n (pc := 98) (j := 2) X (by decide +kernel) rfl) <|
  mF (sn_iload (pc := 99) X (by decide +kernel)) <|
  mF (sn_iload_n (pc := 101) (j := 2) X (by decide +kernel) rfl) <|
  mF (sn_callV (pc := 102) X mc_X11_changes (me_X11_changes l B) yi_X11_changes wd_1201 wd_1203 wd_39 (T := TX11) (N := 22) rfl (by decide) (by decide +kernel)) <|
  mF (sn_if_ne (pc := 105) (off := 49) X (by decide +kernel) (by decide)) <|
  mF (sn_aload_n (pc := 108) (j := 0) X (by decide +kernel) rfl) <|
  mF (sn_iload_n (pc := 109) (j := 1) X (by decide +kernel) rfl) <|
  mF (sn_iload (pc := 110) X (by decide +kernel)) <|
  mF (sn_iload_n (pc := 112) (j := 2) X (by decide +kernel) rfl) <|
  mF (sn_iload (pc := 113) X (by decide +kernel)) <|
  mF (sn_iload_n (pc := 115) (j := 2) X (by decide +kernel) rfl) <|
  mF (sn_ineg (pc := 116) X (by decide +kernel)) <|
  mF0
set_option maxRecDepth 100000 in
set_option maxHeartbeats 4000000 in
theorem sd_X11_step_c1 (l : Launch) (B : mBs) (p : Program) (e : Env) (s : State) (m : MethodId) (args : Array Value) (below : List Frame) (meth : Method) (c : Code) (Q : mQo) (X : mCx l B RX11 cX11_step 6 p s m args c) (hr : meth.sig.returnType = (some .boolean)) (hk : meth.locks = false) (hn : meth.name = "step") : ∀ q ∈ tb_X11_step_c1, mSnd l B 6 p e (mRm 7 0 0) s m args below meth c (MQ below (mPo B Q) args s 0 0 (mA B)) (fun r h' => (h'.1.2.1 ≤ 0 ∧ h'.1.2.2 ≤ 0) ∧ Q r h') q.2 q.1 :=
  mF (sn_callV (pc := 117) X mc_X11_changes (me_X11_changes l B) yi_X11_changes wd_1201 wd_1203 wd_39 (T := TX11) (N := 22) rfl (by decide) (by decide +kernel)) <|
  mF (sn_if_ne (pc := 120) (off := 34) X (by decide +kernel) (by decide)) <|
  mF (sn_aload_n (pc := 123) (j := 0) X (by decide +kernel) rfl) <|
  mF (sn_iload_n (pc := 124) (j := 1) X (by decide +kernel) rfl) <|
  mF (sn_iload (pc := 125) X (by decide +kernel)) <|
  mF (sn_iload_n (pc := 127) (j := 2) X (by decide +kernel) rfl) <|
  mF (sn_ineg (pc := 128) X (by decide +kernel)) <|
  mF (sn_iload (pc := 129) X (by decide +kernel)) <|
  mF (sn_iload_n (pc := 131) (j := 2) X (by decide +kernel) rfl) <|
  mF (sn_callV (pc := 132) X mc_X11_changes (me_X11_changes l B) yi_X11_changes wd_1201 wd_1203 wd_39 (T := TX11) (N := 22) rfl (by decide) (by decide +kernel)) <|
  mF (sn_if_ne (pc := 135) (off := 19) X (by decide +kernel) (by decide)) <|
  mF (sn_aload_n (pc := 138) (j := 0) X (by decide +kernel) rfl) <|
  mF (sn_iload_n (pc := 139) (j := 1) X (by decide +kernel) rfl) <|
  mF (sn_iload (pc := 140) X (by decide +kernel)) <|
  mF (sn_iload_n (pc := 142) (j := 2) X (by decide +kernel) rfl) <|
  mF (sn_ineg (pc := 143) X (by decide +kernel)) <|
  mF (sn_iload (pc := 144) X (by decide +kernel)) <|
  mF (sn_iload_n (pc := 146) (j := 2) X (by decide +kernel) rfl) <|
  mF (sn_ineg (pc := 147) X (by decide +kernel)) <|
  mF (sn_callV (pc := 148) X mc_X11_changes (me_X11_changes l B) yi_X11_changes wd_1201 wd_1203 wd_39 (T := TX11) (N := 22) rfl (by decide) (by decide +kernel)) <|
  mF (sn_if_eq (pc := 151) (off := 5) X (by decide +kernel) (by decide)) <|
  mF (sn_iconst (pc := 154) (n := 1) X (by decide +kernel) (by decide)) <|
  mF (sn_zret (pc := 155) X hr hk (by decide +kernel)) <|
  mF (sn_iinc (pc := 156) (n := 1) X (by decide +kernel) (by decide) (by decide)) <|
  mF (sn_goto (pc := 159) (off := (-71)) X (by decide +kernel) (by decide)) <|
  mF (sn_iinc (pc := 162) (n := 1) X (by decide +kernel) (by decide) (by decide)) <|
  mF (sn_goto (pc := 165) (off := (-89)) X (by decide +kernel) (by decide)) <|
  mF (sn_iconst (pc := 168) (n := 0) X (by decide +kernel) (by decide)) <|
  mF (sn_zret (pc := 169) X hr hk (by decide +kernel)) <|
  mF0
theorem sd_X11_step (l : Launch) (B : mBs) (p : Program) (e : Env) (s : State) (m : MethodId) (args : Array Value) (below : List Frame) (meth : Method) (c : Code) (Q : mQo) (X : mCx l B RX11 cX11_step 6 p s m args c) (hr : meth.sig.returnType = (some .boolean)) (hk : meth.locks = false) (hn : meth.name = "step") : ∀ q ∈ tb_X11_step, mSnd l B 6 p e (mRm 7 0 0) s m args below meth c (MQ below (mPo B Q) args s 0 0 (mA B)) (fun r h' => (h'.1.2.1 ≤ 0 ∧ h'.1.2.2 ≤ 0) ∧ Q r h') q.2 q.1 := mFA (sd_X11_step_c0 l B p e s m args below meth c Q X hr hk hn) (sd_X11_step_c1 l B p e s m args below meth c Q X hr hk hn)
theorem me_X11_step (l : Launch) (B : mBs) : mMet l B yX11_step cX11_step 6 (some .boolean) 7 0 0 C_X11_step := mMet_of (own := RX11) (by decide) rfl (fun p e s m args below meth c Q X hr hk hn => sd_X11_step l B p e s m args below meth c Q X hr hk hn)
/-! PuppetStageModel.restOf(II)I: 13 instructions, depth 8, makes 0 cells of 0 slots -/
def tb_X11_restOf : mTb := [(0, aPI 0 1), (1, aSI 3 2), (2, aLI 3 3), (3, aLI 2 4), (4, aIc (fun x y => y ≤ x) 21 7), (7, aLA 0 8), (8, aLI 1 9), (9, aCV 11 1 C_X11_step 12), (12, aIf (fun x => x = 0) 21 15), (15, aInc 3 1 18), (18, aGo 2), (21, aLI 3 22), (22, aRI)]
theorem mt_X11_restOf : mMT tb_X11_restOf :=
  mF (mn_PI _ _) <|
  mF (mn_SI _ _) <|
  mF (mn_LI _ _) <|
  mF (mn_LI _ _) <|
  mF (mn_Ic _ _ _) <|
  mF (mn_LA _ _) <|
  mF (mn_LI _ _) <|
  mF (mn_CV _ _ mc_X11_step _) <|
  mF (mn_If _ _ _) <|
  mF (mn_Inc _ _ _) <|
  mF (mn_Go _) <|
  mF (mn_LI _ _) <|
  mF (mn_RI) <|
  mF0
def C_X11_restOf : mCo := mRun tb_X11_restOf 4
theorem mc_X11_restOf : mMC C_X11_restOf := mRun_mn mt_X11_restOf 4
theorem yi_X11_restOf : mYin yX11_restOf cX11_restOf 4 (some .int) 2 := ⟨wd_60, wd_1192, by decide +kernel, by decide⟩
set_option maxRecDepth 100000 in
set_option maxHeartbeats 4000000 in
theorem sd_X11_restOf (l : Launch) (B : mBs) (p : Program) (e : Env) (s : State) (m : MethodId) (args : Array Value) (below : List Frame) (meth : Method) (c : Code) (Q : mQo) (X : mCx l B RX11 cX11_restOf 4 p s m args c) (hr : meth.sig.returnType = (some .int)) (hk : meth.locks = false) (hn : meth.name = "restOf") : ∀ q ∈ tb_X11_restOf, mSnd l B 4 p e (mRm 8 0 0) s m args below meth c (MQ below (mPo B Q) args s 0 0 (mA B)) (fun r h' => (h'.1.2.1 ≤ 0 ∧ h'.1.2.2 ≤ 0) ∧ Q r h') q.2 q.1 :=
  mF (sn_iconst (pc := 0) (n := 0) X (by decide +kernel) (by decide)) <|
  mF (sn_istore_n (pc := 1) (j := 3) X (by decide +kernel) rfl (by decide)) <|
  mF (sn_iload_n (pc := 2) (j := 3) X (by decide +kernel) rfl) <|
  mF (sn_iload_n (pc := 3) (j := 2) X (by decide +kernel) rfl) <|
  mF (sn_icmp_ge (pc := 4) (off := 17) X (by decide +kernel) (by decide)) <|
  mF (sn_aload_n (pc := 7) (j := 0) X (by decide +kernel) rfl) <|
  mF (sn_iload_n (pc := 8) (j := 1) X (by decide +kernel) rfl) <|
  mF (sn_callV (pc := 9) X mc_X11_step (me_X11_step l B) yi_X11_step wd_1193 wd_1195 wd_37 (T := TX11) (N := 22) rfl (by decide) (by decide +kernel)) <|
  mF (sn_if_eq (pc := 12) (off := 9) X (by decide +kernel) (by decide)) <|
  mF (sn_iinc (pc := 15) (n := 1) X (by decide +kernel) (by decide) (by decide)) <|
  mF (sn_goto (pc := 18) (off := (-16)) X (by decide +kernel) (by decide)) <|
  mF (sn_iload_n (pc := 21) (j := 3) X (by decide +kernel) rfl) <|
  mF (sn_iret (pc := 22) X hr hk (by decide +kernel)) <|
  mF0
theorem me_X11_restOf (l : Launch) (B : mBs) : mMet l B yX11_restOf cX11_restOf 4 (some .int) 8 0 0 C_X11_restOf := mMet_of (own := RX11) (by decide) rfl (fun p e s m args below meth c Q X hr hk hn => sd_X11_restOf l B p e s m args below meth c Q X hr hk hn)
/-! PuppetStageModel.rest(II)J: 26 instructions, depth 9, makes 0 cells of 0 slots -/
def tb_X11_rest : mTb := [(0, aLI 1 1), (1, aCS 1 C_X11_isPuppet 4), (4, aIf (fun x => x = 0) 18 7), (7, aLI 2 8), (8, aPI 1 9), (9, aPI 300 12), (12, aCS 3 C_X11_isIn 15), (15, aIf (fun x => x = 0) 18 22), (18, aPL (-9000000000000000001) 21), (21, aRL), (22, aLA 0 23), (23, aCV 11 0 C_X11_keep 26), (26, aLA 0 27), (27, aLI 1 28), (28, aLI 2 29), (29, aCV 11 2 C_X11_restOf 32), (32, aSI 3 33), (33, aLA 0 34), (34, aDup 35), (35, aGI 11 3 38), (38, aLI 3 39), (39, aB (fun x y => x + y) 40), (40, aWI 11 3 43), (43, aLI 3 44), (44, aI2L 45), (45, aRL)]
theorem mt_X11_rest : mMT tb_X11_rest :=
  mF (mn_LI _ _) <|
  mF (mn_CS _ mc_X11_isPuppet _) <|
  mF (mn_If _ _ _) <|
  mF (mn_LI _ _) <|
  mF (mn_PI _ _) <|
  mF (mn_PI _ _) <|
  mF (mn_CS _ mc_X11_isIn _) <|
  mF (mn_If _ _ _) <|
  mF (mn_PL _ _) <|
  mF (mn_RL) <|
  mF (mn_LA _ _) <|
  mF (mn_CV _ _ mc_X11_keep _) <|
  mF (mn_LA _ _) <|
  mF (mn_LI _ _) <|
  mF (mn_LI _ _) <|
  mF (mn_CV _ _ mc_X11_restOf _) <|
  mF (mn_SI _ _) <|
  mF (mn_LA _ _) <|
  mF (mn_Dup _) <|
  mF (mn_GI _ _ _) <|
  mF (mn_LI _ _) <|
  mF (mn_B _ _) <|
  mF (mn_WI _ _ _) <|
  mF (mn_LI _ _) <|
  mF (mn_I2L _) <|
  mF (mn_RL) <|
  mF0
def C_X11_rest : mCo := mRun tb_X11_rest 4
theorem mc_X11_rest : mMC C_X11_rest := mRun_mn mt_X11_rest 4
theorem yi_X11_rest : mYin yX11_rest cX11_rest 4 (some .long) 2 := ⟨wd_60, wd_1188, by decide +kernel, by decide⟩
set_option maxRecDepth 100000 in
set_option maxHeartbeats 4000000 in
theorem sd_X11_rest (l : Launch) (B : mBs) (p : Program) (e : Env) (s : State) (m : MethodId) (args : Array Value) (below : List Frame) (meth : Method) (c : Code) (Q : mQo) (X : mCx l B RX11 cX11_rest 4 p s m args c) (hr : meth.sig.returnType = (some .long)) (hk : meth.locks = false) (hn : meth.name = "rest") : ∀ q ∈ tb_X11_rest, mSnd l B 4 p e (mRm 9 0 0) s m args below meth c (MQ below (mPo B Q) args s 0 0 (mA B)) (fun r h' => (h'.1.2.1 ≤ 0 ∧ h'.1.2.2 ≤ 0) ∧ Q r h') q.2 q.1 :=
  mF (sn_iload_n (pc := 0) (j := 1) X (by decide +kernel) rfl) <|
  mF (sn_callS (pc := 1) X mc_X11_isPuppet (me_X11_isPuppet l B) yi_X11_isPuppet wd_989 wd_990 (by decide) (by decide +kernel)) <|
  mF (sn_if_eq (pc := 4) (off := 14) X (by decide +kernel) (by decide)) <|
  mF (sn_iload_n (pc := 7) (j := 2) X (by decide +kernel) rfl) <|
  mF (sn_iconst (pc := 8) (n := 1) X (by decide +kernel) (by decide)) <|
  mF (sn_sipush (pc := 9) (n := 300) X (by decide +kernel) (by decide)) <|
  mF (sn_callS (pc := 12) X mc_X11_isIn (me_X11_isIn l B) yi_X11_isIn wd_992 wd_993 (by decide) (by decide +kernel)) <|
  mF (sn_if_ne (pc := 15) (off := 7) X (by decide +kernel) (by decide)) <|
  mF (sn_ldc2 (pc := 18) X (by decide +kernel) wd_999) <|
  mF (sn_lret (pc := 21) X hr hk (by decide +kernel)) <|
  mF (sn_aload_n (pc := 22) (j := 0) X (by decide +kernel) rfl) <|
  mF (sn_callV (pc := 23) X mc_X11_keep (me_X11_keep l B) yi_X11_keep wd_1009 wd_1011 wd_15 (T := TX11) (N := 22) rfl (by decide) (by decide +kernel)) <|
  mF (sn_aload_n (pc := 26) (j := 0) X (by decide +kernel) rfl) <|
  mF (sn_iload_n (pc := 27) (j := 1) X (by decide +kernel) rfl) <|
  mF (sn_iload_n (pc := 28) (j := 2) X (by decide +kernel) rfl) <|
  mF (sn_callV (pc := 29) X mc_X11_restOf (me_X11_restOf l B) yi_X11_restOf wd_1189 wd_1191 wd_36 (T := TX11) (N := 22) rfl (by decide) (by decide +kernel)) <|
  mF (sn_istore_n (pc := 32) (j := 3) X (by decide +kernel) rfl (by decide)) <|
  mF (sn_aload_n (pc := 33) (j := 0) X (by decide +kernel) rfl) <|
  mF (sn_dup (pc := 34) X (by decide +kernel)) <|
  mF (sn_getI (pc := 35) X fd_X11_193 (by decide +kernel)) <|
  mF (sn_iload_n (pc := 38) (j := 3) X (by decide +kernel) rfl) <|
  mF (sn_iadd (pc := 39) X (by decide +kernel)) <|
  mF (sn_putI (pc := 40) X fd_X11_193 ⟨tyX11_ok, nmX11⟩ rfl rfl (by decide +kernel)) <|
  mF (sn_iload_n (pc := 43) (j := 3) X (by decide +kernel) rfl) <|
  mF (sn_i2l (pc := 44) X (by decide +kernel)) <|
  mF (sn_lret (pc := 45) X hr hk (by decide +kernel)) <|
  mF0
theorem me_X11_rest (l : Launch) (B : mBs) : mMet l B yX11_rest cX11_rest 4 (some .long) 9 0 0 C_X11_rest := mMet_of (own := RX11) (by decide) rfl (fun p e s m args below meth c Q X hr hk hn => sd_X11_rest l B p e s m args below meth c Q X hr hk hn)
/-! PuppetStageModel.noteBends(I)V: 18 instructions, depth 1, makes 0 cells of 0 slots -/
def tb_X11_noteBends : mTb := [(0, aPI 0 1), (1, aSI 2 2), (2, aLI 2 3), (3, aPI 6 5), (5, aIc (fun x y => y ≤ x) 29 8), (8, aLA 0 9), (9, aGR 11 12 12), (12, aLI 2 13), (13, aLA 0 14), (14, aLI 1 15), (15, aPI 19 17), (17, aLI 2 18), (18, aB (fun x y => x + y) 19), (19, aCV 11 2 C_X11_get 22), (22, aIS 23), (23, aInc 2 1 26), (26, aGo 2), (29, aRV)]
theorem mt_X11_noteBends : mMT tb_X11_noteBends :=
  mF (mn_PI _ _) <|
  mF (mn_SI _ _) <|
  mF (mn_LI _ _) <|
  mF (mn_PI _ _) <|
  mF (mn_Ic _ _ _) <|
  mF (mn_LA _ _) <|
  mF (mn_GR _ _ _) <|
  mF (mn_LI _ _) <|
  mF (mn_LA _ _) <|
  mF (mn_LI _ _) <|
  mF (mn_PI _ _) <|
  mF (mn_LI _ _) <|
  mF (mn_B _ _) <|
  mF (mn_CV _ _ mc_X11_get _) <|
  mF (mn_IS _) <|
  mF (mn_Inc _ _ _) <|
  mF (mn_Go _) <|
  mF (mn_RV) <|
  mF0
def C_X11_noteBends : mCo := mRun tb_X11_noteBends 3
theorem mc_X11_noteBends : mMC C_X11_noteBends := mRun_mn mt_X11_noteBends 3
theorem yi_X11_noteBends : mYin yX11_noteBends cX11_noteBends 3 none 1 := ⟨wd_60, wd_1216, by decide +kernel, by decide⟩
set_option maxRecDepth 100000 in
set_option maxHeartbeats 4000000 in
theorem sd_X11_noteBends (l : Launch) (B : mBs) (p : Program) (e : Env) (s : State) (m : MethodId) (args : Array Value) (below : List Frame) (meth : Method) (c : Code) (Q : mQo) (X : mCx l B RX11 cX11_noteBends 3 p s m args c) (hr : meth.sig.returnType = none) (hk : meth.locks = false) (hn : meth.name = "noteBends") : ∀ q ∈ tb_X11_noteBends, mSnd l B 3 p e (mRm 1 0 0) s m args below meth c (MQ below (mPo B Q) args s 0 0 (mA B)) (fun r h' => (h'.1.2.1 ≤ 0 ∧ h'.1.2.2 ≤ 0) ∧ Q r h') q.2 q.1 :=
  mF (sn_iconst (pc := 0) (n := 0) X (by decide +kernel) (by decide)) <|
  mF (sn_istore_n (pc := 1) (j := 2) X (by decide +kernel) rfl (by decide)) <|
  mF (sn_iload_n (pc := 2) (j := 2) X (by decide +kernel) rfl) <|
  mF (sn_bipush (pc := 3) (n := 6) X (by decide +kernel) (by decide)) <|
  mF (sn_icmp_ge (pc := 5) (off := 24) X (by decide +kernel) (by decide)) <|
  mF (sn_aload_n (pc := 8) (j := 0) X (by decide +kernel) rfl) <|
  mF (sn_getR (pc := 9) X fd_X11_35 (by decide +kernel)) <|
  mF (sn_iload_n (pc := 12) (j := 2) X (by decide +kernel) rfl) <|
  mF (sn_aload_n (pc := 13) (j := 0) X (by decide +kernel) rfl) <|
  mF (sn_iload_n (pc := 14) (j := 1) X (by decide +kernel) rfl) <|
  mF (sn_bipush (pc := 15) (n := 19) X (by decide +kernel) (by decide)) <|
  mF (sn_iload_n (pc := 17) (j := 2) X (by decide +kernel) rfl) <|
  mF (sn_iadd (pc := 18) X (by decide +kernel)) <|
  mF (sn_callV (pc := 19) X mc_X11_get (me_X11_get l B) yi_X11_get wd_995 wd_997 wd_12 (T := TX11) (N := 22) rfl (by decide) (by decide +kernel)) <|
  mF (sn_iastore (pc := 22) X (by decide +kernel)) <|
  mF (sn_iinc (pc := 23) (n := 1) X (by decide +kernel) (by decide) (by decide)) <|
  mF (sn_goto (pc := 26) (off := (-24)) X (by decide +kernel) (by decide)) <|
  mF (sn_vret (pc := 29) X hr hk (by decide +kernel)) <|
  mF0
theorem me_X11_noteBends (l : Launch) (B : mBs) : mMet l B yX11_noteBends cX11_noteBends 3 none 1 0 0 C_X11_noteBends := mMet_of (own := RX11) (by decide) rfl (fun p e s m args below meth c Q X hr hk hn => sd_X11_noteBends l B p e s m args below meth c Q X hr hk hn)
/-! PuppetStageModel.bringBends(I)V: 18 instructions, depth 1, makes 0 cells of 0 slots -/
def tb_X11_bringBends : mTb := [(0, aPI 0 1), (1, aSI 2 2), (2, aLI 2 3), (3, aPI 6 5), (5, aIc (fun x y => y ≤ x) 29 8), (8, aLA 0 9), (9, aLI 1 10), (10, aPI 19 12), (12, aLI 2 13), (13, aB (fun x y => x + y) 14), (14, aLA 0 15), (15, aGR 11 12 18), (18, aLI 2 19), (19, aIA 20), (20, aCV 11 3 C_X11_put 23), (23, aInc 2 1 26), (26, aGo 2), (29, aRV)]
theorem mt_X11_bringBends : mMT tb_X11_bringBends :=
  mF (mn_PI _ _) <|
  mF (mn_SI _ _) <|
  mF (mn_LI _ _) <|
  mF (mn_PI _ _) <|
  mF (mn_Ic _ _ _) <|
  mF (mn_LA _ _) <|
  mF (mn_LI _ _) <|
  mF (mn_PI _ _) <|
  mF (mn_LI _ _) <|
  mF (mn_B _ _) <|
  mF (mn_LA _ _) <|
  mF (mn_GR _ _ _) <|
  mF (mn_LI _ _) <|
  mF (mn_IA _) <|
  mF (mn_CV _ _ mc_X11_put _) <|
  mF (mn_Inc _ _ _) <|
  mF (mn_Go _) <|
  mF (mn_RV) <|
  mF0
def C_X11_bringBends : mCo := mRun tb_X11_bringBends 3
theorem mc_X11_bringBends : mMC C_X11_bringBends := mRun_mn mt_X11_bringBends 3
theorem yi_X11_bringBends : mYin yX11_bringBends cX11_bringBends 3 none 1 := ⟨wd_60, wd_1220, by decide +kernel, by decide⟩
set_option maxRecDepth 100000 in
set_option maxHeartbeats 4000000 in
theorem sd_X11_bringBends (l : Launch) (B : mBs) (p : Program) (e : Env) (s : State) (m : MethodId) (args : Array Value) (below : List Frame) (meth : Method) (c : Code) (Q : mQo) (X : mCx l B RX11 cX11_bringBends 3 p s m args c) (hr : meth.sig.returnType = none) (hk : meth.locks = false) (hn : meth.name = "bringBends") : ∀ q ∈ tb_X11_bringBends, mSnd l B 3 p e (mRm 1 0 0) s m args below meth c (MQ below (mPo B Q) args s 0 0 (mA B)) (fun r h' => (h'.1.2.1 ≤ 0 ∧ h'.1.2.2 ≤ 0) ∧ Q r h') q.2 q.1 :=
  mF (sn_iconst (pc := 0) (n := 0) X (by decide +kernel) (by decide)) <|
  mF (sn_istore_n (pc := 1) (j := 2) X (by decide +kernel) rfl (by decide)) <|
  mF (sn_iload_n (pc := 2) (j := 2) X (by decide +kernel) rfl) <|
  mF (sn_bipush (pc := 3) (n := 6) X (by decide +kernel) (by decide)) <|
  mF (sn_icmp_ge (pc := 5) (off := 24) X (by decide +kernel) (by decide)) <|
  mF (sn_aload_n (pc := 8) (j := 0) X (by decide +kernel) rfl) <|
  mF (sn_iload_n (pc := 9) (j := 1) X (by decide +kernel) rfl) <|
  mF (sn_bipush (pc := 10) (n := 19) X (by decide +kernel) (by decide)) <|
  mF (sn_iload_n (pc := 12) (j := 2) X (by decide +kernel) rfl) <|
  mF (sn_iadd (pc := 13) X (by decide +kernel)) <|
  mF (sn_aload_n (pc := 14) (j := 0) X (by decide +kernel) rfl) <|
  mF (sn_getR (pc := 15) X fd_X11_35 (by decide +kernel)) <|
  mF (sn_iload_n (pc := 18) (j := 2) X (by decide +kernel) rfl) <|
  mF (sn_iaload (pc := 19) X (by decide +kernel)) <|
  mF (sn_callV (pc := 20) X mc_X11_put (me_X11_put l B) yi_X11_put wd_1013 wd_1015 wd_16 (T := TX11) (N := 22) rfl (by decide) (by decide +kernel)) <|
  mF (sn_iinc (pc := 23) (n := 1) X (by decide +kernel) (by decide) (by decide)) <|
  mF (sn_goto (pc := 26) (off := (-24)) X (by decide +kernel) (by decide)) <|
  mF (sn_vret (pc := 29) X hr hk (by decide +kernel)) <|
  mF0
theorem me_X11_bringBends (l : Launch) (B : mBs) : mMet l B yX11_bringBends cX11_bringBends 3 none 1 0 0 C_X11_bringBends := mMet_of (own := RX11) (by decide) rfl (fun p e s m args below meth c Q X hr hk hn => sd_X11_bringBends l B p e s m args below meth c Q X hr hk hn)
/-! PuppetStageModel.isStill(I)J: 21 instructions, depth 8, makes 0 cells of 0 slots -/
def tb_X11_isStill : mTb := [(0, aLI 1 1), (1, aCS 1 C_X11_isPuppet 4), (4, aIf (fun x => x = 0) 7 11), (7, aPL (-9000000000000000001) 10), (10, aRL), (11, aLA 0 12), (12, aLI 1 13), (13, aCV 11 1 C_X11_noteBends 16), (16, aLA 0 17), (17, aLI 1 18), (18, aCV 11 1 C_X11_step 21), (21, aSI 2 22), (22, aLA 0 23), (23, aLI 1 24), (24, aCV 11 1 C_X11_bringBends 27), (27, aLI 2 28), (28, aIf (fun x => x = 0) 35 31), (31, aPL 0 32), (32, aGo 36), (35, aPL 1 36), (36, aRL)]
theorem mt_X11_isStill : mMT tb_X11_isStill :=
  mF (mn_LI _ _) <|
  mF (mn_CS _ mc_X11_isPuppet _) <|
  mF (mn_If _ _ _) <|
  mF (mn_PL _ _) <|
  mF (mn_RL) <|
  mF (mn_LA _ _) <|
  mF (mn_LI _ _) <|
  mF (mn_CV _ _ mc_X11_noteBends _) <|
  mF (mn_LA _ _) <|
  mF (mn_LI _ _) <|
  mF (mn_CV _ _ mc_X11_step _) <|
  mF (mn_SI _ _) <|
  mF (mn_LA _ _) <|
  mF (mn_LI _ _) <|
  mF (mn_CV _ _ mc_X11_bringBends _) <|
  mF (mn_LI _ _) <|
  mF (mn_If _ _ _) <|
  mF (mn_PL _ _) <|
  mF (mn_Go _) <|
  mF (mn_PL _ _) <|
  mF (mn_RL) <|
  mF0
def C_X11_isStill : mCo := mRun tb_X11_isStill 3
theorem mc_X11_isStill : mMC C_X11_isStill := mRun_mn mt_X11_isStill 3
theorem yi_X11_isStill : mYin yX11_isStill cX11_isStill 3 (some .long) 1 := ⟨wd_60, wd_1212, by decide +kernel, by decide⟩
set_option maxRecDepth 100000 in
set_option maxHeartbeats 4000000 in
theorem sd_X11_isStill (l : Launch) (B : mBs) (p : Program) (e : Env) (s : State) (m : MethodId) (args : Array Value) (below : List Frame) (meth : Method) (c : Code) (Q : mQo) (X : mCx l B RX11 cX11_isStill 3 p s m args c) (hr : meth.sig.returnType = (some .long)) (hk : meth.locks = false) (hn : meth.name = "isStill") : ∀ q ∈ tb_X11_isStill, mSnd l B 3 p e (mRm 8 0 0) s m args below meth c (MQ below (mPo B Q) args s 0 0 (mA B)) (fun r h' => (h'.1.2.1 ≤ 0 ∧ h'.1.2.2 ≤ 0) ∧ Q r h') q.2 q.1 :=
  mF (sn_iload_n (pc := 0) (j := 1) X (by decide +kernel) rfl) <|
  mF (sn_callS (pc := 1) X mc_X11_isPuppet (me_X11_isPuppet l B) yi_X11_isPuppet wd_989 wd_990 (by decide) (by decide +kernel)) <|
  mF (sn_if_ne (pc := 4) (off := 7) X (by decide +kernel) (by decide)) <|
  mF (sn_ldc2 (pc := 7) X (by decide +kernel) wd_999) <|
  mF (sn_lret (pc := 10) X hr hk (by decide +kernel)) <|
  mF (sn_aload_n (pc := 11) (j := 0) X (by decide +kernel) rfl) <|
  mF (sn_iload_n (pc := 12) (j := 1) X (by decide +kernel) rfl) <|
  mF (sn_callV (pc := 13) X mc_X11_noteBends (me_X11_noteBends l B) yi_X11_noteBends wd_1213 wd_1215 wd_41 (T := TX11) (N := 22) rfl (by decide) (by decide +kernel)) <|
  mF (sn_aload_n (pc := 16) (j := 0) X (by decide +kernel) rfl) <|
  mF (sn_iload_n (pc := 17) (j := 1) X (by decide +kernel) rfl) <|
  mF (sn_callV (pc := 18) X mc_X11_step (me_X11_step l B) yi_X11_step wd_1193 wd_1195 wd_37 (T := TX11) (N := 22) rfl (by decide) (by decide +kernel)) <|
  mF (sn_istore_n (pc := 21) (j := 2) X (by decide +kernel) rfl (by decide)) <|
  mF (sn_aload_n (pc := 22) (j := 0) X (by decide +kernel) rfl) <|
  mF (sn_iload_n (pc := 23) (j := 1) X (by decide +kernel) rfl) <|
  mF (sn_callV (pc := 24) X mc_X11_bringBends (me_X11_bringBends l B) yi_X11_bringBends wd_1217 wd_1219 wd_42 (T := TX11) (N := 22) rfl (by decide) (by decide +kernel)) <|
  mF (sn_iload_n (pc := 27) (j := 2) X (by decide +kernel) rfl) <|
  mF (sn_if_eq (pc := 28) (off := 7) X (by decide +kernel) (by decide)) <|
  mF (sn_lconst (pc := 31) (n := 0) X (by decide +kernel) (by decide)) <|
  mF (sn_goto (pc := 32) (off := 4) X (by decide +kernel) (by decide)) <|
  mF (sn_lconst (pc := 35) (n := 1) X (by decide +kernel) (by decide)) <|
  mF (sn_lret (pc := 36) X hr hk (by decide +kernel)) <|
  mF0
theorem me_X11_isStill (l : Launch) (B : mBs) : mMet l B yX11_isStill cX11_isStill 3 (some .long) 8 0 0 C_X11_isStill := mMet_of (own := RX11) (by decide) rfl (fun p e s m args below meth c Q X hr hk hn => sd_X11_isStill l B p e s m args below meth c Q X hr hk hn)
