/-! PuppetStageModel.tangle(I)J: 81 instructions, depth 3, makes 0 cells of 0 slots -/
def tb_X11_tangle_c0 : mTb := [(0, aLI 1 1), (1, aCS 1 C_X11_isPuppet 4), (4, aIf (fun x => x = 0) 7 11), (7, aPL (-9000000000000000001) 10), (10, aRL), (11, aLA 0 12), (12, aLI 1 13), (13, aCV 11 1 C_X11_lay 16), (16, aPI 0 17), (17, aSI 2 18), (18, aLI 2 19), (19, aLA 0 20), (20, aLI 1 21), (21, aPI 55 23), (23, aCV 11 2 C_X11_get 26), (26, aIc (fun x y => y ≤ x) 139 29), (29, aLI 2 30), (30, aPI 1 31), (31, aB (fun x y => x + y) 32), (32, aSI 3 33), (33, aLI 3 34), (34, aLA 0 35), (35, aLI 1 36), (36, aPI 55 38), (38, aCV 11 2 C_X11_get 41), (41, aIc (fun x y => y ≤ x) 133 44), (44, aLA 0 45), (45, aLI 1 46), (46, aLI 2 47), (47, aPI 0 48), (48, aCV 11 3 C_X11_of 51), (51, aPI 4 52), (52, aIc (fun x y => y ≤ x) 127 55), (55, aLA 0 56), (56, aLI 1 57), (57, aLI 3 58), (58, aPI 0 59), (59, aCV 11 3 C_X11_of 62), (62, aPI 4 63), (63, aIc (fun x y => y ≤ x) 127 66), (66, aLA 0 67), (67, aLI 1 68), (68, aLI 3 69), (69, aCV 11 2 C_X11_lineA 72), (72, aLA 0 73), (73, aLA 0 74), (74, aGL 11 14 77), (77, aWL 11 18 80), (80, aLA 0 81), (81, aLA 0 82), (82, aGL 11 15 85), (85, aWL 11 19 88), (88, aLA 0 89), (89, aLA 0 90), (90, aGL 11 16 93), (93, aWL 11 20 96), (96, aLA 0 97), (97, aLA 0 98), (98, aGL 11 17 101), (101, aWL 11 21 104), (104, aLA 0 105), (105, aLI 1 106), (106, aLI 2 107), (107, aCV 11 2 C_X11_lineA 110), (110, aLA 0 111), (111, aCV 11 0 C_X11_crosses 114), (114, aIf (fun x => x = 0) 127 117), (117, aPL 12 120), (120, aLI 2 121), (121, aI2L 122)]
theorem mt_X11_tangle_c0 : mMT tb_X11_tangle_c0 :=
  mF (mn_LI _ _) <|
  mF (mn_CS _ mc_X11_isPuppet _) <|
  mF (mn_If _ _ _) <|
  mF (mn_PL _ _) <|
  mF (mn_RL) <|
  mF (mn_LA _ _) <|
  mF (mn_LI _ _) <|
  mF (mn_CV _ _ mc_X11_lay _) <|
  mF (mn_PI _ _) <|
  mF (mn_SI _ _) <|
  mF (mn_LI _ _) <|
  mF (mn_LA _ _) <|
  mF (mn_LI _ _) <|
  mF (mn_PI _ _) <|
  mF (mn_CV _ _ mc_X11_get _) <|
  mF (mn_Ic _ _ _) <|
  mF (mn_LI _ _) <|
  mF (mn_PI _ _) <|
  mF (mn_B _ _) <|
  mF (mn_SI _ _) <|
  mF (mn_LI _ _) <|
  mF (mn_LA _ _) <|
  mF (mn_LI _ _) <|
  mF (mn_PI _ _) <|
  mF (mn_CV _ _ mc_X11_get _) <|
  mF (mn_Ic _ _ _) <|
  mF (mn_LA _ _) <|
  mF (mn_LI _ _) <|
  mF (mn_LI _ _) <|
  mF (mn_PI _ _) <|
  mF (mn_CV _ _ mc_X11_of _) <|
  mF (mn_PI _ _) <|
  mF (mn_Ic _ _ _) <|
  mF (mn_LA _ _) <|
  mF (mn_LI _ _) <|
  mF (mn_LI _ _) <|
  mF (mn_PI _ _) <|
  mF (mn_CV _ _ mc_X11_of _) <|
  mF (mn_PI _ _) <|
  mF (mn_Ic _ _ _) <|
  mF (mn_LA _ _) <|
  mF (mn_LI _ _) <|
  mF (mn_LI _ _) <|
  mF (mn_CV _ _ mc_X11_lineA _) <|
  mF (mn_LA _ _) <|
  mF (mn_LA _ _) <|
  mF (mn_GL _ _ _) <|
  mF (mn_WL _ _ _) <|
  mF (mn_LA _ _) <|
  mF (mn_LA _ _) <|
  mF (mn_GL _ _ _) <|
  mF (mn_WL _ _ _) <|
  mF (mn_LA _ _) <|
  mF (mn_LA _ _) <|
  mF (mn_GL _ _ _) <|
  mF (mn_WL _ _ _) <|
  mF (mn_LA _ _) <|
  mF (mn_LA _ _) <|
  mF (mn_GL _ _ _) <|
  mF (mn_WL _ _ _) <|
  mF (mn_LA _ _) <|
  mF (mn_LI _ _) <|
  mF (mn_LI _ _) <|
  mF (mn_CV _ _ mc_X11_lineA _) <|
  mF (mn_LA _ _) <|
  mF (mn_CV _ _ mc_X11_crosses _) <|
  mF (mn_If _ _ _) <|
  mF (mn_PL _ _) <|
  mF (mn_LI _ _) <|
  mF (mn_I2L _) <|
  mF0
def tb_X11_tangle_c1 : mTb := [(122, aBL (fun x y => x * y) 123), (123, aLI 3 124), (124, aI2L 125), (125, aBL (fun x y => x + y) 126), (126, aRL), (127, aInc 3 1 130), (130, aGo 33), (133, aInc 2 1 136), (136, aGo 18), (139, aPL (-9000000000000000005) 142), (142, aRL)]
theorem mt_X11_tangle_c1 : mMT tb_X11_tangle_c1 :=
  mF (mn_BL _ _) <|
  mF (mn_LI _ _) <|
  mF (mn_I2L _) <|
  mF (mn_BL _ _) <|
  mF (mn_RL) <|
  mF (mn_Inc _ _ _) <|
  mF (mn_Go _) <|
  mF (mn_Inc _ _ _) <|
  mF (mn_Go _) <|
  mF (mn_PL _ _) <|
  mF (mn_RL) <|
  mF0
def tb_X11_tangle : mTb := tb_X11_tangle_c0 ++ (tb_X11_tangle_c1)
theorem mt_X11_tangle : mMT tb_X11_tangle := mFA mt_X11_tangle_c0 mt_X11_tangle_c1
def C_X11_tangle : mCo := mRun tb_X11_tangle 4
theorem mc_X11_tangle : mMC C_X11_tangle := mRun_mn mt_X11_tangle 4
theorem yi_X11_tangle : mYin yX11_tangle cX11_tangle 4 (some .long) 1 := ⟨wd_60, wd_1253, by decide +kernel, by decide⟩
set_option maxRecDepth 100000 in
set_option maxHeartbeats 4000000 in
theorem sd_X11_tangle_c0 (l : Launch) (B : mBs) (p : Program) (e : Env) (s : State) (m : MethodId) (args : Array Value) (below : List Frame) (meth : Method) (c : Code) (Q : mQo) (X : mCx l B RX11 cX11_tangle 4 p s m args c) (hr : meth.sig.returnType = (some .long)) (hk : meth.locks = false) (hn : meth.name = "tangle") : ∀ q ∈ tb_X11_tangle_c0, mSnd l B 4 p e (mRm 3 0 0) s m args below meth c (MQ below (mPo B Q) args s 0 0 (mA B)) (fun r h' => (h'.1.2.1 ≤ 0 ∧ h'.1.2.2 ≤ 0) ∧ Q r h') q.2 q.1 :=
  mF (sn_iload_n (pc := 0) (j := 1) X (by decide +kernel) rfl) <|
  mF (sn_callS (pc := 1) X mc_X11_isPuppet (me_X11_isPuppet l B) yi_X11_isPuppet wd_989 wd_990 (by decide) (by decide +kernel)) <|
  mF (sn_if_ne (pc := 4) (off := 7) X (by decide +kernel) (by decide)) <|
  mF (sn_ldc2 (pc := 7) X (by decide +kernel) wd_999) <|
  mF (sn_lret (pc := 10) X hr hk (by decide +kernel)) <|
  mF (sn_aload_n (pc := 11) (j := 0) X (by decide +kernel) rfl) <|
  mF (sn_iload_n (pc := 12) (j := 1) X (by decide +kernel) rfl) <|
  mF (sn_callV (pc := 13) X mc_X11_lay (me_X11_lay l B) yi_X11_lay wd_1083 wd_1085 wd_22 (T := TX11) (N := 22) rfl (by decide) (by decide +kernel)) <|
  mF (sn_iconst (pc := 16) (n := 0) X (by decide +kernel) (by decide)) <|
  mF (sn_istore_n (pc := 17) (j := 2) X (by decide +kernel) rfl (by decide)) <|
  mF (sn_iload_n (pc := 18) (j := 2) X (by decide +kernel) rfl) <|
  mF (sn_aload_n (pc := 19) (j := 0) X (by decide +kernel) rfl) <|
  mF (sn_iload_n (pc := 20) (j := 1) X (by decide +kernel) rfl) <|
  mF (sn_bipush (pc := 21) (n := 55) X (by decide +kernel) (by decide)) <|
  mF (sn_callV (pc := 23) X mc_X11_get (me_X11_get l B) yi_X11_get wd_995 wd_997 wd_12 (T := TX11) (N := 22) rfl (by decide) (by decide +kernel)) <|
  mF (sn_icmp_ge (pc := 26) (off := 113) X (by decide +kernel) (by decide)) <|
  mF (sn_iload_n (pc := 29) (j := 2) X (by decide +kernel) rfl) <|
  mF (sn_iconst (pc := 30) (n := 1) X (by decide +kernel) (by decide)) <|
  mF (sn_iadd (pc := 31) X (by decide +kernel)) <|
  mF (sn_istore_n (pc := 32) (j := 3) X (by decide +kernel) rfl (by decide)) <|
  mF (sn_iload_n (pc := 33) (j := 3) X (by decide +kernel) rfl) <|
  mF (sn_aload_n (pc := 34) (j := 0) X (by decide +kernel) rfl) <|
  mF (sn_iload_n (pc := 35) (j := 1) X (by decide +kernel) rfl) <|
  mF (sn_bipush (pc := 36) (n := 55) X (by decide +kernel) (by decide)) <|
  mF (sn_callV (pc := 38) X mc_X11_get (me_X11_get l B) yi_X11_get wd_995 wd_997 wd_12 (T := TX11) (N := 22) rfl (by decide) (by decide +kernel)) <|
  mF (sn_icmp_ge (pc := 41) (off := 92) X (by decide +kernel) (by decide)) <|
  mF (sn_aload_n (pc := 44) (j := 0) X (by decide +kernel) rfl) <|
  mF (sn_iload_n (pc := 45) (j := 1) X (by decide +kernel) rfl) <|
  mF (sn_iload_n (pc := 46) (j := 2) X (by decide +kernel) rfl) <|
  mF (sn_iconst (pc := 47) (n := 0) X (by decide +kernel) (by decide)) <|
  mF (sn_callV (pc := 48) X mc_X11_of (me_X11_of l B) yi_X11_of wd_1021 wd_1023 wd_17 (T := TX11) (N := 22) rfl (by decide) (by decide +kernel)) <|
  mF (sn_iconst (pc := 51) (n := 4) X (by decide +kernel) (by decide)) <|
  mF (sn_icmp_ge (pc := 52) (off := 75) X (by decide +kernel) (by decide)) <|
  mF (sn_aload_n (pc := 55) (j := 0) X (by decide +kernel) rfl) <|
  mF (sn_iload_n (pc := 56) (j := 1) X (by decide +kernel) rfl) <|
  mF (sn_iload_n (pc := 57) (j := 3) X (by decide +kernel) rfl) <|
  mF (sn_iconst (pc := 58) (n := 0) X (by decide +kernel) (by decide)) <|
  mF (sn_callV (pc := 59) X mc_X11_of (me_X11_of l B) yi_X11_of wd_1021 wd_1023 wd_17 (T := TX11) (N := 22) rfl (by decide) (by decide +kernel)) <|
  mF (sn_iconst (pc := 62) (n := 4) X (by decide +kernel) (by decide)) <|
  mF (sn_icmp_ge (pc := 63) (off := 64) X (by decide +kernel) (by decide)) <|
  mF (sn_aload_n (pc := 66) (j := 0) X (by decide +kernel) rfl) <|
  mF (sn_iload_n (pc := 67) (j := 1) X (by decide +kernel) rfl) <|
  mF (sn_iload_n (pc := 68) (j := 3) X (by decide +kernel) rfl) <|
  mF (sn_callV (pc := 69) X mc_X11_lineA (me_X11_lineA l B) yi_X11_lineA wd_1254 wd_1256 wd_43 (T := TX11) (N := 22) rfl (by decide) (by decide +kernel)) <|
  mF (sn_aload_n (pc := 72) (j := 0) X (by decide +kernel) rfl) <|
  mF (sn_aload_n (pc := 73) (j := 0) X (by decide +kernel) rfl) <|
  mF (sn_getL (pc := 74) X fd_X11_204 (by decide +kernel)) <|
  mF (sn_putL (pc := 77) X fd_X11_216 ⟨tyX11_ok, nmX11⟩ rfl rfl (by decide +kernel)) <|
  mF (sn_aload_n (pc := 80) (j := 0) X (by decide +kernel) rfl) <|
  mF (sn_aload_n (pc := 81) (j := 0) X (by decide +kernel) rfl) <|
  mF (sn_getL (pc := 82) X fd_X11_207 (by decide +kernel)) <|
  mF (sn_putL (pc := 85) X fd_X11_219 ⟨tyX11_ok, nmX11⟩ rfl rfl (by decide +kernel)) <|
  mF (sn_aload_n (pc := 88) (j := 0) X (by decide +kernel) rfl) <|
  mF (sn_aload_n (pc := 89) (j := 0) X (by decide +kernel) rfl) <|
  mF (sn_getL (pc := 90) X fd_X11_210 (by decide +kernel)) <|
  mF (sn_putL (pc := 93) X fd_X11_226 ⟨tyX11_ok, nmX11⟩ rfl rfl (by decide +kernel)) <|
  mF (sn_aload_n (pc := 96) (j := 0) X (by decide +kernel) rfl) <|
  mF (sn_aload_n (pc := 97) (j := 0) X (by decide +kernel) rfl) <|
  mF (sn_getL (pc := 98) X fd_X11_213 (by decide +kernel)) <|
  mF (sn_putL (pc := 101) X fd_X11_229 ⟨tyX11_ok, nmX11⟩ rfl rfl (by decide +kernel)) <|
  mF (sn_aload_n (pc := 104) (j := 0) X (by decide +kernel) rfl) <|
  mF (sn_iload_n (pc := 105) (j := 1) X (by decide +kernel) rfl) <|
  mF (sn_iload_n (pc := 106) (j := 2) X (by decide +kernel) rfl) <|
  mF (sn_callV (pc := 107) X mc_X11_lineA (me_X11_lineA l B) yi_X11_lineA wd_1254 wd_1256 wd_43 (T := TX11) (N := 22) rfl (by decide) (by decide +kernel)) <|
  mF (sn_aload_n (pc := 110) (j := 0) X (by decide +kernel) rfl) <|
  mF (sn_callV (pc := 111) X mc_X11_crosses (me_X11_crosses l B) yi_X11_crosses wd_1258 wd_1260 wd_44 (T := TX11) (N := 22) rfl (by decide) (by decide +kernel)) <|
  mF (sn_if_eq (pc := 114) (off := 13) X (by decide +kernel) (by decide)) <|
  mF (sn_ldc2 (pc := 117) X (by decide +kernel) wd_1265) <|
  mF (sn_iload_n (pc := 120) (j := 2) X (by decide +kernel) rfl) <|
  mF (sn_i2l (pc := 121) X (by decide +kernel)) <|
  mF0
set_option maxRecDepth 100000 in
set_option maxHeartbeats 4000000 in
theorem sd_X11_tangle_c1 (l : Launch) (B : mBs) (p : Program) (e : Env) (s : State) (m : MethodId) (args : Array Value) (below : List Frame) (meth : Method) (c : Code) (Q : mQo) (X : mCx l B RX11 cX11_tangle 4 p s m args c) (hr : meth.sig.returnType = (some .long)) (hk : meth.locks = false) (hn : meth.name = "tangle") : ∀ q ∈ tb_X11_tangle_c1, mSnd l B 4 p e (mRm 3 0 0) s m args below meth c (MQ below (mPo B Q) args s 0 0 (mA B)) (fun r h' => (h'.1.2.1 ≤ 0 ∧ h'.1.2.2 ≤ 0) ∧ Q r h') q.2 q.1 :=
  mF (sn_lmul (pc := 122) X (by decide +kernel)) <|
  mF (sn_iload_n (pc := 123) (j := 3) X (by decide +kernel) rfl) <|
  mF (sn_i2l (pc := 124) X (by decide +kernel)) <|
  mF (sn_ladd (pc := 125) X (by decide +kernel)) <|
  mF (sn_lret (pc := 126) X hr hk (by decide +kernel)) <|
  mF (sn_iinc (pc := 127) (n := 1) X (by decide +kernel) (by decide) (by decide)) <|
  mF (sn_goto (pc := 130) (off := (-97)) X (by decide +kernel) (by decide)) <|
  mF (sn_iinc (pc := 133) (n := 1) X (by decide +kernel) (by decide) (by decide)) <|
  mF (sn_goto (pc := 136) (off := (-118)) X (by decide +kernel) (by decide)) <|
  mF (sn_ldc2 (pc := 139) X (by decide +kernel) wd_1078) <|
  mF (sn_lret (pc := 142) X hr hk (by decide +kernel)) <|
  mF0
theorem sd_X11_tangle (l : Launch) (B : mBs) (p : Program) (e : Env) (s : State) (m : MethodId) (args : Array Value) (below : List Frame) (meth : Method) (c : Code) (Q : mQo) (X : mCx l B RX11 cX11_tangle 4 p s m args c) (hr : meth.sig.returnType = (some .long)) (hk : meth.locks = false) (hn : meth.name = "tangle") : ∀ q ∈ tb_X11_tangle, mSnd l B 4 p e (mRm 3 0 0) s m args below meth c (MQ below (mPo B Q) args s 0 0 (mA B)) (fun r h' => (h'.1.2.1 ≤ 0 ∧ h'.1.2.2 ≤ 0) ∧ Q r h') q.2 q.1 := mFA (sd_X11_tangle_c0 l B p e s m args below meth c Q X hr hk hn) (sd_X11_tangle_c1 l B p e s m args below meth c Q X hr hk hn)
theorem me_X11_tangle (l : Launch) (B : mBs) : mMet l B yX11_tangle cX11_tangle 4 (some .long) 3 0 0 C_X11_tangle := mMet_of (own := RX11) (by decide) rfl (fun p e s m args below meth c Q X hr hk hn => sd_X11_tangle l B p e s m args below meth c Q X hr hk hn)
/-! PuppetStageModel.meet()J: 87 instructions, depth 3, makes 0 cells of 0 slots -/
def tb_X11_meet_c0 : mTb := [(0, aPI 0 1), (1, aSI 1 2), (2, aLI 1 3), (3, aLA 0 4), (4, aPI 0 5), (5, aPI 0 6), (6, aCV 11 2 C_X11_get 9), (9, aIc (fun x y => y ≤ x) 143 12), (12, aPI 0 13), (13, aSI 2 14), (14, aLI 2 15), (15, aLA 0 16), (16, aPI 1 17), (17, aPI 0 18), (18, aCV 11 2 C_X11_get 21), (21, aIc (fun x y => y ≤ x) 137 24), (24, aLA 0 25), (25, aPI 0 26), (26, aCV 11 1 C_X11_lay 29), (29, aLA 0 30), (30, aLA 0 31), (31, aGR 11 5 34), (34, aLI 1 35), (35, aJA 36), (36, aWL 11 14 39), (39, aLA 0 40), (40, aLA 0 41), (41, aGR 11 6 44), (44, aLI 1 45), (45, aJA 46), (46, aWL 11 15 49), (49, aLA 0 50), (50, aLA 0 51), (51, aGR 11 7 54), (54, aLI 1 55), (55, aJA 56), (56, aWL 11 16 59), (59, aLA 0 60), (60, aLA 0 61), (61, aGR 11 8 64), (64, aLI 1 65), (65, aJA 66), (66, aWL 11 17 69), (69, aLA 0 70), (70, aPI 1 71), (71, aCV 11 1 C_X11_lay 74), (74, aLA 0 75), (75, aLA 0 76), (76, aGR 11 5 79), (79, aLI 2 80), (80, aJA 81), (81, aWL 11 18 84), (84, aLA 0 85), (85, aLA 0 86), (86, aGR 11 6 89), (89, aLI 2 90), (90, aJA 91), (91, aWL 11 19 94), (94, aLA 0 95), (95, aLA 0 96), (96, aGR 11 7 99), (99, aLI 2 100), (100, aJA 101), (101, aWL 11 20 104), (104, aLA 0 105), (105, aLA 0 106), (106, aGR 11 8 109), (109, aLI 2 110), (110, aJA 111), (111, aWL 11 21 114)]
theorem mt_X11_meet_c0 : mMT tb_X11_meet_c0 :=
  mF (mn_PI _ _) <|
  mF (mn_SI _ _) <|
  mF (mn_LI _ _) <|
  mF (mn_LA _ _) <|
  mF (mn_PI _ _) <|
  mF (mn_PI _ _) <|
  mF (mn_CV _ _ mc_X11_get _) <|
  mF (mn_Ic _ _ _) <|
  mF (mn_PI _ _) <|
  mF (mn_SI _ _) <|
  mF (mn_LI _ _) <|
  mF (mn_LA _ _) <|
  mF (mn_PI _ _) <|
  mF (mn_PI _ _) <|
  mF (mn_CV _ _ mc_X11_get _) <|
  mF (mn_Ic _ _ _) <|
  mF (mn_LA _ _) <|
  mF (mn_PI _ _) <|
  mF (mn_CV _ _ mc_X11_lay _) <|
  mF (mn_LA _ _) <|
  mF (mn_LA _ _) <|
  mF (mn_GR _ _ _) <|
  mF (mn_LI _ _) <|
  mF (mn_JA _) <|
  mF (mn_WL _ _ _) <|
  mF (mn_LA _ _) <|
  mF (mn_LA _ _) <|
  mF (mn_GR _ _ _) <|
  mF (mn_LI _ _) <|
  mF (mn_JA _) <|
  mF (mn_WL _ _ _) <|
  mF (mn_LA _ _) <|
  mF (mn_LA _ _) <|
  mF (mn_GR _ _ _) <|
  mF (mn_LI _ _) <|
  mF (mn_JA _) <|
  mF (mn_WL _ _ _) <|
  mF (mn_LA _ _) <|
  mF (mn_LA _ _) <|
  mF (mn_GR _ _ _) <|
  mF (mn_LI _ _) <|
  mF (mn_JA _) <|
  mF (mn_WL _ _ _) <|
  mF (mn_LA _ _) <|
  mF (mn_PI _ _) <|
  mF (mn_CV _ _ mc_X11_lay _) <|
  mF (mn_LA _ _) <|
  mF (mn_LA _ _) <|
  mF (mn_GR _ _ _) <|
  mF (mn_LI _ _) <|
  mF (mn_JA _) <|
  mF (mn_WL _ _ _) <|
  mF (mn_LA _ _) <|
  mF (mn_LA _ _) <|
  mF (mn_GR _ _ _) <|
  mF (mn_LI _ _) <|
  mF (mn_JA _) <|
  mF (mn_WL _ _ _) <|
  mF (mn_LA _ _) <|
  mF (mn_LA _ _) <|
  mF (mn_GR _ _ _) <|
  mF (mn_LI _ _) <|
  mF (mn_JA _) <|
  mF (mn_WL _ _ _) <|
  mF (mn_LA _ _) <|
  mF (mn_LA _ _) <|
  mF (mn_GR _ _ _) <|
  mF (mn_LI _ _) <|
  mF (mn_JA _) <|
  mF (mn_WL _ _ _) <|
  mF0
def tb_X11_meet_c1 : mTb := [(114, aLA 0 115), (115, aCV 11 0 C_X11_meets 118), (118, aIf (fun x => x = 0) 131 121), (121, aPL 6 124), (124, aLI 1 125), (125, aI2L 126), (126, aBL (fun x y => x * y) 127), (127, aLI 2 128), (128, aI2L 129), (129, aBL (fun x y => x + y) 130), (130, aRL), (131, aInc 2 1 134), (134, aGo 14), (137, aInc 1 1 140), (140, aGo 2), (143, aPL (-9000000000000000005) 146), (146, aRL)]
theorem mt_X11_meet_c1 : mMT tb_X11_meet_c1 :=
  mF (mn_LA _ _) <|
  mF (mn_CV _ _ mc_X11_meets _) <|
  mF (mn_If _ _ _) <|
  mF (mn_PL _ _) <|
  mF (mn_LI _ _) <|
  mF (mn_I2L _) <|
  mF (mn_BL _ _) <|
  mF (mn_LI _ _) <|
  mF (mn_I2L _) <|
  mF (mn_BL _ _) <|
  mF (mn_RL) <|
  mF (mn_Inc _ _ _) <|
  mF (mn_Go _) <|
  mF (mn_Inc _ _ _) <|
  mF (mn_Go _) <|
  mF (mn_PL _ _) <|
  mF (mn_RL) <|
  mF0
def tb_X11_meet : mTb := tb_X11_meet_c0 ++ (tb_X11_meet_c1)
theorem mt_X11_meet : mMT tb_X11_meet := mFA mt_X11_meet_c0 mt_X11_meet_c1
def C_X11_meet : mCo := mRun tb_X11_meet 3
theorem mc_X11_meet : mMC C_X11_meet := mRun_mn mt_X11_meet 3
theorem yi_X11_meet : mYin yX11_meet cX11_meet 3 (some .long) 0 := ⟨wd_60, wd_1269, by decide +kernel, by decide⟩
set_option maxRecDepth 100000 in
set_option maxHeartbeats 4000000 in
theorem sd_X11_meet_c0 (l : Launch) (B : mBs) (p : Program) (e : Env) (s : State) (m : MethodId) (args : Array Value) (below : List Frame) (meth : Method) (c : Code) (Q : mQo) (X : mCx l B RX11 cX11_meet 3 p s m args c) (hr : meth.sig.returnType = (some .long)) (hk : meth.locks = false) (hn : meth.name = "meet") : ∀ q ∈ tb_X11_meet_c0, mSnd l B 3 p e (mRm 3 0 0) s m args below meth c (MQ below (mPo B Q) args s 0 0 (mA B)) (fun r h' => (h'.1.2.1 ≤ 0 ∧ h'.1.2.2 ≤ 0) ∧ Q r h') q.2 q.1 :=
  mF (sn_iconst (pc := 0) (n := 0) X (by decide +kernel) (by decide)) <|
  mF (sn_istore_n (pc := 1) (j := 1) X (by decide +kernel) rfl (by decide)) <|
  mF (sn_iload_n (pc := 2) (j := 1) X (by decide +kernel) rfl) <|
  mF (sn_aload_n (pc := 3) (j := 0) X (by decide +kernel) rfl) <|
  mF (sn_iconst (pc := 4) (n := 0) X (by decide +kernel) (by decide)) <|
  mF (sn_iconst (pc := 5) (n := 0) X (by decide +kernel) (by decide)) <|
  mF (sn_callV (pc := 6) X mc_X11_get (me_X11_get l B) yi_X11_get wd_995 wd_997 wd_12 (T := TX11) (N := 22) rfl (by decide) (by decide +kernel)) <|
  mF (sn_icmp_ge (pc := 9) (off := 134) X (by decide +kernel) (by decide)) <|
  mF (sn_iconst (pc := 12) (n := 0) X (by decide +kernel) (by decide)) <|
  mF (sn_istore_n (pc := 13) (j := 2) X (by decide +kernel) rfl (by decide)) <|
  mF (sn_iload_n (pc := 14) (j := 2) X (by decide +kernel) rfl) <|
  mF (sn_aload_n (pc := 15) (j := 0) X (by decide +kernel) rfl) <|
  mF (sn_iconst (pc := 16) (n := 1) X (by decide +kernel) (by decide)) <|
  mF (sn_iconst (pc := 17) (n := 0) X (by decide +kernel) (by decide)) <|
  mF (sn_callV (pc := 18) X mc_X11_get (me_X11_get l B) yi_X11_get wd_995 wd_997 wd_12 (T := TX11) (N := 22) rfl (by decide) (by decide +kernel)) <|
  mF (sn_icmp_ge (pc := 21) (off := 116) X (by decide +kernel) (by decide)) <|
  mF (sn_aload_n (pc := 24) (j := 0) X (by decide +kernel) rfl) <|
  mF (sn_iconst (pc := 25) (n := 0) X (by decide +kernel) (by decide)) <|
  mF (sn_callV (pc := 26) X mc_X11_lay (me_X11_lay l B) yi_X11_lay wd_1083 wd_1085 wd_22 (T := TX11) (N := 22) rfl (by decide) (by decide +kernel)) <|
  mF (sn_aload_n (pc := 29) (j := 0) X (by decide +kernel) rfl) <|
  mF (sn_aload_n (pc := 30) (j := 0) X (by decide +kernel) rfl) <|
  mF (sn_getR (pc := 31) X fd_X11_19 (by decide +kernel)) <|
  mF (sn_iload_n (pc := 34) (j := 1) X (by decide +kernel) rfl) <|
  mF (sn_laload (pc := 35) X (by decide +kernel)) <|
  mF (sn_putL (pc := 36) X fd_X11_204 ⟨tyX11_ok, nmX11⟩ rfl rfl (by decide +kernel)) <|
  mF (sn_aload_n (pc := 39) (j := 0) X (by decide +kernel) rfl) <|
  mF (sn_aload_n (pc := 40) (j := 0) X (by decide +kernel) rfl) <|
  mF (sn_getR (pc := 41) X fd_X11_23 (by decide +kernel)) <|
  mF (sn_iload_n (pc := 44) (j := 1) X (by decide +kernel) rfl) <|
  mF (sn_laload (pc := 45) X (by decide +kernel)) <|
  mF (sn_putL (pc := 46) X fd_X11_207 ⟨tyX11_ok, nmX11⟩ rfl rfl (by decide +kernel)) <|
  mF (sn_aload_n (pc := 49) (j := 0) X (by decide +kernel) rfl) <|
  mF (sn_aload_n (pc := 50) (j := 0) X (by decide +kernel) rfl) <|
  mF (sn_getR (pc := 51) X fd_X11_26 (by decide +kernel)) <|
  mF (sn_iload_n (pc := 54) (j := 1) X (by decide +kernel) rfl) <|
  mF (sn_laload (pc := 55) X (by decide +kernel)) <|
  mF (sn_putL (pc := 56) X fd_X11_210 ⟨tyX11_ok, nmX11⟩ rfl rfl (by decide +kernel)) <|
  mF (sn_aload_n (pc := 59) (j := 0) X (by decide +kernel) rfl) <|
  mF (sn_aload_n (pc := 60) (j := 0) X (by decide +kernel) rfl) <|
  mF (sn_getR (pc := 61) X fd_X11_29 (by decide +kernel)) <|
  mF (sn_iload_n (pc := 64) (j := 1) X (by decide +kernel) rfl) <|
  mF (sn_laload (pc := 65) X (by decide +kernel)) <|
  mF (sn_putL (pc := 66) X fd_X11_213 ⟨tyX11_ok, nmX11⟩ rfl rfl (by decide +kernel)) <|
  mF (sn_aload_n (pc := 69) (j := 0) X (by decide +kernel) rfl) <|
  mF (sn_iconst (pc := 70) (n := 1) X (by decide +kernel) (by decide)) <|
  mF (sn_callV (pc := 71) X mc_X11_lay (me_X11_lay l B) yi_X11_lay wd_1083 wd_1085 wd_22 (T := TX11) (N := 22) rfl (by decide) (by decide +kernel)) <|
  mF (sn_aload_n (pc := 74) (j := 0) X (by decide +kernel) rfl) <|
  mF (sn_aload_n (pc := 75) (j := 0) X (by decide +kernel) rfl) <|
  mF (sn_getR (pc := 76) X fd_X11_19 (by decide +kernel)) <|
  mF (sn_iload_n (pc := 79) (j := 2) X (by decide +kernel) rfl) <|
  mF (sn_laload (pc := 80) X (by decide +kernel)) <|
  mF (sn_putL (pc := 81) X fd_X11_216 ⟨tyX11_ok, nmX11⟩ rfl rfl (by decide +kernel)) <|
  mF (sn_aload_n (pc := 84) (j := 0) X (by decide +kernel) rfl) <|
  mF (sn_aload_n (pc := 85) (j := 0) X (by decide +kernel) rfl) <|
  mF (sn_getR (pc := 86) X fd_X11_23 (by decide +kernel)) <|
  mF (sn_iload_n (pc := 89) (j := 2) X (by decide +kernel) rfl) <|
  mF (sn_laload (pc := 90) X (by decide +kernel)) <|
  mF (sn_putL (pc := 91) X fd_X11_219 ⟨tyX11_ok, nmX11⟩ rfl rfl (by decide +kernel)) <|
  mF (sn_aload_n (pc := 94) (j := 0) X (by decide +kernel) rfl) <|
  mF (sn_aload_n (pc := 95) (j := 0) X (by decide +kernel) rfl) <|
  mF (sn_getR (pc := 96) X fd_X11_26 (by decide +kernel)) <|
  mF (sn_iload_n (pc := 99) (j := 2) X (by decide +kernel) rfl) <|
  mF (sn_laload (pc := 100) X (by decide +kernel)) <|
  mF (sn_putL (pc := 101) X fd_X11_226 ⟨tyX11_ok, nmX11⟩ rfl rfl (by decide +kernel)) <|
  mF (sn_aload_n (pc := 104) (j := 0) X (by decide +kernel) rfl) <|
  mF (sn_aload_n (pc := 105) (j := 0) X (by decide +kernel) rfl) <|
  mF (sn_getR (pc := 106) X fd_X11_29 (by decide +kernel)) <|
  mF (sn_iload_n (pc := 109) (j := 2) X (by decide +kernel) rfl) <|
  mF (sn_laload (pc := 110) X (by decide +kernel)) <|
  mF (sn_putL (pc := 111) X fd_X11_229 ⟨tyX11_ok, nmX11⟩ rfl rfl (by decide +kernel)) <|
  mF0
set_option maxRecDepth 100000 in
set_option maxHeartbeats 4000000 in
theorem sd_X11_meet_c1 (l : Launch) (B : mBs) (p : Program) (e : Env) (s : State) (m : MethodId) (args : Array Value) (below : List Frame) (meth : Method) (c : Code) (Q : mQo) (X : mCx l B RX11 cX11_meet 3 p s m args c) (hr : meth.sig.returnType = (some .long)) (hk : meth.locks = false) (hn : meth.name = "meet") : ∀ q ∈ tb_X11_meet_c1, mSnd l B 3 p e (mRm 3 0 0) s m args below meth c (MQ below (mPo B Q) args s 0 0 (mA B)) (fun r h' => (h'.1.2.1 ≤ 0 ∧ h'.1.2.2 ≤ 0) ∧ Q r h') q.2 q.1 :=
  mF (sn_aload_n (pc := 114) (j := 0) X (by decide +kernel) rfl) <|
  mF (sn_callV (pc := 115) X mc_X11_meets (me_X11_meets l B) yi_X11_meets wd_1270 wd_1272 wd_45 (T := TX11) (N := 22) rfl (by decide) (by decide +kernel)) <|
  mF (sn_if_eq (pc := 118) (off := 13) X (by decide +kernel) (by decide)) <|
  mF (sn_ldc2 (pc := 121) X (by decide +kernel) wd_1280) <|
  mF (sn_iload_n (pc := 124) (j := 1) X (by decide +kernel) rfl) <|
  mF (sn_i2l (pc := 125) X (by decide +kernel)) <|
  mF (sn_lmul (pc := 126) X (by decide +kernel)) <|
  mF (sn_iload_n (pc := 127) (j := 2) X (by decide +kernel) rfl) <|
  mF (sn_i2l (pc := 128) X (by decide +kernel)) <|
  mF (sn_ladd (pc := 129) X (by decide +kernel)) <|
  mF (sn_lret (pc := 130) X hr hk (by decide +kernel)) <|
  mF (sn_iinc (pc := 131) (n := 1) X (by decide +kernel) (by decide) (by decide)) <|
  mF (sn_goto (pc := 134) (off := (-120)) X (by decide +kernel) (by decide)) <|
  mF (sn_iinc (pc := 137) (n := 1) X (by decide +kernel) (by decide) (by decide)) <|
  mF (sn_goto (pc := 140) (off := (-138)) X (by decide +kernel) (by decide)) <|
  mF (sn_ldc2 (pc := 143) X (by decide +kernel) wd_1078) <|
  mF (sn_lret (pc := 146) X hr hk (by decide +kernel)) <|
  mF0
theorem sd_X11_meet (l : Launch) (B : mBs) (p : Program) (e : Env) (s : State) (m : MethodId) (args : Array Value) (below : List Frame) (meth : Method) (c : Code) (Q : mQo) (X : mCx l B RX11 cX11_meet 3 p s m args c) (hr : meth.sig.returnType = (some .long)) (hk : meth.locks = false) (hn : meth.name = "meet") : ∀ q ∈ tb_X11_meet, mSnd l B 3 p e (mRm 3 0 0) s m args below meth c (MQ below (mPo B Q) args s 0 0 (mA B)) (fun r h' => (h'.1.2.1 ≤ 0 ∧ h'.1.2.2 ≤ 0) ∧ Q r h') q.2 q.1 := mFA (sd_X11_meet_c0 l B p e s m args below meth c Q X hr hk hn) (sd_X11_meet_c1 l B p e s m args below meth c Q X hr hk hn)
theorem me_X11_meet (l : Launch) (B : mBs) : mMet l B yX11_meet cX11_meet 3 (some .long) 3 0 0 C_X11_meet := mMet_of (own := RX11) (by decide) rfl (fun p e s m args below meth c Q X hr hk hn => sd_X11_meet l B p e s m args below meth c Q X hr hk hn)
/-! PuppetStageModel.mayMirror(I)Z: 128 instructions, depth 1, makes 0 cells of 0 slots -/
def tb_X11_mayMirror_c0 : mTb := [(0, aLA 0 1), (1, aLI 1 2), (2, aPI 42 4), (4, aCV 11 2 C_X11_get 7), (7, aPI (-32) 9), (9, aIc (fun x y => x ≤ y) 16 12), (12, aPI 1 13), (13, aGo 17), (16, aPI 0 17), (17, aSI 2 18), (18, aPI 0 19), (19, aSI 3 20), (20, aLI 3 21), (21, aLA 0 22), (22, aLI 1 23), (23, aPI 0 24), (24, aCV 11 2 C_X11_get 27), (27, aIc (fun x y => y ≤ x) 60 30), (30, aLI 2 31), (31, aIf (fun x => x = 0) 52 34), (34, aLA 0 35), (35, aLI 1 36), (36, aPI 19 38), (38, aLI 3 39), (39, aB (fun x y => x + y) 40), (40, aCV 11 2 C_X11_get 43), (43, aPI (-32) 45), (45, aIc (fun x y => x ≤ y) 52 48), (48, aPI 1 49), (49, aGo 53), (52, aPI 0 53), (53, aSI 2 54), (54, aInc 3 1 57), (57, aGo 20), (60, aPI 0 61), (61, aSI 3 62), (62, aLI 3 63), (63, aLA 0 64), (64, aLI 1 65), (65, aPI 27 67), (67, aCV 11 2 C_X11_get 70), (70, aIc (fun x y => y ≤ x) 105 73), (73, aLI 2 74), (74, aIf (fun x => x = 0) 97 77), (77, aLA 0 78), (78, aLI 1 79), (79, aPI 28 81), (81, aPI 2 82), (82, aLI 3 83), (83, aB (fun x y => x * y) 84), (84, aB (fun x y => x + y) 85), (85, aCV 11 2 C_X11_get 88), (88, aPI (-32) 90), (90, aIc (fun x y => x ≤ y) 97 93), (93, aPI 1 94), (94, aGo 98), (97, aPI 0 98), (98, aSI 2 99), (99, aInc 3 1 102), (102, aGo 62), (105, aPI 0 106), (106, aSI 3 107), (107, aLI 3 108), (108, aLA 0 109), (109, aLI 1 110), (110, aPI 129 113), (113, aCV 11 2 C_X11_get 116), (116, aIc (fun x y => y ≤ x) 154 119), (119, aLI 2 120), (120, aIf (fun x => x = 0) 146 123)]
theorem mt_X11_mayMirror_c0 : mMT tb_X11_mayMirror_c0 :=
  mF (mn_LA _ _) <|
  mF (mn_LI _ _) <|
  mF (mn_PI _ _) <|
  mF (mn_CV _ _ mc_X11_get _) <|
  mF (mn_PI _ _) <|
  mF (mn_Ic _ _ _) <|
  mF (mn_PI _ _) <|
  mF (mn_Go _) <|
  mF (mn_PI _ _) <|
  mF (mn_SI _ _) <|
  mF (mn_PI _ _) <|
  mF (mn_SI _ _) <|
  mF (mn_LI _ _) <|
  mF (mn_LA _ _) <|
  mF (mn_LI _ _) <|
  mF (mn_PI _ _) <|
  mF (mn_CV _ _ mc_X11_get _) <|
  mF (mn_Ic _ _ _) <|
  mF (mn_LI _ _) <|
  mF (mn_If _ _ _) <|
  mF (mn_LA _ _) <|
  mF (mn_LI _ _) <|
  mF (mn_PI _ _) <|
  mF (mn_LI _ _) <|
  mF (mn_B _ _) <|
  mF (mn_CV _ _ mc_X11_get _) <|
  mF (mn_PI _ _) <|
  mF (mn_Ic _ _ _) <|
  mF (mn_PI _ _) <|
  mF (mn_Go _) <|
  mF (mn_PI _ _) <|
  mF (mn_SI _ _) <|
  mF (mn_Inc _ _ _) <|
  mF (mn_Go _) <|
  mF (mn_PI _ _) <|
  mF (mn_SI _ _) <|
  mF (mn_LI _ _) <|
  mF (mn_LA _ _) <|
  mF (mn_LI _ _) <|
  mF (mn_PI _ _) <|
  mF (mn_CV _ _ mc_X11_get _) <|
  mF (mn_Ic _ _ _) <|
  mF (mn_LI _ _) <|
  mF (mn_If _ _ _) <|
  mF (mn_LA _ _) <|
  mF (mn_LI _ _) <|
  mF (mn_PI _ _) <|
  mF (mn_PI _ _) <|
  mF (mn_LI _ _) <|
  mF (mn_B _ _) <|
  mF (mn_B _ _) <|
  mF (mn_CV _ _ mc_X11_get _) <|
  mF (mn_PI _ _) <|
  mF (mn_Ic _ _ _) <|
  mF (mn_PI _ _) <|
  mF (mn_Go _) <|
  mF (mn_PI _ _) <|
  mF (mn_SI _ _) <|
  mF (mn_Inc _ _ _) <|
  mF (mn_Go _) <|
  mF (mn_PI _ _) <|
  mF (mn_SI _ _) <|
  mF (mn_LI _ _) <|
  mF (mn_LA _ _) <|
  mF (mn_LI _ _) <|
  mF (mn_PI _ _) <|
  mF (mn_CV _ _ mc_X11_get _) <|
  mF (mn_Ic _ _ _) <|
  mF (mn_LI _ _) <|
  mF (mn_If _ _ _) <|
  mF0
def tb_X11_mayMirror_c1 : mTb := [(123, aLA 0 124), (124, aLI 1 125), (125, aPI 130 128), (128, aPI 3 129), (129, aLI 3 130), (130, aB (fun x y => x * y) 131), (131, aB (fun x y => x + y) 132), (132, aPI 2 133), (133, aB (fun x y => x + y) 134), (134, aCV 11 2 C_X11_get 137), (137, aPI (-32) 139), (139, aIc (fun x y => x ≤ y) 146 142), (142, aPI 1 143), (143, aGo 147), (146, aPI 0 147), (147, aSI 2 148), (148, aInc 3 1 151), (151, aGo 107), (154, aPI 0 155), (155, aSI 3 156), (156, aLI 3 157), (157, aLA 0 158), (158, aLI 1 159), (159, aPI 166 162), (162, aCV 11 2 C_X11_get 165), (165, aIc (fun x y => y ≤ x) 225 168), (168, aPI 0 169), (169, aSI 4 171), (171, aLI 4 173), (173, aLA 0 174), (174, aLI 1 175), (175, aPI 0 176), (176, aCV 11 2 C_X11_get 179), (179, aIc (fun x y => y ≤ x) 219 182), (182, aLI 2 183), (183, aIf (fun x => x = 0) 211 186), (186, aLA 0 187), (187, aLI 1 188), (188, aPI 167 191), (191, aPI 6 193), (193, aLI 3 194), (194, aB (fun x y => x * y) 195), (195, aB (fun x y => x + y) 196), (196, aLI 4 198), (198, aB (fun x y => x + y) 199), (199, aCV 11 2 C_X11_get 202), (202, aPI (-32) 204), (204, aIc (fun x y => x ≤ y) 211 207), (207, aPI 1 208), (208, aGo 212), (211, aPI 0 212), (212, aSI 2 213), (213, aInc 4 1 216), (216, aGo 171), (219, aInc 3 1 222), (222, aGo 156), (225, aLI 2 226), (226, aRZ)]
theorem mt_X11_mayMirror_c1 : mMT tb_X11_mayMirror_c1 :=
  mF (mn_LA _ _) <|
  mF (mn_LI _ _) <|
  mF (mn_PI _ _) <|
  mF (mn_PI _ _) <|
  mF (mn_LI _ _) <|
  mF (mn_B _ _) <|
  mF (mn_B _ _) <|
  mF (mn_PI _ _) <|
  mF (mn_B _ _) <|
  mF (mn_CV _ _ mc_X11_get _) <|
  mF (mn_PI _ _) <|
  mF (mn_Ic _ _ _) <|
  mF (mn_PI _ _) <|
  mF (mn_Go _) <|
  mF (mn_PI _ _) <|
  mF (mn_SI _ _) <|
  mF (mn_Inc _ _ _) <|
  mF (mn_Go _) <|
  mF (mn_PI _ _) <|
  mF (mn_SI _ _) <|
  mF (mn_LI _ _) <|
  mF (mn_LA _ _) <|
  mF (mn_LI _ _) <|
  mF (mn_PI _ _) <|
  mF (mn_CV _ _ mc_X11_get _) <|
  mF (mn_Ic _ _ _) <|
  mF (mn_PI _ _) <|
  mF (mn_SI _ _) <|
  mF (mn_LI _ _) <|
  mF (mn_LA _ _) <|
  mF (mn_LI _ _) <|
  mF (mn_PI _ _) <|
  mF (mn_CV _ _ mc_X11_get _) <|
  mF (mn_Ic _ _ _) <|
  mF (mn_LI _ _) <|
  mF (mn_If _ _ _) <|
  mF (mn_LA _ _) <|
  mF (mn_LI _ _) <|
  mF (mn_PI _ _) <|
  mF (mn_PI _ _) <|
  mF (mn_LI _ _) <|
  mF (mn_B _ _) <|
  mF (mn_B _ _) <|
  mF (mn_LI _ _) <|
  mF (mn_B _ _) <|
  mF (mn_CV _ _ mc_X11_get _) <|
  mF (mn_PI _ _) <|
  mF (mn_Ic _ _ _) <|
  mF (mn_PI _ _) <|
  mF (mn_Go _) <|
  mF (mn_PI _ _) <|
  mF (mn_SI _ _) <|
  mF (mn_Inc _ _ _) <|
  mF (mn_Go _) <|
  mF (mn_Inc _ _ _) <|
  mF (mn_Go _) <|
  mF (mn_LI _ _) <|
  mF (mn_RZ) <|
  mF0
def tb_X11_mayMirror : mTb := tb_X11_mayMirror_c0 ++ (tb_X11_mayMirror_c1)
theorem mt_X11_mayMirror : mMT tb_X11_mayMirror := mFA mt_X11_mayMirror_c0 mt_X11_mayMirror_c1
def C_X11_mayMirror : mCo := mRun tb_X11_mayMirror 5
theorem mc_X11_mayMirror : mMC C_X11_mayMirror := mRun_mn mt_X11_mayMirror 5
theorem yi_X11_mayMirror : mYin yX11_mayMirror cX11_mayMirror 5 (some .boolean) 1 := ⟨wd_60, wd_1288, by decide +kernel, by decide⟩
set_option maxRecDepth 100000 in
set_option maxHeartbeats 4000000 in
theorem sd_X11_mayMirror_c0 (l : Launch) (B : mBs) (p : Program) (e : Env) (s : State) (m : MethodId) (args : Array Value) (below : List Frame) (meth : Method) (c : Code) (Q : mQo) (X : mCx l B RX11 cX11_mayMirror 5 p s m args c) (hr : meth.sig.returnType = (some .boolean)) (hk : meth.locks = false) (hn : meth.name = "mayMirror") : ∀ q ∈ tb_X11_mayMirror_c0, mSnd l B 5 p e (mRm 1 0 0) s m args below meth c (MQ below (mPo B Q) args s 0 0 (mA B)) (fun r h' => (h'.1.2.1 ≤ 0 ∧ h'.1.2.2 ≤ 0) ∧ Q r h') q.2 q.1 :=
  mF (sn_aload_n (pc := 0) (j := 0) X (by decide +kernel) rfl) <|
  mF (sn_iload_n (pc := 1) (j := 1) X (by decide +kernel) rfl) <|
  mF (sn_bipush (pc := 2) (n := 42) X (by decide +kernel) (by decide)) <|
  mF (sn_callV (pc := 4) X mc_X11_get (me_X11_get l B) yi_X11_get wd_995 wd_997 wd_12 (T := TX11) (N := 22) rfl (by decide) (by decide +kernel)) <|
  mF (sn_bipush (pc := 7) (n := (-32)) X (by decide +kernel) (by decide)) <|
  mF (sn_icmp_le (pc := 9) (off := 7) X (by decide +kernel) (by decide)) <|
  mF (sn_iconst (pc := 12) (n := 1) X (by decide +kernel) (by decide)) <|
  mF (sn_goto (pc := 13) (off := 4) X (by decide +kernel) (by decide)) <|
  mF (sn_iconst (pc := 16) (n := 0) X (by decide +kernel) (by decide)) <|
  mF (sn_istore_n (pc := 17) (j := 2) X (by decide +kernel) rfl (by decide)) <|
  mF (sn_iconst (pc := 18) (n := 0) X (by decide +kernel) (by decide)) <|
  mF (sn_istore_n (pc := 19) (j := 3) X (by decide +kernel) rfl (by decide)) <|
  mF (sn_iload_n (pc := 20) (j := 3) X (by decide +kernel) rfl) <|
  mF (sn_aload_n (pc := 21) (j := 0) X (by decide +kernel) rfl) <|
  mF (sn_iload_n (pc := 22) (j := 1) X (by decide +kernel) rfl) <|
  mF (sn_iconst (pc := 23) (n := 0) X (by decide +kernel) (by decide)) <|
  mF (sn_callV (pc := 24) X mc_X11_get (me_X11_get l B) yi_X11_get wd_995 wd_997 wd_12 (T := TX11) (N := 22) rfl (by decide) (by decide +kernel)) <|
  mF (sn_icmp_ge (pc := 27) (off := 33) X (by decide +kernel) (by decide)) <|
  mF (sn_iload_n (pc := 30) (j := 2) X (by decide +kernel) rfl) <|
  mF (sn_if_eq (pc := 31) (off := 21) X (by decide +kernel) (by decide)) <|
  mF (sn_aload_n (pc := 34) (j := 0) X (by decide +kernel) rfl) <|
  mF (sn_iload_n (pc := 35) (j := 1) X (by decide +kernel) rfl) <|
  mF (sn_bipush (pc := 36) (n := 19) X (by decide +kernel) (by decide)) <|
  mF (sn_iload_n (pc := 38) (j := 3) X (by decide +kernel) rfl) <|
  mF (sn_iadd (pc := 39) X (by decide +kernel)) <|
  mF (sn_callV (pc := 40) X mc_X11_get (me_X11_get l B) yi_X11_get wd_995 wd_997 wd_12 (T := TX11) (N := 22) rfl (by decide) (by decide +kernel)) <|
  mF (sn_bipush (pc := 43) (n := (-32)) X (by decide +kernel) (by decide)) <|
  mF (sn_icmp_le (pc := 45) (off := 7) X (by decide +kernel) (by decide)) <|
  mF (sn_iconst (pc := 48) (n := 1) X (by decide +kernel) (by decide)) <|
  mF (sn_goto (pc := 49) (off := 4) X (by decide +kernel) (by decide)) <|
  mF (sn_iconst (pc := 52) (n := 0) X (by decide +kernel) (by decide)) <|
  mF (sn_istore_n (pc := 53) (j := 2) X (by decide +kernel) rfl (by decide)) <|
  mF (sn_iinc (pc := 54) (n := 1) X (by decide +kernel) (by decide) (by decide)) <|
  mF (sn_goto (pc := 57) (off := (-37)) X (by decide +kernel) (by decide)) <|
  mF (sn_iconst (pc := 60) (n := 0) X (by decide +kernel) (by decide)) <|
  mF (sn_istore_n (pc := 61) (j := 3) X (by decide +kernel) rfl (by decide)) <|
  mF (sn_iload_n (pc := 62) (j := 3) X (by decide +kernel) rfl) <|
  mF (sn_aload_n (pc := 63) (j := 0) X (by decide +kernel) rfl) <|
  mF (sn_iload_n (pc := 64) (j := 1) X (by decide +kernel) rfl) <|
  mF (sn_bipush (pc := 65) (n := 27) X (by decide +kernel) (by decide)) <|
  mF (sn_callV (pc := 67) X mc_X11_get (me_X11_get l B) yi_X11_get wd_995 wd_997 wd_12 (T := TX11) (N := 22) rfl (by decide) (by decide +kernel)) <|
  mF (sn_icmp_ge (pc := 70) (off := 35) X (by decide +kernel) (by decide)) <|
  mF (sn_iload_n (pc := 73) (j := 2) X (by decide +kernel) rfl) <|
  mF (sn_if_eq (pc := 74) (off := 23) X (by decide +kernel) (by decide)) <|
  mF (sn_aload_n (pc := 77) (j := 0) X (by decide +kernel) rfl) <|
  mF (sn_iload_n (pc := 78) (j := 1) X (by decide +kernel) rfl) <|
  mF (sn_bipush (pc := 79) (n := 28) X (by decide +kernel) (by decide)) <|
  mF (sn_iconst (pc := 81) (n := 2) X (by decide +kernel) (by decide)) <|
  mF (sn_iload_n (pc := 82) (j := 3) X (by decide +kernel) rfl) <|
  mF (sn_imul (pc := 83) X (by decide +kernel)) <|
  mF (sn_iadd (pc := 84) X (by decide +kernel)) <|
  mF (sn_callV (pc := 85) X mc_X11_get (me_X11_get l B) yi_X11_get wd_995 wd_997 wd_12 (T := TX11) (N := 22) rfl (by decide) (by decide +kernel)) <|
  mF (sn_bipush (pc := 88) (n := (-32)) X (by decide +kernel) (by decide)) <|
  mF (sn_icmp_le (pc := 90) (off := 7) X (by decide +kernel) (by decide)) <|
  mF (sn_iconst (pc := 93) (n := 1) X (by decide +kernel) (by decide)) <|
  mF (sn_goto (pc := 94) (off := 4) X (by decide +kernel) (by decide)) <|
  mF (sn_iconst (pc := 97) (n := 0) X (by decide +kernel) (by decide)) <|
  mF (sn_istore_n (pc := 98) (j := 2) X (by decide +kernel) rfl (by decide)) <|
  mF (sn_iinc (pc := 99) (n := 1) X (by decide +kernel) (by decide) (by decide)) <|
  mF (sn_goto (pc := 102) (off := (-40)) X (by decide +kernel) (by decide)) <|
  mF (sn_iconst (pc := 105) (n := 0) X (by decide +kernel) (by decide)) <|
  mF (sn_istore_n (pc := 106) (j := 3) X (by decide +kernel) rfl (by decide)) <|
  mF (sn_iload_n (pc := 107) (j := 3) X (by decide +kernel) rfl) <|
  mF (sn_aload_n (pc := 108) (j := 0) X (by decide +kernel) rfl) <|
  mF (sn_iload_n (pc := 109) (j := 1) X (by decide +kernel) rfl) <|
  mF (sn_sipush (pc := 110) (n := 129) X (by decide +kernel) (by decide)) <|
  mF (sn_callV (pc := 113) X mc_X11_get (me_X11_get l B) yi_X11_get wd_995 wd_997 wd_12 (T := TX11) (N := 22) rfl (by decide) (by decide +kernel)) <|
  mF (sn_icmp_ge (pc := 116) (off := 38) X (by decide +kernel) (by decide)) <|
  mF (sn_iload_n (pc := 119) (j := 2) X (by decide +kernel) rfl) <|
  mF (sn_if_eq (pc := 120) (off := 26) X (by decide +kernel) (by decide)) <|
  mF0
set_option maxRecDepth 100000 in
set_option maxHeartbeats 4000000 in
theorem sd_X11_mayMirror_c1 (l : Launch) (B : mBs) (p : Program) (e : Env) (s : State) (m : MethodId) (args : Array Value) (below : List Frame) (meth : Method) (c : Code) (Q : mQo) (X : mCx l B RX11 cX11_mayMirror 5 p s m args c) (hr : meth.sig.returnType = (some .boolean)) (hk : meth.locks = false) (hn : meth.name = "mayMirror") : ∀ q ∈ tb_X11_mayMirror_c1, mSnd l B 5 p e (mRm 1 0 0) s m args below meth c (MQ below (mPo B Q) args s 0 0 (mA B)) (fun r h' => (h'.1.2.1 ≤ 0 ∧ h'.1.2.2 ≤ 0) ∧ Q r h') q.2 q.1 :=
  mF (sn_aload_n (pc := 123) (j := 0) X (by decide +kernel) rfl) <|
  mF (sn_iload_n (pc := 124) (j := 1) X (by decide +kernel) rfl) <|
  mF (sn_sipush (pc := 125) (n := 130) X (by decide +kernel) (by decide)) <|
  mF (sn_iconst (pc := 128) (n := 3) X (by decide +kernel) (by decide)) <|
  mF (sn_iload_n (pc := 129) (j := 3) X (by decide +kernel) rfl) <|
  mF (sn_imul (pc := 130) X (by decide +kernel)) <|
  mF (sn_iadd (pc := 131) X (by decide +kernel)) <|
  mF (sn_iconst (pc := 132) (n := 2) X (by decide +kernel) (by decide)) <|
  mF (sn_iadd (pc := 133) X (by decide +kernel)) <|
  mF (sn_callV (pc := 134) X mc_X11_get (me_X11_get l B) yi_X11_get wd_995 wd_997 wd_12 (T := TX11) (N := 22) rfl (by decide) (by decide +kernel)) <|
  mF (sn_bipush (pc := 137) (n := (-32)) X (by decide +kernel) (by decide)) <|
  mF (sn_icmp_le (pc := 139) (off := 7) X (by decide +kernel) (by decide)) <|
  mF (sn_iconst (pc := 142) (n := 1) X (by decide +kernel) (by decide)) <|
  mF (sn_goto (pc := 143) (off := 4) X (by decide +kernel) (by decide)) <|
  mF (sn_iconst (pc := 146) (n := 0) X (by decide +kernel) (by decide)) <|
  mF (sn_istore_n (pc := 147) (j := 2) X (by decide +kernel) rfl (by decide)) <|
  mF (sn_iinc (pc := 148) (n := 1) X (by decide +kernel) (by decide) (by decide)) <|
  mF (sn_goto (pc := 151) (off := (-44)) X (by decide +kernel) (by decide)) <|
  mF (sn_iconst (pc := 154) (n := 0) X (by decide +kernel) (by decide)) <|
  mF (sn_istore_n (pc := 155) (j := 3) X (by decide +kernel) rfl (by decide)) <|
  mF (sn_iload_n (pc := 156) (j := 3) X (by decide +kernel) rfl) <|
  mF (sn_aload_n (pc := 157) (j := 0) X (by decide +kernel) rfl) <|
  mF (sn_iload_n (pc := 158) (j := 1) X (by decide +kernel) rfl) <|
  mF (sn_sipush (pc := 159) (n := 166) X (by decide +kernel) (by decide)) <|
  mF (sn_callV (pc := 162) X mc_X11_get (me_X11_get l B) yi_X11_get wd_995 wd_997 wd_12 (T := TX11) (N := 22) rfl (by decide) (by decide +kernel)) <|
  mF (sn_icmp_ge (pc := 165) (off := 60) X (by decide +kernel) (by decide)) <|
  mF (sn_iconst (pc := 168) (n := 0) X (by decide +kernel) (by decide)) <|
  mF (sn_istore (pc := 169) X (by decide +kernel) (by decide)) <|
  mF (sn_iload (pc := 171) X (by decide +kernel)) <|
  mF (sn_aload_n (pc := 173) (j := 0) X (by decide +kernel) rfl) <|
  mF (sn_iload_n (pc := 174) (j := 1) X (by decide +kernel) rfl) <|
  mF (sn_iconst (pc := 175) (n := 0) X (by decide +kernel) (by decide)) <|
  mF (sn_callV (pc := 176) X mc_X11_get (me_X11_get l B) yi_X11_get wd_995 wd_997 wd_12 (T := TX11) (N := 22) rfl (by decide) (by decide +kernel)) <|
  mF (sn_icmp_ge (pc := 179) (off := 40) X (by decide +kernel) (by decide)) <|
  mF (sn_iload_n (pc := 182) (j := 2) X (by decide +kernel) rfl) <|
  mF (sn_if_eq (pc := 183) (off := 28) X (by decide +kernel) (by decide)) <|
  mF (sn_aload_n (pc := 186) (j := 0) X (by decide +kernel) rfl) <|
  mF (sn_iload_n (pc := 187) (j := 1) X (by decide +kernel) rfl) <|
  mF (sn_sipush (pc := 188) (n := 167) X (by decide +kernel) (by decide)) <|
  mF (sn_bipush (pc := 191) (n := 6) X (by decide +kernel) (by decide)) <|
  mF (sn_iload_n (pc := 193) (j := 3) X (by decide +kernel) rfl) <|
  mF (sn_imul (pc := 194) X (by decide +kernel)) <|
  mF (sn_iadd (pc := 195) X (by decide +kernel)) <|
  mF (sn_iload (pc := 196) X (by decide +kernel)) <|
  mF (sn_iadd (pc := 198) X (by decide +kernel)) <|
  mF (sn_callV (pc := 199) X mc_X11_get (me_X11_get l B) yi_X11_get wd_995 wd_997 wd_12 (T := TX11) (N := 22) rfl (by decide) (by decide +kernel)) <|
  mF (sn_bipush (pc := 202) (n := (-32)) X (by decide +kernel) (by decide)) <|
  mF (sn_icmp_le (pc := 204) (off := 7) X (by decide +kernel) (by decide)) <|
  mF (sn_iconst (pc := 207) (n := 1) X (by decide +kernel) (by decide)) <|
  mF (sn_goto (pc := 208) (off := 4) X (by decide +kernel) (by decide)) <|
  mF (sn_iconst (pc := 211) (n := 0) X (by decide +kernel) (by decide)) <|
  mF (sn_istore_n (pc := 212) (j := 2) X (by decide +kernel) rfl (by decide)) <|
  mF (sn_iinc (pc := 213) (n := 1) X (by decide +kernel) (by decide) (by decide)) <|
  mF (sn_goto (pc := 216) (off := (-45)) X (by decide +kernel) (by decide)) <|
  mF (sn_iinc (pc := 219) (n := 1) X (by decide +kernel) (by decide) (by decide)) <|
  mF (sn_goto (pc := 222) (off := (-66)) X (by decide +kernel) (by decide)) <|
  mF (sn_iload_n (pc := 225) (j := 2) X (by decide +kernel) rfl) <|
  mF (sn_zret (pc := 226) X hr hk (by decide +kernel)) <|
  mF0
theorem sd_X11_mayMirror (l : Launch) (B : mBs) (p : Program) (e : Env) (s : State) (m : MethodId) (args : Array Value) (below : List Frame) (meth : Method) (c : Code) (Q : mQo) (X : mCx l B RX11 cX11_mayMirror 5 p s m args c) (hr : meth.sig.returnType = (some .boolean)) (hk : meth.locks = false) (hn : meth.name = "mayMirror") : ∀ q ∈ tb_X11_mayMirror, mSnd l B 5 p e (mRm 1 0 0) s m args below meth c (MQ below (mPo B Q) args s 0 0 (mA B)) (fun r h' => (h'.1.2.1 ≤ 0 ∧ h'.1.2.2 ≤ 0) ∧ Q r h') q.2 q.1 := mFA (sd_X11_mayMirror_c0 l B p e s m args below meth c Q X hr hk hn) (sd_X11_mayMirror_c1 l B p e s m args below meth c Q X hr hk hn)
theorem me_X11_mayMirror (l : Launch) (B : mBs) : mMet l B yX11_mayMirror cX11_mayMirror 5 (some .boolean) 1 0 0 C_X11_mayMirror := mMet_of (own := RX11) (by decide) rfl (fun p e s m args below meth c Q X hr hk hn => sd_X11_mayMirror l B p e s m args below meth c Q X hr hk hn)
/-! PuppetStageModel.turn(II)V: 10 instructions, depth 1, makes 0 cells of 0 slots -/
def tb_X11_turn : mTb := [(0, aLA 0 1), (1, aLI 1 2), (2, aLI 2 3), (3, aLA 0 4), (4, aLI 1 5), (5, aLI 2 6), (6, aCV 11 2 C_X11_get 9), (9, aU (fun x => -x) 10), (10, aCV 11 3 C_X11_put 13), (13, aRV)]
theorem mt_X11_turn : mMT tb_X11_turn :=
  mF (mn_LA _ _) <|
  mF (mn_LI _ _) <|
  mF (mn_LI _ _) <|
  mF (mn_LA _ _) <|
  mF (mn_LI _ _) <|
  mF (mn_LI _ _) <|
  mF (mn_CV _ _ mc_X11_get _) <|
  mF (mn_U _ _) <|
  mF (mn_CV _ _ mc_X11_put _) <|
  mF (mn_RV) <|
  mF0
def C_X11_turn : mCo := mRun tb_X11_turn 3
theorem mc_X11_turn : mMC C_X11_turn := mRun_mn mt_X11_turn 3
theorem yi_X11_turn : mYin yX11_turn cX11_turn 3 none 2 := ⟨wd_60, wd_1292, by decide +kernel, by decide⟩
set_option maxRecDepth 100000 in
set_option maxHeartbeats 4000000 in
theorem sd_X11_turn (l : Launch) (B : mBs) (p : Program) (e : Env) (s : State) (m : MethodId) (args : Array Value) (below : List Frame) (meth : Method) (c : Code) (Q : mQo) (X : mCx l B RX11 cX11_turn 3 p s m args c) (hr : meth.sig.returnType = none) (hk : meth.locks = false) (hn : meth.name = "turn") : ∀ q ∈ tb_X11_turn, mSnd l B 3 p e (mRm 1 0 0) s m args below meth c (MQ below (mPo B Q) args s 0 0 (mA B)) (fun r h' => (h'.1.2.1 ≤ 0 ∧ h'.1.2.2 ≤ 0) ∧ Q r h') q.2 q.1 :=
  mF (sn_aload_n (pc := 0) (j := 0) X (by decide +kernel) rfl) <|
  mF (sn_iload_n (pc := 1) (j := 1) X (by decide +kernel) rfl) <|
  mF (sn_iload_n (pc := 2) (j := 2) X (by decide +kernel) rfl) <|
  mF (sn_aload_n (pc := 3) (j := 0) X (by decide +kernel) rfl) <|
  mF (sn_iload_n (pc := 4) (j := 1) X (by decide +kernel) rfl) <|
  mF (sn_iload_n (pc := 5) (j := 2) X (by decide +kernel) rfl) <|
  mF (sn_callV (pc := 6) X mc_X11_get (me_X11_get l B) yi_X11_get wd_995 wd_997 wd_12 (T := TX11) (N := 22) rfl (by decide) (by decide +kernel)) <|
  mF (sn_ineg (pc := 9) X (by decide +kernel)) <|
  mF (sn_callV (pc := 10) X mc_X11_put (me_X11_put l B) yi_X11_put wd_1013 wd_1015 wd_16 (T := TX11) (N := 22) rfl (by decide) (by decide +kernel)) <|
  mF (sn_vret (pc := 13) X hr hk (by decide +kernel)) <|
  mF0
theorem me_X11_turn (l : Launch) (B : mBs) : mMet l B yX11_turn cX11_turn 3 none 1 0 0 C_X11_turn := mMet_of (own := RX11) (by decide) rfl (fun p e s m args below meth c Q X hr hk hn => sd_X11_turn l B p e s m args below meth c Q X hr hk hn)
/-! PuppetStageModel.mirror(I)J: 140 instructions, depth 2, makes 0 cells of 0 slots -/
def tb_X11_mirror_c0 : mTb := [(0, aLI 1 1), (1, aCS 1 C_X11_isPuppet 4), (4, aIf (fun x => x = 0) 7 11), (7, aPL (-9000000000000000001) 10), (10, aRL), (11, aLA 0 12), (12, aLI 1 13), (13, aCV 11 1 C_X11_mayMirror 16), (16, aIf (fun x => x = 0) 19 23), (19, aPL (-9000000000000000002) 22), (22, aRL), (23, aLA 0 24), (24, aCV 11 0 C_X11_keep 27), (27, aLA 0 28), (28, aLI 1 29), (29, aPI 25 31), (31, aCV 11 2 C_X11_turn 34), (34, aLA 0 35), (35, aLI 1 36), (36, aPI 40 38), (38, aCV 11 2 C_X11_turn 41), (41, aLA 0 42), (42, aLI 1 43), (43, aPI 42 45), (45, aCV 11 2 C_X11_turn 48), (48, aPI 0 49), (49, aSI 2 50), (50, aLI 2 51), (51, aPI 6 53), (53, aIc (fun x y => y ≤ x) 134 56), (56, aLA 0 57), (57, aLI 1 58), (58, aPI 43 60), (60, aPI 2 61), (61, aLI 2 62), (62, aB (fun x y => x * y) 63), (63, aB (fun x y => x + y) 64), (64, aCV 11 2 C_X11_turn 67), (67, aLA 0 68), (68, aLI 1 69), (69, aPI 19 71), (71, aLI 2 72), (72, aB (fun x y => x + y) 73), (73, aCV 11 2 C_X11_turn 76), (76, aLA 0 77), (77, aLI 1 78), (78, aPI 28 80), (80, aPI 2 81), (81, aLI 2 82), (82, aB (fun x y => x * y) 83), (83, aB (fun x y => x + y) 84), (84, aCV 11 2 C_X11_get 87), (87, aSI 3 88), (88, aLA 0 89), (89, aLI 1 90), (90, aPI 28 92), (92, aPI 2 93), (93, aLI 2 94), (94, aB (fun x y => x * y) 95), (95, aB (fun x y => x + y) 96), (96, aLA 0 97), (97, aLI 1 98), (98, aPI 28 100), (100, aPI 2 101), (101, aLI 2 102), (102, aB (fun x y => x * y) 103), (103, aB (fun x y => x + y) 104), (104, aPI 1 105), (105, aB (fun x y => x + y) 106), (106, aCV 11 2 C_X11_get 109)]
theorem mt_X11_mirror_c0 : mMT tb_X11_mirror_c0 :=
  mF (mn_LI _ _) <|
  mF (mn_CS _ mc_X11_isPuppet _) <|
  mF (mn_If _ _ _) <|
  mF (mn_PL _ _) <|
  mF (mn_RL) <|
  mF (mn_LA _ _) <|
  mF (mn_LI _ _) <|
  mF (mn_CV _ _ mc_X11_mayMirror _) <|
  mF (mn_If _ _ _) <|
  mF (mn_PL _ _) <|
  mF (mn_RL) <|
  mF (mn_LA _ _) <|
  mF (mn_CV _ _ mc_X11_keep _) <|
  mF (mn_LA _ _) <|
  mF (mn_LI _ _) <|
  mF (mn_PI _ _) <|
  mF (mn_CV _ _ mc_X11_turn _) <|
  mF (mn_LA _ _) <|
  mF (mn_LI _ _) <|
  mF (mn_PI _ _) <|
  mF (mn_CV _ _ mc_X11_turn _) <|
  mF (mn_LA _ _) <|
  mF (mn_LI _ _) <|
  mF (mn_PI _ _) <|
  mF (mn_CV _ _ mc_X11_turn _) <|
  mF (mn_PI _ _) <|
  mF (mn_SI _ _) <|
  mF (mn_LI _ _) <|
  mF (mn_PI _ _) <|
  mF (mn_Ic _ _ _) <|
  mF (mn_LA _ _) <|
  mF (mn_LI _ _) <|
  mF (mn_PI _ _) <|
  mF (mn_PI _ _) <|
  mF (mn_LI _ _) <|
  mF (mn_B _ _) <|
  mF (mn_B _ _) <|
  mF (mn_CV _ _ mc_X11_turn _) <|
  mF (mn_LA _ _) <|
  mF (mn_LI _ _) <|
  mF (mn_PI _ _) <|
  mF (mn_LI _ _) <|
  mF (mn_B _ _) <|
  mF (mn_CV _ _ mc_X11_turn _) <|
  mF (mn_LA _ _) <|
  mF (mn_LI _ _) <|
  mF (mn_PI _ _) <|
  mF (mn_PI _ _) <|
  mF (mn_LI _ _) <|
  mF (mn_B _ _) <|
  mF (mn_B _ _) <|
  mF (mn_CV _ _ mc_X11_get _) <|
  mF (mn_SI _ _) <|
  mF (mn_LA _ _) <|
  mF (mn_LI _ _) <|
  mF (mn_PI _ _) <|
  mF (mn_PI _ _) <|
  mF (mn_LI _ _) <|
  mF (mn_B _ _) <|
  mF (mn_B _ _) <|
  mF (mn_LA _ _) <|
  mF (mn_LI _ _) <|
  mF (mn_PI _ _) <|
  mF (mn_PI _ _) <|
  mF (mn_LI _ _) <|
  mF (mn_B _ _) <|
  mF (mn_B _ _) <|
  mF (mn_PI _ _) <|
  mF (mn_B _ _) <|
  mF (mn_CV _ _ mc_X11_get _) <|
  mF0
def tb_X11_mirror_c1 : mTb := [(109, aU (fun x => -x) 110), (110, aCV 11 3 C_X11_put 113), (113, aLA 0 114), (114, aLI 1 115), (115, aPI 28 117), (117, aPI 2 118), (118, aLI 2 119), (119, aB (fun x y => x * y) 120), (120, aB (fun x y => x + y) 121), (121, aPI 1 122), (122, aB (fun x y => x + y) 123), (123, aLI 3 124), (124, aU (fun x => -x) 125), (125, aCV 11 3 C_X11_put 128), (128, aInc 2 1 131), (131, aGo 50), (134, aPI 0 135), (135, aSI 2 136), (136, aLI 2 137), (137, aPI 12 139), (139, aIc (fun x y => y ≤ x) 203 142), (142, aLA 0 143), (143, aLI 1 144), (144, aPI 130 147), (147, aPI 3 148), (148, aLI 2 149), (149, aB (fun x y => x * y) 150), (150, aB (fun x y => x + y) 151), (151, aCV 11 2 C_X11_turn 154), (154, aLA 0 155), (155, aLI 1 156), (156, aPI 130 159), (159, aPI 3 160), (160, aLI 2 161), (161, aB (fun x y => x * y) 162), (162, aB (fun x y => x + y) 163), (163, aPI 2 164), (164, aB (fun x y => x + y) 165), (165, aCV 11 2 C_X11_turn 168), (168, aPI 0 169), (169, aSI 3 170), (170, aLI 3 171), (171, aPI 6 173), (173, aIc (fun x y => y ≤ x) 197 176), (176, aLA 0 177), (177, aLI 1 178), (178, aPI 167 181), (181, aPI 6 183), (183, aLI 2 184), (184, aB (fun x y => x * y) 185), (185, aB (fun x y => x + y) 186), (186, aLI 3 187), (187, aB (fun x y => x + y) 188), (188, aCV 11 2 C_X11_turn 191), (191, aInc 3 1 194), (194, aGo 170), (197, aInc 2 1 200), (200, aGo 136), (203, aLA 0 204), (204, aLI 1 205), (205, aPI 128 208), (208, aPI 1 209), (209, aLA 0 210), (210, aLI 1 211), (211, aPI 128 214), (214, aCV 11 2 C_X11_get 217), (217, aB (fun x y => x - y) 218), (218, aCV 11 3 C_X11_put 221), (221, aPL 0 222), (222, aRL)]
theorem mt_X11_mirror_c1 : mMT tb_X11_mirror_c1 :=
  mF (mn_U _ _) <|
  mF (mn_CV _ _ mc_X11_put _) <|
  mF (mn_LA _ _) <|
  mF (mn_LI _ _) <|
  mF (mn_PI _ _) <|
  mF (mn_PI _ _) <|
  mF (mn_LI _ _) <|
  mF (mn_B _ _) <|
  mF (mn_B _ _) <|
  mF (mn_PI _ _) <|
  mF (mn_B _ _) <|
  mF (mn_LI _ _) <|
  mF (mn_U _ _) <|
  mF (mn_CV _ _ mc_X11_put _) <|
  mF (mn_Inc _ _ _) <|
  mF (mn_Go _) <|
  mF (mn_PI _ _) <|
  mF (mn_SI _ _) <|
  mF (mn_LI _ _) <|
  mF (mn_PI _ _) <|
  mF (mn_Ic _ _ _) <|
  mF (mn_LA _ _) <|
  mF (mn_LI _ _) <|
  mF (mn_PI _ _) <|
  mF (mn_PI _ _) <|
  mF (mn_LI _ _) <|
  mF (mn_B _ _) <|
  mF (mn_B _ _) <|
  mF (mn_CV _ _ mc_X11_turn _) <|
  mF (mn_LA _ _) <|
  mF (mn_LI _ _) <|
  mF (mn_PI _ _) <|
  mF (mn_PI _ _) <|
  mF (mn_LI _ _) <|
  mF (mn_B _ _) <|
  mF (mn_B _ _) <|
  mF (mn_PI _ _) <|
  mF (mn_B _ _) <|
  mF (mn_CV _ _ mc_X11_turn _) <|
  mF (mn_PI _ _) <|
  mF (mn_SI _ _) <|
  mF (mn_LI _ _) <|
  mF (mn_PI _ _) <|
  mF (mn_Ic _ _ _) <|
  mF (mn_LA _ _) <|
  mF (mn_LI _ _) <|
  mF (mn_PI _ _) <|
  mF (mn_PI _ _) <|
  mF (mn_LI _ _) <|
  mF (mn_B _ _) <|
  mF (mn_B _ _) <|
  mF (mn_LI _ _) <|
  mF (mn_B _ _) <|
  mF (mn_CV _ _ mc_X11_turn _) <|
  mF (mn_Inc _ _ _) <|
  mF (mn_Go _) <|
  mF (mn_Inc _ _ _) <|
  mF (mn_Go _) <|
  mF (mn_LA _ _) <|
  mF (mn_LI _ _) <|
  mF (mn_PI _ _) <|
  mF (mn_PI _ _) <|
  mF (mn_LA _ _) <|
  mF (mn_LI _ _) <|
  mF (mn_PI _ _) <|
  mF (mn_CV _ _ mc_X11_get _) <|
  mF (mn_B _ _) <|
  mF (mn_CV _ _ mc_X11_put _) <|
  mF (mn_PL _ _) <|
  mF (mn_RL) <|
  mF0
def tb_X11_mirror : mTb := tb_X11_mirror_c0 ++ (tb_X11_mirror_c1)
theorem mt_X11_mirror : mMT tb_X11_mirror := mFA mt_X11_mirror_c0 mt_X11_mirror_c1
def C_X11_mirror : mCo := mRun tb_X11_mirror 4
theorem mc_X11_mirror : mMC C_X11_mirror := mRun_mn mt_X11_mirror 4
theorem yi_X11_mirror : mYin yX11_mirror cX11_mirror 4 (some .long) 1 := ⟨wd_60, wd_1284, by decide +kernel, by decide⟩
set_option maxRecDepth 100000 in
set_option maxHeartbeats 4000000 in
theorem sd_X11_mirror_c0 (l : Launch) (B : mBs) (p : Program) (e : Env) (s : State) (m : MethodId) (args : Array Value) (below : List Frame) (meth : Method) (c : Code) (Q : mQo) (X : mCx l B RX11 cX11_mirror 4 p s m args c) (hr : meth.sig.returnType = (some .long)) (hk : meth.locks = false) (hn : meth.name = "mirror") : ∀ q ∈ tb_X11_mirror_c0, mSnd l B 4 p e (mRm 2 0 0) s m args below meth c (MQ below (mPo B Q) args s 0 0 (mA B)) (fun r h' => (h'.1.2.1 ≤ 0 ∧ h'.1.2.2 ≤ 0) ∧ Q r h') q.2 q.1 :=
  mF (sn_iload_n (pc := 0) (j := 1) X (by decide +kernel) rfl) <|
  mF (sn_callS (pc := 1) X mc_X11_isPuppet (me_X11_isPuppet l B) yi_X11_isPuppet wd_989 wd_990 (by decide) (by decide +kernel)) <|
  mF (sn_if_ne (pc := 4) (off := 7) X (by decide +kernel) (by decide)) <|
  mF (sn_ldc2 (pc := 7) X (by decide +kernel) wd_999) <|
  mF (sn_lret (pc := 10) X hr hk (by decide +kernel)) <|
  mF (sn_aload_n (pc := 11) (j := 0) X (by decide +kernel) rfl) <|
  mF (sn_iload_n (pc := 12) (j := 1) X (by decide +kernel) rfl) <|
  mF (sn_callV (pc := 13) X mc_X11_mayMirror (me_X11_mayMirror l B) yi_X11_mayMirror wd_1285 wd_1287 wd_46 (T := TX11) (N := 22) rfl (by decide) (by decide +kernel)) <|
  mF (sn_if_ne (pc := 16) (off := 7) X (by decide +kernel) (by decide)) <|
  mF (sn_ldc2 (pc := 19) X (by decide +kernel) wd_984) <|
  mF (sn_lret (pc := 22) X hr hk (by decide +kernel)) <|
  mF (sn_aload_n (pc := 23) (j := 0) X (by decide +kernel) rfl) <|
  mF (sn_callV (pc := 24) X mc_X11_keep (me_X11_keep l B) yi_X11_keep wd_1009 wd_1011 wd_15 (T := TX11) (N := 22) rfl (by decide) (by decide +kernel)) <|
  mF (sn_aload_n (pc := 27) (j := 0) X (by decide +kernel) rfl) <|
  mF (sn_iload_n (pc := 28) (j := 1) X (by decide +kernel) rfl) <|
  mF (sn_bipush (pc := 29) (n := 25) X (by decide +kernel) (by decide)) <|
  mF (sn_callV (pc := 31) X mc_X11_turn (me_X11_turn l B) yi_X11_turn wd_1289 wd_1291 wd_47 (T := TX11) (N := 22) rfl (by decide) (by decide +kernel)) <|
  mF (sn_aload_n (pc := 34) (j := 0) X (by decide +kernel) rfl) <|
  mF (sn_iload_n (pc := 35) (j := 1) X (by decide +kernel) rfl) <|
  mF (sn_bipush (pc := 36) (n := 40) X (by decide +kernel) (by decide)) <|
  mF (sn_callV (pc := 38) X mc_X11_turn (me_X11_turn l B) yi_X11_turn wd_1289 wd_1291 wd_47 (T := TX11) (N := 22) rfl (by decide) (by decide +kernel)) <|
  mF (sn_aload_n (pc := 41) (j := 0) X (by decide +kernel) rfl) <|
  mF (sn_iload_n (pc := 42) (j := 1) X (by decide +kernel) rfl) <|
  mF (sn_bipush (pc := 43) (n := 42) X (by decide +kernel) (by decide)) <|
  mF (sn_callV (pc := 45) X mc_X11_turn (me_X11_turn l B) yi_X11_turn wd_1289 wd_1291 wd_47 (T := TX11) (N := 22) rfl (by decide) (by decide +kernel)) <|
  mF (sn_iconst (pc := 48) (n := 0) X (by decide +kernel) (by decide)) <|
  mF (sn_istore_n (pc := 49) (j := 2) X (by decide +kernel) rfl (by decide)) <|
  mF (sn_iload_n (pc := 50) (j := 2) X (by decide +kernel) rfl) <|
  mF (sn_bipush (pc := 51) (n := 6) X (by decide +kernel) (by decide)) <|
  mF (sn_icmp_ge (pc := 53) (off := 81) X (by decide +kernel) (by decide)) <|
  mF (sn_aload_n (pc := 56) (j := 0) X (by decide +kernel) rfl) <|
  mF (sn_iload_n (pc := 57) (j := 1) X (by decide +kernel) rfl) <|
  mF (sn_bipush (pc := 58) (n := 43) X (by decide +kernel) (by decide)) <|
  mF (sn_iconst (pc := 60) (n := 2) X (by decide +kernel) (by decide)) <|
  mF (sn_iload_n (pc := 61) (j := 2) X (by decide +kernel) rfl) <|
  mF (sn_imul (pc := 62) X (by decide +kernel)) <|
  mF (sn_iadd (pc := 63) X (by decide +kernel)) <|
  mF (sn_callV (pc := 64) X mc_X11_turn (me_X11_turn l B) yi_X11_turn wd_1289 wd_1291 wd_47 (T := TX11) (N := 22) rfl (by decide) (by decide +kernel)) <|
  mF (sn_aload_n (pc := 67) (j := 0) X (by decide +kernel) rfl) <|
  mF (sn_iload_n (pc := 68) (j := 1) X (by decide +kernel) rfl) <|
  mF (sn_bipush (pc := 69) (n := 19) X (by decide +kernel) (by decide)) <|
  mF (sn_iload_n (pc := 71) (j := 2) X (by decide +kernel) rfl) <|
  mF (sn_iadd (pc := 72) X (by decide +kernel)) <|
  mF (sn_callV (pc := 73) X mc_X11_turn (me_X11_turn l B) yi_X11_turn wd_1289 wd_1291 wd_47 (T := TX11) (N := 22) rfl (by decide) (by decide +kernel)) <|
  mF (sn_aload_n (pc := 76) (j := 0) X (by decide +kernel) rfl) <|
  mF (sn_iload_n (pc := 77) (j := 1) X (by decide +kernel) rfl) <|
  mF (sn_bipush (pc := 78) (n := 28) X (by decide +kernel) (by decide)) <|
  mF (sn_iconst (pc := 80) (n := 2) X (by decide +kernel) (by decide)) <|
  mF (sn_iload_n (pc := 81) (j := 2) X (by decide +kernel) rfl) <|
  mF (sn_imul (pc := 82) X (by decide +kernel)) <|
  mF (sn_iadd (pc := 83) X (by decide +kernel)) <|
  mF (sn_callV (pc := 84) X mc_X11_get (me_X11_get l B) yi_X11_get wd_995 wd_997 wd_12 (T := TX11) (N := 22) rfl (by decide) (by decide +kernel)) <|
  mF (sn_istore_n (pc := 87) (j := 3) X (by decide +kernel) rfl (by decide)) <|
  mF (sn_aload_n (pc := 88) (j := 0) X (by decide +kernel) rfl) <|
  mF (sn_iload_n (pc := 89) (j := 1) X (by decide +kernel) rfl) <|
  mF (sn_bipush (pc := 90) (n := 28) X (by decide +kernel) (by decide)) <|
  mF (sn_iconst (pc := 92) (n := 2) X (by decide +kernel) (by decide)) <|
  mF (sn_iload_n (pc := 93) (j := 2) X (by decide +kernel) rfl) <|
  mF (sn_imul (pc := 94) X (by decide +kernel)) <|
  mF (sn_iadd (pc := 95) X (by decide +kernel)) <|
  mF (sn_aload_n (pc := 96) (j := 0) X (by decide +kernel) rfl) <|
  mF (sn_iload_n (pc := 97) (j := 1) X (by decide +kernel) rfl) <|
  mF (sn_bipush (pc := 98) (n := 28) X (by decide +kernel) (by decide)) <|
  mF (sn_iconst (pc := 100) (n := 2) X (by decide +kernel) (by decide)) <|
  mF (sn_iload_n (pc := 101) (j := 2) X (by decide +kernel) rfl) <|
  mF (sn_imul (pc := 102) X (by decide +kernel)) <|
  mF (sn_iadd (pc := 103) X (by decide +kernel)) <|
  mF (sn_iconst (pc := 104) (n := 1) X (by decide +kernel) (by decide)) <|
  mF (sn_iadd (pc := 105) X (by decide +kernel)) <|
  mF (sn_callV (pc := 106) X mc_X11_get (me_X11_get l B) yi_X11_get wd_995 wd_997 wd_12 (T := TX11) (N := 22) rfl (by decide) (by decide +kernel)) <|
  mF0
set_option maxRecDepth 100000 in
set_option maxHeartbeats 4000000 in
theorem sd_X11_mirror_c1 (l : Launch) (B : mBs) (p : Program) (e : Env) (s : State) (m : MethodId) (args : Array Value) (below : List Frame) (meth : Method) (c : Code) (Q : mQo) (X : mCx l B RX11 cX11_mirror 4 p s m args c) (hr : meth.sig.returnType = (some .long)) (hk : meth.locks = false) (hn : meth.name = "mirror") : ∀ q ∈ tb_X11_mirror_c1, mSnd l B 4 p e (mRm 2 0 0) s m args below meth c (MQ below (mPo B Q) args s 0 0 (mA B)) (fun r h' => (h'.1.2.1 ≤ 0 ∧ h'.1.2.2 ≤ 0) ∧ Q r h') q.2 q.1 :=
  mF (sn_ineg (pc := 109) X (by decide +kernel)) <|
  mF (sn_callV (pc := 110) X mc_X11_put (me_X11_put l B) yi_X11_put wd_1013 wd_1015 wd_16 (T := TX11) (N := 22) rfl (by decide) (by decide +kernel)) <|
  mF (sn_aload_n (pc := 113) (j := 0) X (by decide +kernel) rfl) <|
  mF (sn_iload_n (pc := 114) (j := 1) X (by decide +kernel) rfl) <|
  mF (sn_bipush (pc := 115) (n := 28) X (by decide +kernel) (by decide)) <|
  mF (sn_iconst (pc := 117) (n := 2) X (by decide +kernel) (by decide)) <|
  mF (sn_iload_n (pc := 118) (j := 2) X (by decide +kernel) rfl) <|
  mF (sn_imul (pc := 119) X (by decide +kernel)) <|
  mF (sn_iadd (pc := 120) X (by decide +kernel)) <|
  mF (sn_iconst (pc := 121) (n := 1) X (by decide +kernel) (by decide)) <|
  mF (sn_iadd (pc := 122) X (by decide +kernel)) <|
  mF (sn_iload_n (pc := 123) (j := 3) X (by decide +kernel) rfl) <|
  mF (sn_ineg (pc := 124) X (by decide +kernel)) <|
  mF (sn_callV (pc := 125) X mc_X11_put (me_X11_put l B) yi_X11_put wd_1013 wd_1015 wd_16 (T := TX11) (N := 22) rfl (by decide) (by decide +kernel)) <|
  mF (sn_iinc (pc := 128) (n := 1) X (by decide +kernel) (by decide) (by decide)) <|
  mF (sn_goto (pc := 131) (off := (-81)) X (by decide +kernel) (by decide)) <|
  mF (sn_iconst (pc := 134) (n := 0) X (by decide +kernel) (by decide)) <|
  mF (sn_istore_n (pc := 135) (j := 2) X (by decide +kernel) rfl (by decide)) <|
  mF (sn_iload_n (pc := 136) (j := 2) X (by decide +kernel) rfl) <|
  mF (sn_bipush (pc := 137) (n := 12) X (by decide +kernel) (by decide)) <|
  mF (sn_icmp_ge (pc := 139) (off := 64) X (by decide +kernel) (by decide)) <|
  mF (sn_aload_n (pc := 142) (j := 0) X (by decide +kernel) rfl) <|
  mF (sn_iload_n (pc := 143) (j := 1) X (by decide +kernel) rfl) <|
  mF (sn_sipush (pc := 144) (n := 130) X (by decide +kernel) (by decide)) <|
  mF (sn_iconst (pc := 147) (n := 3) X (by decide +kernel) (by decide)) <|
  mF (sn_iload_n (pc := 148) (j := 2) X (by decide +kernel) rfl) <|
  mF (sn_imul (pc := 149) X (by decide +kernel)) <|
  mF (sn_iadd (pc := 150) X (by decide +kernel)) <|
  mF (sn_callV (pc := 151) X mc_X11_turn (me_X11_turn l B) yi_X11_turn wd_1289 wd_1291 wd_47 (T := TX11) (N := 22) rfl (by decide) (by decide +kernel)) <|
  mF (sn_aload_n (pc := 154) (j := 0) X (by decide +kernel) rfl) <|
  mF (sn_iload_n (pc := 155) (j := 1) X (by decide +kernel) rfl) <|
  mF (sn_sipush (pc := 156) (n := 130) X (by decide +kernel) (by decide)) <|
  mF (sn_iconst (pc := 159) (n := 3) X (by decide +kernel) (by decide)) <|
  mF (sn_iload_n (pc := 160) (j := 2) X (by decide +kernel) rfl) <|
  mF (sn_imul (pc := 161) X (by decide +kernel)) <|
  mF (sn_iadd (pc := 162) X (by decide +kernel)) <|
  mF (sn_iconst (pc := 163) (n := 2) X (by decide +kernel) (by decide)) <|
  mF (sn_iadd (pc := 164) X (by decide +kernel)) <|
  mF (sn_callV (pc := 165) X mc_X11_turn (me_X11_turn l B) yi_X11_turn wd_1289 wd_1291 wd_47 (T := TX11) (N := 22) rfl (by decide) (by decide +kernel)) <|
  mF (sn_iconst (pc := 168) (n := 0) X (by decide +kernel) (by decide)) <|
  mF (sn_istore_n (pc := 169) (j := 3) X (by decide +kernel) rfl (by decide)) <|
  mF (sn_iload_n (pc := 170) (j := 3) X (by decide +kernel) rfl) <|
  mF (sn_bipush (pc := 171) (n := 6) X (by decide +kernel) (by decide)) <|
  mF (sn_icmp_ge (pc := 173) (off := 24) X (by decide +kernel) (by decide)) <|
  mF (sn_aload_n (pc := 176) (j := 0) X (by decide +kernel) rfl) <|
  mF (sn_iload_n (pc := 177) (j := 1) X (by decide +kernel) rfl) <|
  mF (sn_sipush (pc := 178) (n := 167) X (by decide +kernel) (by decide)) <|
  mF (sn_bipush (pc := 181) (n := 6) X (by decide +kernel) (by decide)) <|
  mF (sn_iload_n (pc := 183) (j := 2) X (by decide +kernel) rfl) <|
  mF (sn_imul (pc := 184) X (by decide +kernel)) <|
  mF (sn_iadd (pc := 185) X (by decide +kernel)) <|
  mF (sn_iload_n (pc := 186) (j := 3) X (by decide +kernel) rfl) <|
  mF (sn_iadd (pc := 187) X (by decide +kernel)) <|
  mF (sn_callV (pc := 188) X mc_X11_turn (me_X11_turn l B) yi_X11_turn wd_1289 wd_1291 wd_47 (T := TX11) (N := 22) rfl (by decide) (by decide +kernel)) <|
  mF (sn_iinc (pc := 191) (n := 1) X (by decide +kernel) (by decide) (by decide)) <|
  mF (sn_goto (pc := 194) (off := (-24)) X (by decide +kernel) (by decide)) <|
  mF (sn_iinc (pc := 197) (n := 1) X (by decide +kernel) (by decide) (by decide)) <|
  mF (sn_goto (pc := 200) (off := (-64)) X (by decide +kernel) (by decide)) <|
  mF (sn_aload_n (pc := 203) (j := 0) X (by decide +kernel) rfl) <|
  mF (sn_iload_n (pc := 204) (j := 1) X (by decide +kernel) rfl) <|
  mF (sn_sipush (pc := 205) (n := 128) X (by decide +kernel) (by decide)) <|
  mF (sn_iconst (pc := 208) (n := 1) X (by decide +kernel) (by decide)) <|
  mF (sn_aload_n (pc := 209) (j := 0) X (by decide +kernel) rfl) <|
  mF (sn_iload_n (pc := 210) (j := 1) X (by decide +kernel) rfl) <|
  mF (sn_sipush (pc := 211) (n := 128) X (by decide +kernel) (by decide)) <|
  mF (sn_callV (pc := 214) X mc_X11_get (me_X11_get l B) yi_X11_get wd_995 wd_997 wd_12 (T := TX11) (N := 22) rfl (by decide) (by decide +kernel)) <|
  mF (sn_isub (pc := 217) X (by decide +kernel)) <|
  mF (sn_callV (pc := 218) X mc_X11_put (me_X11_put l B) yi_X11_put wd_1013 wd_1015 wd_16 (T := TX11) (N := 22) rfl (by decide) (by decide +kernel)) <|
  mF (sn_lconst (pc := 221) (n := 0) X (by decide +kernel) (by decide)) <|
  mF (sn_lret (pc := 222) X hr hk (by decide +kernel)) <|
  mF0
theorem sd_X11_mirror (l : Launch) (B : mBs) (p : Program) (e : Env) (s : State) (m : MethodId) (args : Array Value) (below : List Frame) (meth : Method) (c : Code) (Q : mQo) (X : mCx l B RX11 cX11_mirror 4 p s m args c) (hr : meth.sig.returnType = (some .long)) (hk : meth.locks = false) (hn : meth.name = "mirror") : ∀ q ∈ tb_X11_mirror, mSnd l B 4 p e (mRm 2 0 0) s m args below meth c (MQ below (mPo B Q) args s 0 0 (mA B)) (fun r h' => (h'.1.2.1 ≤ 0 ∧ h'.1.2.2 ≤ 0) ∧ Q r h') q.2 q.1 := mFA (sd_X11_mirror_c0 l B p e s m args below meth c Q X hr hk hn) (sd_X11_mirror_c1 l B p e s m args below meth c Q X hr hk hn)
theorem me_X11_mirror (l : Launch) (B : mBs) : mMet l B yX11_mirror cX11_mirror 4 (some .long) 2 0 0 C_X11_mirror := mMet_of (own := RX11) (by decide) rfl (fun p e s m args below meth c Q X hr hk hn => sd_X11_mirror l B p e s m args below meth c Q X hr hk hn)
/-! PuppetStageModel.count(I)J: 34 instructions, depth 1, makes 0 cells of 0 slots -/
def tb_X11_count : mTb := [(0, aLI 1 1), (1, aTs [(0, 32), (1, 47), (2, 64), (3, 70)] 76), (32, aLA 0 33), (33, aPI 0 34), (34, aPI 0 35), (35, aCV 11 2 C_X11_get 38), (38, aLA 0 39), (39, aPI 1 40), (40, aPI 0 41), (41, aCV 11 2 C_X11_get 44), (44, aB (fun x y => x + y) 45), (45, aI2L 46), (46, aRL), (47, aLA 0 48), (48, aPI 0 49), (49, aPI 55 51), (51, aCV 11 2 C_X11_get 54), (54, aLA 0 55), (55, aPI 1 56), (56, aPI 55 58), (58, aCV 11 2 C_X11_get 61), (61, aB (fun x y => x + y) 62), (62, aI2L 63), (63, aRL), (64, aLA 0 65), (65, aGI 11 2 68), (68, aI2L 69), (69, aRL), (70, aLA 0 71), (71, aGI 11 3 74), (74, aI2L 75), (75, aRL), (76, aPL (-9000000000000000001) 79), (79, aRL)]
theorem mt_X11_count : mMT tb_X11_count :=
  mF (mn_LI _ _) <|
  mF (mn_Ts _ _) <|
  mF (mn_LA _ _) <|
  mF (mn_PI _ _) <|
  mF (mn_PI _ _) <|
  mF (mn_CV _ _ mc_X11_get _) <|
  mF (mn_LA _ _) <|
  mF (mn_PI _ _) <|
  mF (mn_PI _ _) <|
  mF (mn_CV _ _ mc_X11_get _) <|
  mF (mn_B _ _) <|
  mF (mn_I2L _) <|
  mF (mn_RL) <|
  mF (mn_LA _ _) <|
  mF (mn_PI _ _) <|
  mF (mn_PI _ _) <|
  mF (mn_CV _ _ mc_X11_get _) <|
  mF (mn_LA _ _) <|
  mF (mn_PI _ _) <|
  mF (mn_PI _ _) <|
  mF (mn_CV _ _ mc_X11_get _) <|
  mF (mn_B _ _) <|
  mF (mn_I2L _) <|
  mF (mn_RL) <|
  mF (mn_LA _ _) <|
  mF (mn_GI _ _ _) <|
  mF (mn_I2L _) <|
  mF (mn_RL) <|
  mF (mn_LA _ _) <|
  mF (mn_GI _ _ _) <|
  mF (mn_I2L _) <|
  mF (mn_RL) <|
  mF (mn_PL _ _) <|
  mF (mn_RL) <|
  mF0
def C_X11_count : mCo := mRun tb_X11_count 2
theorem mc_X11_count : mMC C_X11_count := mRun_mn mt_X11_count 2
theorem yi_X11_count : mYin yX11_count cX11_count 2 (some .long) 1 := ⟨wd_60, wd_1296, by decide +kernel, by decide⟩
set_option maxRecDepth 100000 in
set_option maxHeartbeats 4000000 in
theorem sd_X11_count (l : Launch) (B : mBs) (p : Program) (e : Env) (s : State) (m : MethodId) (args : Array Value) (below : List Frame) (meth : Method) (c : Code) (Q : mQo) (X : mCx l B RX11 cX11_count 2 p s m args c) (hr : meth.sig.returnType = (some .long)) (hk : meth.locks = false) (hn : meth.name = "count") : ∀ q ∈ tb_X11_count, mSnd l B 2 p e (mRm 1 0 0) s m args below meth c (MQ below (mPo B Q) args s 0 0 (mA B)) (fun r h' => (h'.1.2.1 ≤ 0 ∧ h'.1.2.2 ≤ 0) ∧ Q r h') q.2 q.1 :=
  mF (sn_iload_n (pc := 0) (j := 1) X (by decide +kernel) rfl) <|
  mF (sn_ts (pc := 1) (dflt := 75) (lo := 0) (hi := 3) (offs := #[31, 46, 63, 69]) (len := 31) X (by decide +kernel) ⟨by decide, by decide, by decide⟩) <|
  mF (sn_aload_n (pc := 32) (j := 0) X (by decide +kernel) rfl) <|
  mF (sn_iconst (pc := 33) (n := 0) X (by decide +kernel) (by decide)) <|
  mF (sn_iconst (pc := 34) (n := 0) X (by decide +kernel) (by decide)) <|
  mF (sn_callV (pc := 35) X mc_X11_get (me_X11_get l B) yi_X11_get wd_995 wd_997 wd_12 (T := TX11) (N := 22) rfl (by decide) (by decide +kernel)) <|
  mF (sn_aload_n (pc := 38) (j := 0) X (by decide +kernel) rfl) <|
  mF (sn_iconst (pc := 39) (n := 1) X (by decide +kernel) (by decide)) <|
  mF (sn_iconst (pc := 40) (n := 0) X (by decide +kernel) (by decide)) <|
  mF (sn_callV (pc := 41) X mc_X11_get (me_X11_get l B) yi_X11_get wd_995 wd_997 wd_12 (T := TX11) (N := 22) rfl (by decide) (by decide +kernel)) <|
  mF (sn_iadd (pc := 44) X (by decide +kernel)) <|
  mF (sn_i2l (pc := 45) X (by decide +kernel)) <|
  mF (sn_lret (pc := 46) X hr hk (by decide +kernel)) <|
  mF (sn_aload_n (pc := 47) (j := 0) X (by decide +kernel) rfl) <|
  mF (sn_iconst (pc := 48) (n := 0) X (by decide +kernel) (by decide)) <|
  mF (sn_bipush (pc := 49) (n := 55) X (by decide +kernel) (by decide)) <|
  mF (sn_callV (pc := 51) X mc_X11_get (me_X11_get l B) yi_X11_get wd_995 wd_997 wd_12 (T := TX11) (N := 22) rfl (by decide) (by decide +kernel)) <|
  mF (sn_aload_n (pc := 54) (j := 0) X (by decide +kernel) rfl) <|
  mF (sn_iconst (pc := 55) (n := 1) X (by decide +kernel) (by decide)) <|
  mF (sn_bipush (pc := 56) (n := 55) X (by decide +kernel) (by decide)) <|
  mF (sn_callV (pc := 58) X mc_X11_get (me_X11_get l B) yi_X11_get wd_995 wd_997 wd_12 (T := TX11) (N := 22) rfl (by decide) (by decide +kernel)) <|
  mF (sn_iadd (pc := 61) X (by decide +kernel)) <|
  mF (sn_i2l (pc := 62) X (by decide +kernel)) <|
  mF (sn_lret (pc := 63) X hr hk (by decide +kernel)) <|
  mF (sn_aload_n (pc := 64) (j := 0) X (by decide +kernel) rfl) <|
  mF (sn_getI (pc := 65) X fd_X11_57 (by decide +kernel)) <|
  mF (sn_i2l (pc := 68) X (by decide +kernel)) <|
  mF (sn_lret (pc := 69) X hr hk (by decide +kernel)) <|
  mF (sn_aload_n (pc := 70) (j := 0) X (by decide +kernel) rfl) <|
  mF (sn_getI (pc := 71) X fd_X11_193 (by decide +kernel)) <|
  mF (sn_i2l (pc := 74) X (by decide +kernel)) <|
  mF (sn_lret (pc := 75) X hr hk (by decide +kernel)) <|
  mF (sn_ldc2 (pc := 76) X (by decide +kernel) wd_999) <|
  mF (sn_lret (pc := 79) X hr hk (by decide +kernel)) <|
  mF0
theorem me_X11_count (l : Launch) (B : mBs) : mMet l B yX11_count cX11_count 2 (some .long) 1 0 0 C_X11_count := mMet_of (own := RX11) (by decide) rfl (fun p e s m args below meth c Q X hr hk hn => sd_X11_count l B p e s m args below meth c Q X hr hk hn)
