/-! PuppetStage.reach(IIII)J: 126 instructions, depth 7, makes 0 cells of 0 slots -/
def tb_X10_reach_c0 : mTb := [(0, aLA 0 1), (1, aLI 1 2), (2, aCV 10 1 C_X10_puppetOf 5), (5, aSA 5 7), (7, aLA 5 9), (9, aNu 33 12), (12, aLA 5 14), (14, aGR 7 0 17), (17, aLI 2 18), (18, aCV 5 1 C_X5_has 21), (21, aIf (fun x => x = 0) 33 24), (24, aLI 3 25), (25, aLI 4 27), (27, aCS 2 C_X10_isPlace 30), (30, aIf (fun x => x = 0) 33 37), (33, aPL (-9000000000000000001) 36), (36, aRL), (37, aLA 0 38), (38, aGR 10 2 41), (41, aLA 0 42), (42, aGR 10 0 45), (45, aLA 0 46), (46, aGR 10 1 49), (49, aCV 3 2 C_X3_keep 52), (52, aLA 5 54), (54, aGR 7 0 57), (57, aGR 5 3 60), (60, aLA 0 61), (61, aGR 10 8 64), (64, aCS 2 C_X10_copyRow 67), (67, aPI (-32) 69), (69, aLA 5 71), (71, aGR 7 2 74), (74, aGI 0 4 77), (77, aPI 4 78), (78, aB (fun x y => x - y) 79), (79, aM2 (fun x y => if x < y then y else x) 82), (82, aSI 6 84), (84, aPI 31 86), (86, aLA 5 88), (88, aGR 7 2 91), (91, aGI 0 4 94), (94, aPI 4 95), (95, aB (fun x y => x + y) 96), (96, aM2 (fun x y => if y < x then y else x) 99), (99, aSI 7 101), (101, aLI 6 103), (103, aSI 8 105), (105, aPL 1000000000000000000 108), (108, aSL 9 110), (110, aLI 6 112), (112, aSI 11 114), (114, aLI 11 116), (116, aLI 7 118), (118, aIc (fun x y => y < x) 245 121), (121, aLA 0 122), (122, aGR 10 8 125), (125, aLA 5 127), (127, aGR 7 0 130), (130, aGR 5 3 133), (133, aCS 2 C_X10_copyRow 136), (136, aLA 5 138), (138, aGR 7 2 141), (141, aLI 11 143), (143, aWI 0 4 146), (146, aLA 0 147), (147, aGR 10 5 150), (150, aLA 5 152), (152, aPI 60 154), (154, aCV 8 2 C_X8_settle 157)]
theorem mt_X10_reach_c0 : mMT tb_X10_reach_c0 :=
  mF (mn_LA _ _) <|
  mF (mn_LI _ _) <|
  mF (mn_CV _ _ mc_X10_puppetOf _) <|
  mF (mn_SA _ _) <|
  mF (mn_LA _ _) <|
  mF (mn_Nu _ _) <|
  mF (mn_LA _ _) <|
  mF (mn_GR _ _ _) <|
  mF (mn_LI _ _) <|
  mF (mn_CV _ _ mc_X5_has _) <|
  mF (mn_If _ _ _) <|
  mF (mn_LI _ _) <|
  mF (mn_LI _ _) <|
  mF (mn_CS _ mc_X10_isPlace _) <|
  mF (mn_If _ _ _) <|
  mF (mn_PL _ _) <|
  mF (mn_RL) <|
  mF (mn_LA _ _) <|
  mF (mn_GR _ _ _) <|
  mF (mn_LA _ _) <|
  mF (mn_GR _ _ _) <|
  mF (mn_LA _ _) <|
  mF (mn_GR _ _ _) <|
  mF (mn_CV _ _ mc_X3_keep _) <|
  mF (mn_LA _ _) <|
  mF (mn_GR _ _ _) <|
  mF (mn_GR _ _ _) <|
  mF (mn_LA _ _) <|
  mF (mn_GR _ _ _) <|
  mF (mn_CS _ mc_X10_copyRow _) <|
  mF (mn_PI _ _) <|
  mF (mn_LA _ _) <|
  mF (mn_GR _ _ _) <|
  mF (mn_GI _ _ _) <|
  mF (mn_PI _ _) <|
  mF (mn_B _ _) <|
  mF (mn_M2 _ _) <|
  mF (mn_SI _ _) <|
  mF (mn_PI _ _) <|
  mF (mn_LA _ _) <|
  mF (mn_GR _ _ _) <|
  mF (mn_GI _ _ _) <|
  mF (mn_PI _ _) <|
  mF (mn_B _ _) <|
  mF (mn_M2 _ _) <|
  mF (mn_SI _ _) <|
  mF (mn_LI _ _) <|
  mF (mn_SI _ _) <|
  mF (mn_PL _ _) <|
  mF (mn_SL _ _) <|
  mF (mn_LI _ _) <|
  mF (mn_SI _ _) <|
  mF (mn_LI _ _) <|
  mF (mn_LI _ _) <|
  mF (mn_Ic _ _ _) <|
  mF (mn_LA _ _) <|
  mF (mn_GR _ _ _) <|
  mF (mn_LA _ _) <|
  mF (mn_GR _ _ _) <|
  mF (mn_GR _ _ _) <|
  mF (mn_CS _ mc_X10_copyRow _) <|
  mF (mn_LA _ _) <|
  mF (mn_GR _ _ _) <|
  mF (mn_LI _ _) <|
  mF (mn_WI _ _ _) <|
  mF (mn_LA _ _) <|
  mF (mn_GR _ _ _) <|
  mF (mn_LA _ _) <|
  mF (mn_PI _ _) <|
  mF (mn_CV _ _ mc_X8_settle _) <|
  mF0
def tb_X10_reach_c1 : mTb := [(157, aPop 158), (158, aLA 0 159), (159, aGR 10 3 162), (162, aLA 5 164), (164, aGR 7 0 167), (167, aCV 1 1 C_X1_layLimbs 170), (170, aLA 0 171), (171, aGR 10 3 174), (174, aGR 1 5 177), (177, aLI 2 178), (178, aIA 179), (179, aPI 1024 182), (182, aLI 3 183), (183, aB (fun x y => x * y) 184), (184, aB (fun x y => x - y) 185), (185, aI2L 186), (186, aLA 0 187), (187, aGR 10 3 190), (190, aGR 1 6 193), (193, aLI 2 194), (194, aIA 195), (195, aPI 1024 198), (198, aLI 4 200), (200, aB (fun x y => x * y) 201), (201, aB (fun x y => x - y) 202), (202, aI2L 203), (203, aCS 2 C_X10_squareOf 206), (206, aSL 12 208), (208, aLL 12 210), (210, aLL 9 212), (212, aCmp 213), (213, aIf (fun x => 0 ≤ x) 239 216), (216, aLL 12 218), (218, aSL 9 220), (220, aLI 11 222), (222, aSI 8 224), (224, aLA 5 226), (226, aGR 7 0 229), (229, aGR 5 3 232), (232, aLA 0 233), (233, aGR 10 9 236), (236, aCS 2 C_X10_copyRow 239), (239, aInc 11 1 242), (242, aGo 114), (245, aLA 5 247), (247, aGR 7 2 250), (250, aLI 8 252), (252, aWI 0 4 255), (255, aLA 0 256), (256, aGR 10 9 259), (259, aLA 5 261), (261, aGR 7 0 264), (264, aGR 5 3 267), (267, aCS 2 C_X10_copyRow 270), (270, aLL 9 272), (272, aRL)]
theorem mt_X10_reach_c1 : mMT tb_X10_reach_c1 :=
  mF (mn_Pop _) <|
  mF (mn_LA _ _) <|
  mF (mn_GR _ _ _) <|
  mF (mn_LA _ _) <|
  mF (mn_GR _ _ _) <|
  mF (mn_CV _ _ mc_X1_layLimbs _) <|
  mF (mn_LA _ _) <|
  mF (mn_GR _ _ _) <|
  mF (mn_GR _ _ _) <|
  mF (mn_LI _ _) <|
  mF (mn_IA _) <|
  mF (mn_PI _ _) <|
  mF (mn_LI _ _) <|
  mF (mn_B _ _) <|
  mF (mn_B _ _) <|
  mF (mn_I2L _) <|
  mF (mn_LA _ _) <|
  mF (mn_GR _ _ _) <|
  mF (mn_GR _ _ _) <|
  mF (mn_LI _ _) <|
  mF (mn_IA _) <|
  mF (mn_PI _ _) <|
  mF (mn_LI _ _) <|
  mF (mn_B _ _) <|
  mF (mn_B _ _) <|
  mF (mn_I2L _) <|
  mF (mn_CS _ mc_X10_squareOf _) <|
  mF (mn_SL _ _) <|
  mF (mn_LL _ _) <|
  mF (mn_LL _ _) <|
  mF (mn_Cmp _) <|
  mF (mn_If _ _ _) <|
  mF (mn_LL _ _) <|
  mF (mn_SL _ _) <|
  mF (mn_LI _ _) <|
  mF (mn_SI _ _) <|
  mF (mn_LA _ _) <|
  mF (mn_GR _ _ _) <|
  mF (mn_GR _ _ _) <|
  mF (mn_LA _ _) <|
  mF (mn_GR _ _ _) <|
  mF (mn_CS _ mc_X10_copyRow _) <|
  mF (mn_Inc _ _ _) <|
  mF (mn_Go _) <|
  mF (mn_LA _ _) <|
  mF (mn_GR _ _ _) <|
  mF (mn_LI _ _) <|
  mF (mn_WI _ _ _) <|
  mF (mn_LA _ _) <|
  mF (mn_GR _ _ _) <|
  mF (mn_LA _ _) <|
  mF (mn_GR _ _ _) <|
  mF (mn_GR _ _ _) <|
  mF (mn_CS _ mc_X10_copyRow _) <|
  mF (mn_LL _ _) <|
  mF (mn_RL) <|
  mF0
def tb_X10_reach : mTb := tb_X10_reach_c0 ++ (tb_X10_reach_c1)
theorem mt_X10_reach : mMT tb_X10_reach := mFA mt_X10_reach_c0 mt_X10_reach_c1
def C_X10_reach : mCo := mRun tb_X10_reach 14
theorem mc_X10_reach : mMC C_X10_reach := mRun_mn mt_X10_reach 14
theorem yi_X10_reach : mYin yX10_reach cX10_reach 14 (some .long) 4 := ⟨wd_49, wd_801, by decide +kernel, by decide⟩
set_option maxRecDepth 100000 in
set_option maxHeartbeats 4000000 in
theorem sd_X10_reach_c0 (l : Launch) (B : mBs) (p : Program) (e : Env) (s : State) (m : MethodId) (args : Array Value) (below : List Frame) (meth : Method) (c : Code) (Q : mQo) (X : mCx l B RX10 cX10_reach 14 p s m args c) (hr : meth.sig.returnType = (some .long)) (hk : meth.locks = false) (hn : meth.name = "reach") : ∀ q ∈ tb_X10_reach_c0, mSnd l B 14 p e (mRm 7 0 0) s m args below meth c (MQ below (mPo B Q) args s 0 0 (mA B)) (fun r h' => (h'.1.2.1 ≤ 0 ∧ h'.1.2.2 ≤ 0) ∧ Q r h') q.2 q.1 :=
  mF (sn_aload_n (pc := 0) (j := 0) X (by decide +kernel) rfl) <|
  mF (sn_iload_n (pc := 1) (j := 1) X (by decide +kernel) rfl) <|
  mF (sn_callV (pc := 2) X mc_X10_puppetOf (me_X10_puppetOf l B) yi_X10_puppetOf wd_425 wd_427 wd_0 (T := TX10) (N := 11) rfl (by decide) (by decide +kernel)) <|
  mF (sn_astore (pc := 5) X (by decide +kernel) (by decide)) <|
  mF (sn_aload (pc := 7) X (by decide +kernel)) <|
  mF (sn_ifnull (pc := 9) (off := 24) X (by decide +kernel) (by decide)) <|
  mF (sn_aload (pc := 12) X (by decide +kernel)) <|
  mF (sn_getR (pc := 14) X fd_X10_68 (by decide +kernel)) <|
  mF (sn_iload_n (pc := 17) (j := 2) X (by decide +kernel) rfl) <|
  mF (sn_callV (pc := 18) X mc_X5_has (me_X5_has l B) yi_X5_has wd_546 wd_547 wd_548 (T := TX5) (N := 7) rfl (by decide) (by decide +kernel)) <|
  mF (sn_if_eq (pc := 21) (off := 12) X (by decide +kernel) (by decide)) <|
  mF (sn_iload_n (pc := 24) (j := 3) X (by decide +kernel) rfl) <|
  mF (sn_iload (pc := 25) X (by decide +kernel)) <|
  mF (sn_callS (pc := 27) X mc_X10_isPlace (me_X10_isPlace l B) yi_X10_isPlace wd_525 wd_526 (by decide) (by decide +kernel)) <|
  mF (sn_if_ne (pc := 30) (off := 7) X (by decide +kernel) (by decide)) <|
  mF (sn_ldc2 (pc := 33) X (by decide +kernel) wd_432) <|
  mF (sn_lret (pc := 36) X hr hk (by decide +kernel)) <|
  mF (sn_aload_n (pc := 37) (j := 0) X (by decide +kernel) rfl) <|
  mF (sn_getR (pc := 38) X fd_X10_22 (by decide +kernel)) <|
  mF (sn_aload_n (pc := 41) (j := 0) X (by decide +kernel) rfl) <|
  mF (sn_getR (pc := 42) X fd_X10_10 (by decide +kernel)) <|
  mF (sn_aload_n (pc := 45) (j := 0) X (by decide +kernel) rfl) <|
  mF (sn_getR (pc := 46) X fd_X10_16 (by decide +kernel)) <|
  mF (sn_callV (pc := 49) X mc_X3_keep (me_X3_keep l B) yi_X3_keep wd_451 wd_452 wd_453 (T := TX3) (N := 4) rfl (by decide) (by decide +kernel)) <|
  mF (sn_aload (pc := 52) X (by decide +kernel)) <|
  mF (sn_getR (pc := 54) X fd_X10_68 (by decide +kernel)) <|
  mF (sn_getR (pc := 57) X fd_X10_156 (by decide +kernel)) <|
  mF (sn_aload_n (pc := 60) (j := 0) X (by decide +kernel) rfl) <|
  mF (sn_getR (pc := 61) X fd_X10_53 (by decide +kernel)) <|
  mF (sn_callS (pc := 64) X mc_X10_copyRow (me_X10_copyRow l B) yi_X10_copyRow wd_749 wd_464 (by decide) (by decide +kernel)) <|
  mF (sn_bipush (pc := 67) (n := (-32)) X (by decide +kernel) (by decide)) <|
  mF (sn_aload (pc := 69) X (by decide +kernel)) <|
  mF (sn_getR (pc := 71) X fd_X10_165 (by decide +kernel)) <|
  mF (sn_getI (pc := 74) X fd_X10_194 (by decide +kernel)) <|
  mF (sn_iconst (pc := 77) (n := 4) X (by decide +kernel) (by decide)) <|
  mF (sn_isub (pc := 78) X (by decide +kernel)) <|
  mF (sn_max (pc := 79) X (by decide) wd_802 wd_803 wd_61 wd_804 (by decide +kernel)) <|
  mF (sn_istore (pc := 82) X (by decide +kernel) (by decide)) <|
  mF (sn_bipush (pc := 84) (n := 31) X (by decide +kernel) (by decide)) <|
  mF (sn_aload (pc := 86) X (by decide +kernel)) <|
  mF (sn_getR (pc := 88) X fd_X10_165 (by decide +kernel)) <|
  mF (sn_getI (pc := 91) X fd_X10_194 (by decide +kernel)) <|
  mF (sn_iconst (pc := 94) (n := 4) X (by decide +kernel) (by decide)) <|
  mF (sn_iadd (pc := 95) X (by decide +kernel)) <|
  mF (sn_min (pc := 96) X (by decide) wd_466 wd_467 wd_61 wd_468 (by decide +kernel)) <|
  mF (sn_istore (pc := 99) X (by decide +kernel) (by decide)) <|
  mF (sn_iload (pc := 101) X (by decide +kernel)) <|
  mF (sn_istore (pc := 103) X (by decide +kernel) (by decide)) <|
  mF (sn_ldc2 (pc := 105) X (by decide +kernel) wd_805) <|
  mF (sn_lstore (pc := 108) X (by decide +kernel) (by decide)) <|
  mF (sn_iload (pc := 110) X (by decide +kernel)) <|
  mF (sn_istore (pc := 112) X (by decide +kernel) (by decide)) <|
  mF (sn_iload (pc := 114) X (by decide +kernel)) <|
  mF (sn_iload (pc := 116) X (by decide +kernel)) <|
  mF (sn_icmp_gt (pc := 118) (off := 127) X (by decide +kernel) (by decide)) <|
  mF (sn_aload_n (pc := 121) (j := 0) X (by decide +kernel) rfl) <|
  mF (sn_getR (pc := 122) X fd_X10_53 (by decide +kernel)) <|
  mF (sn_aload (pc := 125) X (by decide +kernel)) <|
  mF (sn_getR (pc := 127) X fd_X10_68 (by decide +kernel)) <|
  mF (sn_getR (pc := 130) X fd_X10_156 (by decide +kernel)) <|
  mF (sn_callS (pc := 133) X mc_X10_copyRow (me_X10_copyRow l B) yi_X10_copyRow wd_749 wd_464 (by decide) (by decide +kernel)) <|
  mF (sn_aload (pc := 136) X (by decide +kernel)) <|
  mF (sn_getR (pc := 138) X fd_X10_165 (by decide +kernel)) <|
  mF (sn_iload (pc := 141) X (by decide +kernel)) <|
  mF (sn_putI (pc := 143) X fd_X10_194 ⟨tyX0_ok, nmX0⟩ rfl rfl (by decide +kernel)) <|
  mF (sn_aload_n (pc := 146) (j := 0) X (by decide +kernel) rfl) <|
  mF (sn_getR (pc := 147) X fd_X10_39 (by decide +kernel)) <|
  mF (sn_aload (pc := 150) X (by decide +kernel)) <|
  mF (sn_bipush (pc := 152) (n := 60) X (by decide +kernel) (by decide)) <|
  mF (sn_callV (pc := 154) X mc_X8_settle (me_X8_settle l B) yi_X8_settle wd_717 wd_718 wd_719 (T := TX8) (N := 1) rfl (by decide) (by decide +kernel)) <|
  mF0
set_option maxRecDepth 100000 in
set_option maxHeartbeats 4000000 in
theorem sd_X10_reach_c1 (l : Launch) (B : mBs) (p : Program) (e : Env) (s : State) (m : MethodId) (args : Array Value) (below : List Frame) (meth : Method) (c : Code) (Q : mQo) (X : mCx l B RX10 cX10_reach 14 p s m args c) (hr : meth.sig.returnType = (some .long)) (hk : meth.locks = false) (hn : meth.name = "reach") : ∀ q ∈ tb_X10_reach_c1, mSnd l B 14 p e (mRm 7 0 0) s m args below meth c (MQ below (mPo B Q) args s 0 0 (mA B)) (fun r h' => (h'.1.2.1 ≤ 0 ∧ h'.1.2.2 ≤ 0) ∧ Q r h') q.2 q.1 :=
  mF (sn_pop (pc := 157) X (by decide +kernel)) <|
  mF (sn_aload_n (pc := 158) (j := 0) X (by decide +kernel) rfl) <|
  mF (sn_getR (pc := 159) X fd_X10_29 (by decide +kernel)) <|
  mF (sn_aload (pc := 162) X (by decide +kernel)) <|
  mF (sn_getR (pc := 164) X fd_X10_68 (by decide +kernel)) <|
  mF (sn_callV (pc := 167) X mc_X1_layLimbs (me_X1_layLimbs l B) yi_X1_layLimbs wd_579 wd_580 wd_581 (T := TX1) (N := 11) rfl (by decide) (by decide +kernel)) <|
  mF (sn_aload_n (pc := 170) (j := 0) X (by decide +kernel) rfl) <|
  mF (sn_getR (pc := 171) X fd_X10_29 (by decide +kernel)) <|
  mF (sn_getR (pc := 174) X fd_X10_338 (by decide +kernel)) <|
  mF (sn_iload_n (pc := 177) (j := 2) X (by decide +kernel) rfl) <|
  mF (sn_iaload (pc := 178) X (by decide +kernel)) <|
  mF (sn_sipush (pc := 179) (n := 1024) X (by decide +kernel) (by decide)) <|
  mF (sn_iload_n (pc := 182) (j := 3) X (by decide +kernel) rfl) <|
  mF (sn_imul (pc := 183) X (by decide +kernel)) <|
  mF (sn_isub (pc := 184) X (by decide +kernel)) <|
  mF (sn_i2l (pc := 185) X (by decide +kernel)) <|
  mF (sn_aload_n (pc := 186) (j := 0) X (by decide +kernel) rfl) <|
  mF (sn_getR (pc := 187) X fd_X10_29 (by decide +kernel)) <|
  mF (sn_getR (pc := 190) X fd_X10_341 (by decide +kernel)) <|
  mF (sn_iload_n (pc := 193) (j := 2) X (by decide +kernel) rfl) <|
  mF (sn_iaload (pc := 194) X (by decide +kernel)) <|
  mF (sn_sipush (pc := 195) (n := 1024) X (by decide +kernel) (by decide)) <|
  mF (sn_iload (pc := 198) X (by decide +kernel)) <|
  mF (sn_imul (pc := 200) X (by decide +kernel)) <|
  mF (sn_isub (pc := 201) X (by decide +kernel)) <|
  mF (sn_i2l (pc := 202) X (by decide +kernel)) <|
  mF (sn_callS (pc := 203) X mc_X10_squareOf (me_X10_squareOf l B) yi_X10_squareOf wd_665 wd_666 (by decide) (by decide +kernel)) <|
  mF (sn_lstore (pc := 206) X (by decide +kernel) (by decide)) <|
  mF (sn_lload (pc := 208) X (by decide +kernel)) <|
  mF (sn_lload (pc := 210) X (by decide +kernel)) <|
  mF (sn_lcmp (pc := 212) X (by decide +kernel)) <|
  mF (sn_if_ge (pc := 213) (off := 26) X (by decide +kernel) (by decide)) <|
  mF (sn_lload (pc := 216) X (by decide +kernel)) <|
  mF (sn_lstore (pc := 218) X (by decide +kernel) (by decide)) <|
  mF (sn_iload (pc := 220) X (by decide +kernel)) <|
  mF (sn_istore (pc := 222) X (by decide +kernel) (by decide)) <|
  mF (sn_aload (pc := 224) X (by decide +kernel)) <|
  mF (sn_getR (pc := 226) X fd_X10_68 (by decide +kernel)) <|
  mF (sn_getR (pc := 229) X fd_X10_156 (by decide +kernel)) <|
  mF (sn_aload_n (pc := 232) (j := 0) X (by decide +kernel) rfl) <|
  mF (sn_getR (pc := 233) X fd_X10_57 (by decide +kernel)) <|
  mF (sn_callS (pc := 236) X mc_X10_copyRow (me_X10_copyRow l B) yi_X10_copyRow wd_749 wd_464 (by decide) (by decide +kernel)) <|
  mF (sn_iinc (pc := 239) (n := 1) X (by decide +kernel) (by decide) (by decide)) <|
  mF (sn_goto (pc := 242) (off := (-128)) X (by decide +kernel) (by decide)) <|
  mF (sn_aload (pc := 245) X (by decide +kernel)) <|
  mF (sn_getR (pc := 247) X fd_X10_165 (by decide +kernel)) <|
  mF (sn_iload (pc := 250) X (by decide +kernel)) <|
  mF (sn_putI (pc := 252) X fd_X10_194 ⟨tyX0_ok, nmX0⟩ rfl rfl (by decide +kernel)) <|
  mF (sn_aload_n (pc := 255) (j := 0) X (by decide +kernel) rfl) <|
  mF (sn_getR (pc := 256) X fd_X10_57 (by decide +kernel)) <|
  mF (sn_aload (pc := 259) X (by decide +kernel)) <|
  mF (sn_getR (pc := 261) X fd_X10_68 (by decide +kernel)) <|
  mF (sn_getR (pc := 264) X fd_X10_156 (by decide +kernel)) <|
  mF (sn_callS (pc := 267) X mc_X10_copyRow (me_X10_copyRow l B) yi_X10_copyRow wd_749 wd_464 (by decide) (by decide +kernel)) <|
  mF (sn_lload (pc := 270) X (by decide +kernel)) <|
  mF (sn_lret (pc := 272) X hr hk (by decide +kernel)) <|
  mF0
theorem sd_X10_reach (l : Launch) (B : mBs) (p : Program) (e : Env) (s : State) (m : MethodId) (args : Array Value) (below : List Frame) (meth : Method) (c : Code) (Q : mQo) (X : mCx l B RX10 cX10_reach 14 p s m args c) (hr : meth.sig.returnType = (some .long)) (hk : meth.locks = false) (hn : meth.name = "reach") : ∀ q ∈ tb_X10_reach, mSnd l B 14 p e (mRm 7 0 0) s m args below meth c (MQ below (mPo B Q) args s 0 0 (mA B)) (fun r h' => (h'.1.2.1 ≤ 0 ∧ h'.1.2.2 ≤ 0) ∧ Q r h') q.2 q.1 := mFA (sd_X10_reach_c0 l B p e s m args below meth c Q X hr hk hn) (sd_X10_reach_c1 l B p e s m args below meth c Q X hr hk hn)
theorem me_X10_reach (l : Launch) (B : mBs) : mMet l B yX10_reach cX10_reach 14 (some .long) 7 0 0 C_X10_reach := mMet_of (own := RX10) (by decide) rfl (fun p e s m args below meth c Q X hr hk hn => sd_X10_reach l B p e s m args below meth c Q X hr hk hn)
/-! PuppetStage.areTangled(LPuppetStage$Holds;II)Z: 34 instructions, depth 4, makes 0 cells of 0 slots -/
def tb_X10_areTangled : mTb := [(0, aLA 1 1), (1, aGR 4 0 4), (4, aLI 2 5), (5, aIA 6), (6, aPI 4 7), (7, aIc (fun x y => x = y) 20 10), (10, aLA 1 11), (11, aGR 4 0 14), (14, aLI 3 15), (15, aIA 16), (16, aPI 4 17), (17, aIc (fun x y => x = y) 20 22), (20, aPI 0 21), (21, aRZ), (22, aLA 0 23), (23, aGR 10 3 26), (26, aLA 1 27), (27, aLI 2 28), (28, aLA 0 29), (29, aGR 10 6 32), (32, aCV 1 3 C_X1_drawString 35), (35, aLA 0 36), (36, aGR 10 3 39), (39, aLA 1 40), (40, aLI 3 41), (41, aLA 0 42), (42, aGR 10 7 45), (45, aCV 1 3 C_X1_drawString 48), (48, aLA 0 49), (49, aGR 10 6 52), (52, aLA 0 53), (53, aGR 10 7 56), (56, aCV 6 1 C_X6_goesThrough 59), (59, aRZ)]
theorem mt_X10_areTangled : mMT tb_X10_areTangled :=
  mF (mn_LA _ _) <|
  mF (mn_GR _ _ _) <|
  mF (mn_LI _ _) <|
  mF (mn_IA _) <|
  mF (mn_PI _ _) <|
  mF (mn_Ic _ _ _) <|
  mF (mn_LA _ _) <|
  mF (mn_GR _ _ _) <|
  mF (mn_LI _ _) <|
  mF (mn_IA _) <|
  mF (mn_PI _ _) <|
  mF (mn_Ic _ _ _) <|
  mF (mn_PI _ _) <|
  mF (mn_RZ) <|
  mF (mn_LA _ _) <|
  mF (mn_GR _ _ _) <|
  mF (mn_LA _ _) <|
  mF (mn_LI _ _) <|
  mF (mn_LA _ _) <|
  mF (mn_GR _ _ _) <|
  mF (mn_CV _ _ mc_X1_drawString _) <|
  mF (mn_LA _ _) <|
  mF (mn_GR _ _ _) <|
  mF (mn_LA _ _) <|
  mF (mn_LI _ _) <|
  mF (mn_LA _ _) <|
  mF (mn_GR _ _ _) <|
  mF (mn_CV _ _ mc_X1_drawString _) <|
  mF (mn_LA _ _) <|
  mF (mn_GR _ _ _) <|
  mF (mn_LA _ _) <|
  mF (mn_GR _ _ _) <|
  mF (mn_CV _ _ mc_X6_goesThrough _) <|
  mF (mn_RZ) <|
  mF0
def C_X10_areTangled : mCo := mRun tb_X10_areTangled 4
theorem mc_X10_areTangled : mMC C_X10_areTangled := mRun_mn mt_X10_areTangled 4
theorem yi_X10_areTangled : mYin yX10_areTangled cX10_areTangled 4 (some .boolean) 3 := ⟨wd_49, wd_813, by decide +kernel, by decide⟩
set_option maxRecDepth 100000 in
set_option maxHeartbeats 4000000 in
theorem sd_X10_areTangled (l : Launch) (B : mBs) (p : Program) (e : Env) (s : State) (m : MethodId) (args : Array Value) (below : List Frame) (meth : Method) (c : Code) (Q : mQo) (X : mCx l B RX10 cX10_areTangled 4 p s m args c) (hr : meth.sig.returnType = (some .boolean)) (hk : meth.locks = false) (hn : meth.name = "areTangled") : ∀ q ∈ tb_X10_areTangled, mSnd l B 4 p e (mRm 4 0 0) s m args below meth c (MQ below (mPo B Q) args s 0 0 (mA B)) (fun r h' => (h'.1.2.1 ≤ 0 ∧ h'.1.2.2 ≤ 0) ∧ Q r h') q.2 q.1 :=
  mF (sn_aload_n (pc := 0) (j := 1) X (by decide +kernel) rfl) <|
  mF (sn_getR (pc := 1) X fd_X10_249 (by decide +kernel)) <|
  mF (sn_iload_n (pc := 4) (j := 2) X (by decide +kernel) rfl) <|
  mF (sn_iaload (pc := 5) X (by decide +kernel)) <|
  mF (sn_iconst (pc := 6) (n := 4) X (by decide +kernel) (by decide)) <|
  mF (sn_icmp_eq (pc := 7) (off := 13) X (by decide +kernel) (by decide)) <|
  mF (sn_aload_n (pc := 10) (j := 1) X (by decide +kernel) rfl) <|
  mF (sn_getR (pc := 11) X fd_X10_249 (by decide +kernel)) <|
  mF (sn_iload_n (pc := 14) (j := 3) X (by decide +kernel) rfl) <|
  mF (sn_iaload (pc := 15) X (by decide +kernel)) <|
  mF (sn_iconst (pc := 16) (n := 4) X (by decide +kernel) (by decide)) <|
  mF (sn_icmp_ne (pc := 17) (off := 5) X (by decide +kernel) (by decide)) <|
  mF (sn_iconst (pc := 20) (n := 0) X (by decide +kernel) (by decide)) <|
  mF (sn_zret (pc := 21) X hr hk (by decide +kernel)) <|
  mF (sn_aload_n (pc := 22) (j := 0) X (by decide +kernel) rfl) <|
  mF (sn_getR (pc := 23) X fd_X10_29 (by decide +kernel)) <|
  mF (sn_aload_n (pc := 26) (j := 1) X (by decide +kernel) rfl) <|
  mF (sn_iload_n (pc := 27) (j := 2) X (by decide +kernel) rfl) <|
  mF (sn_aload_n (pc := 28) (j := 0) X (by decide +kernel) rfl) <|
  mF (sn_getR (pc := 29) X fd_X10_46 (by decide +kernel)) <|
  mF (sn_callV (pc := 32) X mc_X1_drawString (me_X1_drawString l B) yi_X1_drawString wd_814 wd_815 wd_816 (T := TX1) (N := 11) rfl (by decide) (by decide +kernel)) <|
  mF (sn_aload_n (pc := 35) (j := 0) X (by decide +kernel) rfl) <|
  mF (sn_getR (pc := 36) X fd_X10_29 (by decide +kernel)) <|
  mF (sn_aload_n (pc := 39) (j := 1) X (by decide +kernel) rfl) <|
  mF (sn_iload_n (pc := 40) (j := 3) X (by decide +kernel) rfl) <|
  mF (sn_aload_n (pc := 41) (j := 0) X (by decide +kernel) rfl) <|
  mF (sn_getR (pc := 42) X fd_X10_50 (by decide +kernel)) <|
  mF (sn_callV (pc := 45) X mc_X1_drawString (me_X1_drawString l B) yi_X1_drawString wd_814 wd_815 wd_816 (T := TX1) (N := 11) rfl (by decide) (by decide +kernel)) <|
  mF (sn_aload_n (pc := 48) (j := 0) X (by decide +kernel) rfl) <|
  mF (sn_getR (pc := 49) X fd_X10_46 (by decide +kernel)) <|
  mF (sn_aload_n (pc := 52) (j := 0) X (by decide +kernel) rfl) <|
  mF (sn_getR (pc := 53) X fd_X10_50 (by decide +kernel)) <|
  mF (sn_callV (pc := 56) X mc_X6_goesThrough (me_X6_goesThrough l B) yi_X6_goesThrough wd_822 wd_823 wd_824 (T := TX6) (N := 4) rfl (by decide) (by decide +kernel)) <|
  mF (sn_zret (pc := 59) X hr hk (by decide +kernel)) <|
  mF0
theorem me_X10_areTangled (l : Launch) (B : mBs) : mMet l B yX10_areTangled cX10_areTangled 4 (some .boolean) 4 0 0 C_X10_areTangled := mMet_of (own := RX10) (by decide) rfl (fun p e s m args below meth c Q X hr hk hn => sd_X10_areTangled l B p e s m args below meth c Q X hr hk hn)
/-! PuppetStage.tangle(I)J: 48 instructions, depth 5, makes 0 cells of 0 slots -/
def tb_X10_tangle : mTb := [(0, aLA 0 1), (1, aLI 1 2), (2, aCV 10 1 C_X10_puppetOf 5), (5, aSA 2 6), (6, aLA 2 7), (7, aNn 14 10), (10, aPL (-9000000000000000001) 13), (13, aRL), (14, aLA 0 15), (15, aGR 10 3 18), (18, aLA 2 19), (19, aCV 1 1 C_X1_lay 22), (22, aPI 0 23), (23, aSI 3 24), (24, aLI 3 25), (25, aLA 2 26), (26, aGR 7 3 29), (29, aGI 4 6 32), (32, aIc (fun x y => y ≤ x) 87 35), (35, aLI 3 36), (36, aPI 1 37), (37, aB (fun x y => x + y) 38), (38, aSI 4 40), (40, aLI 4 42), (42, aLA 2 43), (43, aGR 7 3 46), (46, aGI 4 6 49), (49, aIc (fun x y => y ≤ x) 81 52), (52, aLA 0 53), (53, aLA 2 54), (54, aGR 7 3 57), (57, aLI 3 58), (58, aLI 4 60), (60, aCV 10 3 C_X10_areTangled 63), (63, aIf (fun x => x = 0) 75 66), (66, aPI 12 68), (68, aLI 3 69), (69, aB (fun x y => x * y) 70), (70, aLI 4 72), (72, aB (fun x y => x + y) 73), (73, aI2L 74), (74, aRL), (75, aInc 4 1 78), (78, aGo 40), (81, aInc 3 1 84), (84, aGo 24), (87, aPL (-9000000000000000005) 90), (90, aRL)]
theorem mt_X10_tangle : mMT tb_X10_tangle :=
  mF (mn_LA _ _) <|
  mF (mn_LI _ _) <|
  mF (mn_CV _ _ mc_X10_puppetOf _) <|
  mF (mn_SA _ _) <|
  mF (mn_LA _ _) <|
  mF (mn_Nn _ _) <|
  mF (mn_PL _ _) <|
  mF (mn_RL) <|
  mF (mn_LA _ _) <|
  mF (mn_GR _ _ _) <|
  mF (mn_LA _ _) <|
  mF (mn_CV _ _ mc_X1_lay _) <|
  mF (mn_PI _ _) <|
  mF (mn_SI _ _) <|
  mF (mn_LI _ _) <|
  mF (mn_LA _ _) <|
  mF (mn_GR _ _ _) <|
  mF (mn_GI _ _ _) <|
  mF (mn_Ic _ _ _) <|
  mF (mn_LI _ _) <|
  mF (mn_PI _ _) <|
  mF (mn_B _ _) <|
  mF (mn_SI _ _) <|
  mF (mn_LI _ _) <|
  mF (mn_LA _ _) <|
  mF (mn_GR _ _ _) <|
  mF (mn_GI _ _ _) <|
  mF (mn_Ic _ _ _) <|
  mF (mn_LA _ _) <|
  mF (mn_LA _ _) <|
  mF (mn_GR _ _ _) <|
  mF (mn_LI _ _) <|
  mF (mn_LI _ _) <|
  mF (mn_CV _ _ mc_X10_areTangled _) <|
  mF (mn_If _ _ _) <|
  mF (mn_PI _ _) <|
  mF (mn_LI _ _) <|
  mF (mn_B _ _) <|
  mF (mn_LI _ _) <|
  mF (mn_B _ _) <|
  mF (mn_I2L _) <|
  mF (mn_RL) <|
  mF (mn_Inc _ _ _) <|
  mF (mn_Go _) <|
  mF (mn_Inc _ _ _) <|
  mF (mn_Go _) <|
  mF (mn_PL _ _) <|
  mF (mn_RL) <|
  mF0
def C_X10_tangle : mCo := mRun tb_X10_tangle 5
theorem mc_X10_tangle : mMC C_X10_tangle := mRun_mn mt_X10_tangle 5
theorem yi_X10_tangle : mYin yX10_tangle cX10_tangle 5 (some .long) 1 := ⟨wd_49, wd_809, by decide +kernel, by decide⟩
set_option maxRecDepth 100000 in
set_option maxHeartbeats 4000000 in
theorem sd_X10_tangle (l : Launch) (B : mBs) (p : Program) (e : Env) (s : State) (m : MethodId) (args : Array Value) (below : List Frame) (meth : Method) (c : Code) (Q : mQo) (X : mCx l B RX10 cX10_tangle 5 p s m args c) (hr : meth.sig.returnType = (some .long)) (hk : meth.locks = false) (hn : meth.name = "tangle") : ∀ q ∈ tb_X10_tangle, mSnd l B 5 p e (mRm 5 0 0) s m args below meth c (MQ below (mPo B Q) args s 0 0 (mA B)) (fun r h' => (h'.1.2.1 ≤ 0 ∧ h'.1.2.2 ≤ 0) ∧ Q r h') q.2 q.1 :=
  mF (sn_aload_n (pc := 0) (j := 0) X (by decide +kernel) rfl) <|
  mF (sn_iload_n (pc := 1) (j := 1) X (by decide +kernel) rfl) <|
  mF (sn_callV (pc := 2) X mc_X10_puppetOf (me_X10_puppetOf l B) yi_X10_puppetOf wd_425 wd_427 wd_0 (T := TX10) (N := 11) rfl (by decide) (by decide +kernel)) <|
  mF (sn_astore_n (pc := 5) (j := 2) X (by decide +kernel) rfl (by decide)) <|
  mF (sn_aload_n (pc := 6) (j := 2) X (by decide +kernel) rfl) <|
  mF (sn_ifnonnull (pc := 7) (off := 7) X (by decide +kernel) (by decide)) <|
  mF (sn_ldc2 (pc := 10) X (by decide +kernel) wd_432) <|
  mF (sn_lret (pc := 13) X hr hk (by decide +kernel)) <|
  mF (sn_aload_n (pc := 14) (j := 0) X (by decide +kernel) rfl) <|
  mF (sn_getR (pc := 15) X fd_X10_29 (by decide +kernel)) <|
  mF (sn_aload_n (pc := 18) (j := 2) X (by decide +kernel) rfl) <|
  mF (sn_callV (pc := 19) X mc_X1_lay (me_X1_lay l B) yi_X1_lay wd_643 wd_644 wd_645 (T := TX1) (N := 11) rfl (by decide) (by decide +kernel)) <|
  mF (sn_iconst (pc := 22) (n := 0) X (by decide +kernel) (by decide)) <|
  mF (sn_istore_n (pc := 23) (j := 3) X (by decide +kernel) rfl (by decide)) <|
  mF (sn_iload_n (pc := 24) (j := 3) X (by decide +kernel) rfl) <|
  mF (sn_aload_n (pc := 25) (j := 2) X (by decide +kernel) rfl) <|
  mF (sn_getR (pc := 26) X fd_X10_115 (by decide +kernel)) <|
  mF (sn_getI (pc := 29) X fd_X10_187 (by decide +kernel)) <|
  mF (sn_icmp_ge (pc := 32) (off := 55) X (by decide +kernel) (by decide)) <|
  mF (sn_iload_n (pc := 35) (j := 3) X (by decide +kernel) rfl) <|
  mF (sn_iconst (pc := 36) (n := 1) X (by decide +kernel) (by decide)) <|
  mF (sn_iadd (pc := 37) X (by decide +kernel)) <|
  mF (sn_istore (pc := 38) X (by decide +kernel) (by decide)) <|
  mF (sn_iload (pc := 40) X (by decide +kernel)) <|
  mF (sn_aload_n (pc := 42) (j := 2) X (by decide +kernel) rfl) <|
  mF (sn_getR (pc := 43) X fd_X10_115 (by decide +kernel)) <|
  mF (sn_getI (pc := 46) X fd_X10_187 (by decide +kernel)) <|
  mF (sn_icmp_ge (pc := 49) (off := 32) X (by decide +kernel) (by decide)) <|
  mF (sn_aload_n (pc := 52) (j := 0) X (by decide +kernel) rfl) <|
  mF (sn_aload_n (pc := 53) (j := 2) X (by decide +kernel) rfl) <|
  mF (sn_getR (pc := 54) X fd_X10_115 (by decide +kernel)) <|
  mF (sn_iload_n (pc := 57) (j := 3) X (by decide +kernel) rfl) <|
  mF (sn_iload (pc := 58) X (by decide +kernel)) <|
  mF (sn_callV (pc := 60) X mc_X10_areTangled (me_X10_areTangled l B) yi_X10_areTangled wd_810 wd_812 wd_8 (T := TX10) (N := 11) rfl (by decide) (by decide +kernel)) <|
  mF (sn_if_eq (pc := 63) (off := 12) X (by decide +kernel) (by decide)) <|
  mF (sn_bipush (pc := 66) (n := 12) X (by decide +kernel) (by decide)) <|
  mF (sn_iload_n (pc := 68) (j := 3) X (by decide +kernel) rfl) <|
  mF (sn_imul (pc := 69) X (by decide +kernel)) <|
  mF (sn_iload (pc := 70) X (by decide +kernel)) <|
  mF (sn_iadd (pc := 72) X (by decide +kernel)) <|
  mF (sn_i2l (pc := 73) X (by decide +kernel)) <|
  mF (sn_lret (pc := 74) X hr hk (by decide +kernel)) <|
  mF (sn_iinc (pc := 75) (n := 1) X (by decide +kernel) (by decide) (by decide)) <|
  mF (sn_goto (pc := 78) (off := (-38)) X (by decide +kernel) (by decide)) <|
  mF (sn_iinc (pc := 81) (n := 1) X (by decide +kernel) (by decide) (by decide)) <|
  mF (sn_goto (pc := 84) (off := (-60)) X (by decide +kernel) (by decide)) <|
  mF (sn_ldc2 (pc := 87) X (by decide +kernel) wd_574) <|
  mF (sn_lret (pc := 90) X hr hk (by decide +kernel)) <|
  mF0
theorem me_X10_tangle (l : Launch) (B : mBs) : mMet l B yX10_tangle cX10_tangle 5 (some .long) 5 0 0 C_X10_tangle := mMet_of (own := RX10) (by decide) rfl (fun p e s m args below meth c Q X hr hk hn => sd_X10_tangle l B p e s m args below meth c Q X hr hk hn)
/-! PuppetStage.meet()J: 59 instructions, depth 4, makes 0 cells of 0 slots -/
def tb_X10_meet : mTb := [(0, aLA 0 1), (1, aGR 10 3 4), (4, aLA 0 5), (5, aGR 10 0 8), (8, aGR 7 0 11), (11, aCV 1 1 C_X1_layLimbs 14), (14, aLA 0 15), (15, aGR 10 4 18), (18, aLA 0 19), (19, aGR 10 1 22), (22, aGR 7 0 25), (25, aCV 1 1 C_X1_layLimbs 28), (28, aPI 0 29), (29, aSI 1 30), (30, aLI 1 31), (31, aLA 0 32), (32, aGR 10 0 35), (35, aGR 7 0 38), (38, aGI 5 4 41), (41, aIc (fun x y => y ≤ x) 118 44), (44, aLA 0 45), (45, aGR 10 3 48), (48, aLI 1 49), (49, aLA 0 50), (50, aGR 10 6 53), (53, aCV 1 2 C_X1_drawLimb 56), (56, aPI 0 57), (57, aSI 2 58), (58, aLI 2 59), (59, aLA 0 60), (60, aGR 10 1 63), (63, aGR 7 0 66), (66, aGI 5 4 69), (69, aIc (fun x y => y ≤ x) 112 72), (72, aLA 0 73), (73, aGR 10 4 76), (76, aLI 2 77), (77, aLA 0 78), (78, aGR 10 7 81), (81, aCV 1 2 C_X1_drawLimb 84), (84, aLA 0 85), (85, aGR 10 6 88), (88, aLA 0 89), (89, aGR 10 7 92), (92, aCV 6 1 C_X6_touches 95), (95, aIf (fun x => x = 0) 106 98), (98, aPI 6 100), (100, aLI 1 101), (101, aB (fun x y => x * y) 102), (102, aLI 2 103), (103, aB (fun x y => x + y) 104), (104, aI2L 105), (105, aRL), (106, aInc 2 1 109), (109, aGo 58), (112, aInc 1 1 115), (115, aGo 30), (118, aPL (-9000000000000000005) 121), (121, aRL)]
theorem mt_X10_meet : mMT tb_X10_meet :=
  mF (mn_LA _ _) <|
  mF (mn_GR _ _ _) <|
  mF (mn_LA _ _) <|
  mF (mn_GR _ _ _) <|
  mF (mn_GR _ _ _) <|
  mF (mn_CV _ _ mc_X1_layLimbs _) <|
  mF (mn_LA _ _) <|
  mF (mn_GR _ _ _) <|
  mF (mn_LA _ _) <|
  mF (mn_GR _ _ _) <|
  mF (mn_GR _ _ _) <|
  mF (mn_CV _ _ mc_X1_layLimbs _) <|
  mF (mn_PI _ _) <|
  mF (mn_SI _ _) <|
  mF (mn_LI _ _) <|
  mF (mn_LA _ _) <|
  mF (mn_GR _ _ _) <|
  mF (mn_GR _ _ _) <|
  mF (mn_GI _ _ _) <|
  mF (mn_Ic _ _ _) <|
  mF (mn_LA _ _) <|
  mF (mn_GR _ _ _) <|
  mF (mn_LI _ _) <|
  mF (mn_LA _ _) <|
  mF (mn_GR _ _ _) <|
  mF (mn_CV _ _ mc_X1_drawLimb _) <|
  mF (mn_PI _ _) <|
  mF (mn_SI _ _) <|
  mF (mn_LI _ _) <|
  mF (mn_LA _ _) <|
  mF (mn_GR _ _ _) <|
  mF (mn_GR _ _ _) <|
  mF (mn_GI _ _ _) <|
  mF (mn_Ic _ _ _) <|
  mF (mn_LA _ _) <|
  mF (mn_GR _ _ _) <|
  mF (mn_LI _ _) <|
  mF (mn_LA _ _) <|
  mF (mn_GR _ _ _) <|
  mF (mn_CV _ _ mc_X1_drawLimb _) <|
  mF (mn_LA _ _) <|
  mF (mn_GR _ _ _) <|
  mF (mn_LA _ _) <|
  mF (mn_GR _ _ _) <|
  mF (mn_CV _ _ mc_X6_touches _) <|
  mF (mn_If _ _ _) <|
  mF (mn_PI _ _) <|
  mF (mn_LI _ _) <|
  mF (mn_B _ _) <|
  mF (mn_LI _ _) <|
  mF (mn_B _ _) <|
  mF (mn_I2L _) <|
  mF (mn_RL) <|
  mF (mn_Inc _ _ _) <|
  mF (mn_Go _) <|
  mF (mn_Inc _ _ _) <|
  mF (mn_Go _) <|
  mF (mn_PL _ _) <|
  mF (mn_RL) <|
  mF0
def C_X10_meet : mCo := mRun tb_X10_meet 3
theorem mc_X10_meet : mMC C_X10_meet := mRun_mn mt_X10_meet 3
theorem yi_X10_meet : mYin yX10_meet cX10_meet 3 (some .long) 0 := ⟨wd_49, wd_840, by decide +kernel, by decide⟩
set_option maxRecDepth 100000 in
set_option maxHeartbeats 4000000 in
theorem sd_X10_meet (l : Launch) (B : mBs) (p : Program) (e : Env) (s : State) (m : MethodId) (args : Array Value) (below : List Frame) (meth : Method) (c : Code) (Q : mQo) (X : mCx l B RX10 cX10_meet 3 p s m args c) (hr : meth.sig.returnType = (some .long)) (hk : meth.locks = false) (hn : meth.name = "meet") : ∀ q ∈ tb_X10_meet, mSnd l B 3 p e (mRm 4 0 0) s m args below meth c (MQ below (mPo B Q) args s 0 0 (mA B)) (fun r h' => (h'.1.2.1 ≤ 0 ∧ h'.1.2.2 ≤ 0) ∧ Q r h') q.2 q.1 :=
  mF (sn_aload_n (pc := 0) (j := 0) X (by decide +kernel) rfl) <|
  mF (sn_getR (pc := 1) X fd_X10_29 (by decide +kernel)) <|
  mF (sn_aload_n (pc := 4) (j := 0) X (by decide +kernel) rfl) <|
  mF (sn_getR (pc := 5) X fd_X10_10 (by decide +kernel)) <|
  mF (sn_getR (pc := 8) X fd_X10_68 (by decide +kernel)) <|
  mF (sn_callV (pc := 11) X mc_X1_layLimbs (me_X1_layLimbs l B) yi_X1_layLimbs wd_579 wd_580 wd_581 (T := TX1) (N := 11) rfl (by decide) (by decide +kernel)) <|
  mF (sn_aload_n (pc := 14) (j := 0) X (by decide +kernel) rfl) <|
  mF (sn_getR (pc := 15) X fd_X10_33 (by decide +kernel)) <|
  mF (sn_aload_n (pc := 18) (j := 0) X (by decide +kernel) rfl) <|
  mF (sn_getR (pc := 19) X fd_X10_16 (by decide +kernel)) <|
  mF (sn_getR (pc := 22) X fd_X10_68 (by decide +kernel)) <|
  mF (sn_callV (pc := 25) X mc_X1_layLimbs (me_X1_layLimbs l B) yi_X1_layLimbs wd_579 wd_580 wd_581 (T := TX1) (N := 11) rfl (by decide) (by decide +kernel)) <|
  mF (sn_iconst (pc := 28) (n := 0) X (by decide +kernel) (by decide)) <|
  mF (sn_istore_n (pc := 29) (j := 1) X (by decide +kernel) rfl (by decide)) <|
  mF (sn_iload_n (pc := 30) (j := 1) X (by decide +kernel) rfl) <|
  mF (sn_aload_n (pc := 31) (j := 0) X (by decide +kernel) rfl) <|
  mF (sn_getR (pc := 32) X fd_X10_10 (by decide +kernel)) <|
  mF (sn_getR (pc := 35) X fd_X10_68 (by decide +kernel)) <|
  mF (sn_getI (pc := 38) X fd_X10_72 (by decide +kernel)) <|
  mF (sn_icmp_ge (pc := 41) (off := 77) X (by decide +kernel) (by decide)) <|
  mF (sn_aload_n (pc := 44) (j := 0) X (by decide +kernel) rfl) <|
  mF (sn_getR (pc := 45) X fd_X10_29 (by decide +kernel)) <|
  mF (sn_iload_n (pc := 48) (j := 1) X (by decide +kernel) rfl) <|
  mF (sn_aload_n (pc := 49) (j := 0) X (by decide +kernel) rfl) <|
  mF (sn_getR (pc := 50) X fd_X10_46 (by decide +kernel)) <|
  mF (sn_callV (pc := 53) X mc_X1_drawLimb (me_X1_drawLimb l B) yi_X1_drawLimb wd_841 wd_842 wd_843 (T := TX1) (N := 11) rfl (by decide) (by decide +kernel)) <|
  mF (sn_iconst (pc := 56) (n := 0) X (by decide +kernel) (by decide)) <|
  mF (sn_istore_n (pc := 57) (j := 2) X (by decide +kernel) rfl (by decide)) <|
  mF (sn_iload_n (pc := 58) (j := 2) X (by decide +kernel) rfl) <|
  mF (sn_aload_n (pc := 59) (j := 0) X (by decide +kernel) rfl) <|
  mF (sn_getR (pc := 60) X fd_X10_16 (by decide +kernel)) <|
  mF (sn_getR (pc := 63) X fd_X10_68 (by decide +kernel)) <|
  mF (sn_getI (pc := 66) X fd_X10_72 (by decide +kernel)) <|
  mF (sn_icmp_ge (pc := 69) (off := 43) X (by decide +kernel) (by decide)) <|
  mF (sn_aload_n (pc := 72) (j := 0) X (by decide +kernel) rfl) <|
  mF (sn_getR (pc := 73) X fd_X10_33 (by decide +kernel)) <|
  mF (sn_iload_n (pc := 76) (j := 2) X (by decide +kernel) rfl) <|
  mF (sn_aload_n (pc := 77) (j := 0) X (by decide +kernel) rfl) <|
  mF (sn_getR (pc := 78) X fd_X10_50 (by decide +kernel)) <|
  mF (sn_callV (pc := 81) X mc_X1_drawLimb (me_X1_drawLimb l B) yi_X1_drawLimb wd_841 wd_842 wd_843 (T := TX1) (N := 11) rfl (by decide) (by decide +kernel)) <|
  mF (sn_aload_n (pc := 84) (j := 0) X (by decide +kernel) rfl) <|
  mF (sn_getR (pc := 85) X fd_X10_46 (by decide +kernel)) <|
  mF (sn_aload_n (pc := 88) (j := 0) X (by decide +kernel) rfl) <|
  mF (sn_getR (pc := 89) X fd_X10_50 (by decide +kernel)) <|
  mF (sn_callV (pc := 92) X mc_X6_touches (me_X6_touches l B) yi_X6_touches wd_845 wd_846 wd_847 (T := TX6) (N := 4) rfl (by decide) (by decide +kernel)) <|
  mF (sn_if_eq (pc := 95) (off := 11) X (by decide +kernel) (by decide)) <|
  mF (sn_bipush (pc := 98) (n := 6) X (by decide +kernel) (by decide)) <|
  mF (sn_iload_n (pc := 100) (j := 1) X (by decide +kernel) rfl) <|
  mF (sn_imul (pc := 101) X (by decide +kernel)) <|
  mF (sn_iload_n (pc := 102) (j := 2) X (by decide +kernel) rfl) <|
  mF (sn_iadd (pc := 103) X (by decide +kernel)) <|
  mF (sn_i2l (pc := 104) X (by decide +kernel)) <|
  mF (sn_lret (pc := 105) X hr hk (by decide +kernel)) <|
  mF (sn_iinc (pc := 106) (n := 1) X (by decide +kernel) (by decide) (by decide)) <|
  mF (sn_goto (pc := 109) (off := (-51)) X (by decide +kernel) (by decide)) <|
  mF (sn_iinc (pc := 112) (n := 1) X (by decide +kernel) (by decide) (by decide)) <|
  mF (sn_goto (pc := 115) (off := (-85)) X (by decide +kernel) (by decide)) <|
  mF (sn_ldc2 (pc := 118) X (by decide +kernel) wd_574) <|
  mF (sn_lret (pc := 121) X hr hk (by decide +kernel)) <|
  mF0
theorem me_X10_meet (l : Launch) (B : mBs) : mMet l B yX10_meet cX10_meet 3 (some .long) 4 0 0 C_X10_meet := mMet_of (own := RX10) (by decide) rfl (fun p e s m args below meth c Q X hr hk hn => sd_X10_meet l B p e s m args below meth c Q X hr hk hn)
/-! PuppetStage.mirror(I)J: 24 instructions, depth 5, makes 0 cells of 0 slots -/
def tb_X10_mirror : mTb := [(0, aLA 0 1), (1, aLI 1 2), (2, aCV 10 1 C_X10_puppetOf 5), (5, aSA 2 6), (6, aLA 2 7), (7, aNn 14 10), (10, aPL (-9000000000000000001) 13), (13, aRL), (14, aLA 2 15), (15, aCV 7 0 C_X7_hasMirrorImage 18), (18, aIf (fun x => x = 0) 21 25), (21, aPL (-9000000000000000002) 24), (24, aRL), (25, aLA 0 26), (26, aGR 10 2 29), (29, aLA 0 30), (30, aGR 10 0 33), (33, aLA 0 34), (34, aGR 10 1 37), (37, aCV 3 2 C_X3_keep 40), (40, aLA 2 41), (41, aCV 7 0 C_X7_turnOver 44), (44, aPL 0 45), (45, aRL)]
theorem mt_X10_mirror : mMT tb_X10_mirror :=
  mF (mn_LA _ _) <|
  mF (mn_LI _ _) <|
  mF (mn_CV _ _ mc_X10_puppetOf _) <|
  mF (mn_SA _ _) <|
  mF (mn_LA _ _) <|
  mF (mn_Nn _ _) <|
  mF (mn_PL _ _) <|
  mF (mn_RL) <|
  mF (mn_LA _ _) <|
  mF (mn_CV _ _ mc_X7_hasMirrorImage _) <|
  mF (mn_If _ _ _) <|
  mF (mn_PL _ _) <|
  mF (mn_RL) <|
  mF (mn_LA _ _) <|
  mF (mn_GR _ _ _) <|
  mF (mn_LA _ _) <|
  mF (mn_GR _ _ _) <|
  mF (mn_LA _ _) <|
  mF (mn_GR _ _ _) <|
  mF (mn_CV _ _ mc_X3_keep _) <|
  mF (mn_LA _ _) <|
  mF (mn_CV _ _ mc_X7_turnOver _) <|
  mF (mn_PL _ _) <|
  mF (mn_RL) <|
  mF0
def C_X10_mirror : mCo := mRun tb_X10_mirror 3
theorem mc_X10_mirror : mMC C_X10_mirror := mRun_mn mt_X10_mirror 3
theorem yi_X10_mirror : mYin yX10_mirror cX10_mirror 3 (some .long) 1 := ⟨wd_49, wd_857, by decide +kernel, by decide⟩
set_option maxRecDepth 100000 in
set_option maxHeartbeats 4000000 in
theorem sd_X10_mirror (l : Launch) (B : mBs) (p : Program) (e : Env) (s : State) (m : MethodId) (args : Array Value) (below : List Frame) (meth : Method) (c : Code) (Q : mQo) (X : mCx l B RX10 cX10_mirror 3 p s m args c) (hr : meth.sig.returnType = (some .long)) (hk : meth.locks = false) (hn : meth.name = "mirror") : ∀ q ∈ tb_X10_mirror, mSnd l B 3 p e (mRm 5 0 0) s m args below meth c (MQ below (mPo B Q) args s 0 0 (mA B)) (fun r h' => (h'.1.2.1 ≤ 0 ∧ h'.1.2.2 ≤ 0) ∧ Q r h') q.2 q.1 :=
  mF (sn_aload_n (pc := 0) (j := 0) X (by decide +kernel) rfl) <|
  mF (sn_iload_n (pc := 1) (j := 1) X (by decide +kernel) rfl) <|
  mF (sn_callV (pc := 2) X mc_X10_puppetOf (me_X10_puppetOf l B) yi_X10_puppetOf wd_425 wd_427 wd_0 (T := TX10) (N := 11) rfl (by decide) (by decide +kernel)) <|
  mF (sn_astore_n (pc := 5) (j := 2) X (by decide +kernel) rfl (by decide)) <|
  mF (sn_aload_n (pc := 6) (j := 2) X (by decide +kernel) rfl) <|
  mF (sn_ifnonnull (pc := 7) (off := 7) X (by decide +kernel) (by decide)) <|
  mF (sn_ldc2 (pc := 10) X (by decide +kernel) wd_432) <|
  mF (sn_lret (pc := 13) X hr hk (by decide +kernel)) <|
  mF (sn_aload_n (pc := 14) (j := 2) X (by decide +kernel) rfl) <|
  mF (sn_callV (pc := 15) X mc_X7_hasMirrorImage (me_X7_hasMirrorImage l B) yi_X7_hasMirrorImage wd_858 wd_859 wd_860 (T := TX7) (N := 6) rfl (by decide) (by decide +kernel)) <|
  mF (sn_if_ne (pc := 18) (off := 7) X (by decide +kernel) (by decide)) <|
  mF (sn_ldc2 (pc := 21) X (by decide +kernel) wd_449) <|
  mF (sn_lret (pc := 24) X hr hk (by decide +kernel)) <|
  mF (sn_aload_n (pc := 25) (j := 0) X (by decide +kernel) rfl) <|
  mF (sn_getR (pc := 26) X fd_X10_22 (by decide +kernel)) <|
  mF (sn_aload_n (pc := 29) (j := 0) X (by decide +kernel) rfl) <|
  mF (sn_getR (pc := 30) X fd_X10_10 (by decide +kernel)) <|
  mF (sn_aload_n (pc := 33) (j := 0) X (by decide +kernel) rfl) <|
  mF (sn_getR (pc := 34) X fd_X10_16 (by decide +kernel)) <|
  mF (sn_callV (pc := 37) X mc_X3_keep (me_X3_keep l B) yi_X3_keep wd_451 wd_452 wd_453 (T := TX3) (N := 4) rfl (by decide) (by decide +kernel)) <|
  mF (sn_aload_n (pc := 40) (j := 2) X (by decide +kernel) rfl) <|
  mF (sn_callV (pc := 41) X mc_X7_turnOver (me_X7_turnOver l B) yi_X7_turnOver wd_865 wd_866 wd_867 (T := TX7) (N := 6) rfl (by decide) (by decide +kernel)) <|
  mF (sn_lconst (pc := 44) (n := 0) X (by decide +kernel) (by decide)) <|
  mF (sn_lret (pc := 45) X hr hk (by decide +kernel)) <|
  mF0
theorem me_X10_mirror (l : Launch) (B : mBs) : mMet l B yX10_mirror cX10_mirror 3 (some .long) 5 0 0 C_X10_mirror := mMet_of (own := RX10) (by decide) rfl (fun p e s m args below meth c Q X hr hk hn => sd_X10_mirror l B p e s m args below meth c Q X hr hk hn)
/-! PuppetStage.undo()J: 18 instructions, depth 5, makes 0 cells of 0 slots -/
def tb_X10_undo : mTb := [(0, aLA 0 1), (1, aGR 10 2 4), (4, aGI 3 3 7), (7, aIf (fun x => 0 < x) 14 10), (10, aPL (-9000000000000000002) 13), (13, aRL), (14, aLA 0 15), (15, aGR 10 2 18), (18, aLA 0 19), (19, aGR 10 0 22), (22, aLA 0 23), (23, aGR 10 1 26), (26, aCV 3 2 C_X3_takeBack 29), (29, aLA 0 30), (30, aGR 10 2 33), (33, aGI 3 3 36), (36, aI2L 37), (37, aRL)]
theorem mt_X10_undo : mMT tb_X10_undo :=
  mF (mn_LA _ _) <|
  mF (mn_GR _ _ _) <|
  mF (mn_GI _ _ _) <|
  mF (mn_If _ _ _) <|
  mF (mn_PL _ _) <|
  mF (mn_RL) <|
  mF (mn_LA _ _) <|
  mF (mn_GR _ _ _) <|
  mF (mn_LA _ _) <|
  mF (mn_GR _ _ _) <|
  mF (mn_LA _ _) <|
  mF (mn_GR _ _ _) <|
  mF (mn_CV _ _ mc_X3_takeBack _) <|
  mF (mn_LA _ _) <|
  mF (mn_GR _ _ _) <|
  mF (mn_GI _ _ _) <|
  mF (mn_I2L _) <|
  mF (mn_RL) <|
  mF0
def C_X10_undo : mCo := mRun tb_X10_undo 1
theorem mc_X10_undo : mMC C_X10_undo := mRun_mn mt_X10_undo 1
theorem yi_X10_undo : mYin yX10_undo cX10_undo 1 (some .long) 0 := ⟨wd_49, wd_893, by decide +kernel, by decide⟩
set_option maxRecDepth 100000 in
set_option maxHeartbeats 4000000 in
theorem sd_X10_undo (l : Launch) (B : mBs) (p : Program) (e : Env) (s : State) (m : MethodId) (args : Array Value) (below : List Frame) (meth : Method) (c : Code) (Q : mQo) (X : mCx l B RX10 cX10_undo 1 p s m args c) (hr : meth.sig.returnType = (some .long)) (hk : meth.locks = false) (hn : meth.name = "undo") : ∀ q ∈ tb_X10_undo, mSnd l B 1 p e (mRm 5 0 0) s m args below meth c (MQ below (mPo B Q) args s 0 0 (mA B)) (fun r h' => (h'.1.2.1 ≤ 0 ∧ h'.1.2.2 ≤ 0) ∧ Q r h') q.2 q.1 :=
  mF (sn_aload_n (pc := 0) (j := 0) X (by decide +kernel) rfl) <|
  mF (sn_getR (pc := 1) X fd_X10_22 (by decide +kernel)) <|
  mF (sn_getI (pc := 4) X fd_X10_367 (by decide +kernel)) <|
  mF (sn_if_gt (pc := 7) (off := 7) X (by decide +kernel) (by decide)) <|
  mF (sn_ldc2 (pc := 10) X (by decide +kernel) wd_449) <|
  mF (sn_lret (pc := 13) X hr hk (by decide +kernel)) <|
  mF (sn_aload_n (pc := 14) (j := 0) X (by decide +kernel) rfl) <|
  mF (sn_getR (pc := 15) X fd_X10_22 (by decide +kernel)) <|
  mF (sn_aload_n (pc := 18) (j := 0) X (by decide +kernel) rfl) <|
  mF (sn_getR (pc := 19) X fd_X10_10 (by decide +kernel)) <|
  mF (sn_aload_n (pc := 22) (j := 0) X (by decide +kernel) rfl) <|
  mF (sn_getR (pc := 23) X fd_X10_16 (by decide +kernel)) <|
  mF (sn_callV (pc := 26) X mc_X3_takeBack (me_X3_takeBack l B) yi_X3_takeBack wd_894 wd_895 wd_896 (T := TX3) (N := 4) rfl (by decide) (by decide +kernel)) <|
  mF (sn_aload_n (pc := 29) (j := 0) X (by decide +kernel) rfl) <|
  mF (sn_getR (pc := 30) X fd_X10_22 (by decide +kernel)) <|
  mF (sn_getI (pc := 33) X fd_X10_367 (by decide +kernel)) <|
  mF (sn_i2l (pc := 36) X (by decide +kernel)) <|
  mF (sn_lret (pc := 37) X hr hk (by decide +kernel)) <|
  mF0
theorem me_X10_undo (l : Launch) (B : mBs) : mMet l B yX10_undo cX10_undo 1 (some .long) 5 0 0 C_X10_undo := mMet_of (own := RX10) (by decide) rfl (fun p e s m args below meth c Q X hr hk hn => sd_X10_undo l B p e s m args below meth c Q X hr hk hn)
/-! PuppetStage.count(I)J: 34 instructions, depth 0, makes 0 cells of 0 slots -/
def tb_X10_count : mTb := [(0, aLI 1 1), (1, aTs [(0, 32), (1, 55), (2, 78), (3, 87)] 92), (32, aLA 0 33), (33, aGR 10 0 36), (36, aGR 7 0 39), (39, aGI 5 4 42), (42, aLA 0 43), (43, aGR 10 1 46), (46, aGR 7 0 49), (49, aGI 5 4 52), (52, aB (fun x y => x + y) 53), (53, aI2L 54), (54, aRL), (55, aLA 0 56), (56, aGR 10 0 59), (59, aGR 7 3 62), (62, aGI 4 6 65), (65, aLA 0 66), (66, aGR 10 1 69), (69, aGR 7 3 72), (72, aGI 4 6 75), (75, aB (fun x y => x + y) 76), (76, aI2L 77), (77, aRL), (78, aLA 0 79), (79, aGR 10 2 82), (82, aGI 3 3 85), (85, aI2L 86), (86, aRL), (87, aLA 0 88), (88, aGL 10 10 91), (91, aRL), (92, aPL (-9000000000000000001) 95), (95, aRL)]
theorem mt_X10_count : mMT tb_X10_count :=
  mF (mn_LI _ _) <|
  mF (mn_Ts _ _) <|
  mF (mn_LA _ _) <|
  mF (mn_GR _ _ _) <|
  mF (mn_GR _ _ _) <|
  mF (mn_GI _ _ _) <|
  mF (mn_LA _ _) <|
  mF (mn_GR _ _ _) <|
  mF (mn_GR _ _ _) <|
  mF (mn_GI _ _ _) <|
  mF (mn_B _ _) <|
  mF (mn_I2L _) <|
  mF (mn_RL) <|
  mF (mn_LA _ _) <|
  mF (mn_GR _ _ _) <|
  mF (mn_GR _ _ _) <|
  mF (mn_GI _ _ _) <|
  mF (mn_LA _ _) <|
  mF (mn_GR _ _ _) <|
  mF (mn_GR _ _ _) <|
  mF (mn_GI _ _ _) <|
  mF (mn_B _ _) <|
  mF (mn_I2L _) <|
  mF (mn_RL) <|
  mF (mn_LA _ _) <|
  mF (mn_GR _ _ _) <|
  mF (mn_GI _ _ _) <|
  mF (mn_I2L _) <|
  mF (mn_RL) <|
  mF (mn_LA _ _) <|
  mF (mn_GL _ _ _) <|
  mF (mn_RL) <|
  mF (mn_PL _ _) <|
  mF (mn_RL) <|
  mF0
def C_X10_count : mCo := mRun tb_X10_count 2
theorem mc_X10_count : mMC C_X10_count := mRun_mn mt_X10_count 2
theorem yi_X10_count : mYin yX10_count cX10_count 2 (some .long) 1 := ⟨wd_49, wd_901, by decide +kernel, by decide⟩
set_option maxRecDepth 100000 in
set_option maxHeartbeats 4000000 in
theorem sd_X10_count (l : Launch) (B : mBs) (p : Program) (e : Env) (s : State) (m : MethodId) (args : Array Value) (below : List Frame) (meth : Method) (c : Code) (Q : mQo) (X : mCx l B RX10 cX10_count 2 p s m args c) (hr : meth.sig.returnType = (some .long)) (hk : meth.locks = false) (hn : meth.name = "count") : ∀ q ∈ tb_X10_count, mSnd l B 2 p e (mRm 0 0 0) s m args below meth c (MQ below (mPo B Q) args s 0 0 (mA B)) (fun r h' => (h'.1.2.1 ≤ 0 ∧ h'.1.2.2 ≤ 0) ∧ Q r h') q.2 q.1 :=
  mF (sn_iload_n (pc := 0) (j := 1) X (by decide +kernel) rfl) <|
  mF (sn_ts (pc := 1) (dflt := 91) (lo := 0) (hi := 3) (offs := #[31, 54, 77, 86]) (len := 31) X (by decide +kernel) ⟨by decide, by decide, by decide⟩) <|
  mF (sn_aload_n (pc := 32) (j := 0) X (by decide +kernel) rfl) <|
  mF (sn_getR (pc := 33) X fd_X10_10 (by decide +kernel)) <|
  mF (sn_getR (pc := 36) X fd_X10_68 (by decide +kernel)) <|
  mF (sn_getI (pc := 39) X fd_X10_72 (by decide +kernel)) <|
  mF (sn_aload_n (pc := 42) (j := 0) X (by decide +kernel) rfl) <|
  mF (sn_getR (pc := 43) X fd_X10_16 (by decide +kernel)) <|
  mF (sn_getR (pc := 46) X fd_X10_68 (by decide +kernel)) <|
  mF (sn_getI (pc := 49) X fd_X10_72 (by decide +kernel)) <|
  mF (sn_iadd (pc := 52) X (by decide +kernel)) <|
  mF (sn_i2l (pc := 53) X (by decide +kernel)) <|
  mF (sn_lret (pc := 54) X hr hk (by decide +kernel)) <|
  mF (sn_aload_n (pc := 55) (j := 0) X (by decide +kernel) rfl) <|
  mF (sn_getR (pc := 56) X fd_X10_10 (by decide +kernel)) <|
  mF (sn_getR (pc := 59) X fd_X10_115 (by decide +kernel)) <|
  mF (sn_getI (pc := 62) X fd_X10_187 (by decide +kernel)) <|
  mF (sn_aload_n (pc := 65) (j := 0) X (by decide +kernel) rfl) <|
  mF (sn_getR (pc := 66) X fd_X10_16 (by decide +kernel)) <|
  mF (sn_getR (pc := 69) X fd_X10_115 (by decide +kernel)) <|
  mF (sn_getI (pc := 72) X fd_X10_187 (by decide +kernel)) <|
  mF (sn_iadd (pc := 75) X (by decide +kernel)) <|
  mF (sn_i2l (pc := 76) X (by decide +kernel)) <|
  mF (sn_lret (pc := 77) X hr hk (by decide +kernel)) <|
  mF (sn_aload_n (pc := 78) (j := 0) X (by decide +kernel) rfl) <|
  mF (sn_getR (pc := 79) X fd_X10_22 (by decide +kernel)) <|
  mF (sn_getI (pc := 82) X fd_X10_367 (by decide +kernel)) <|
  mF (sn_i2l (pc := 85) X (by decide +kernel)) <|
  mF (sn_lret (pc := 86) X hr hk (by decide +kernel)) <|
  mF (sn_aload_n (pc := 87) (j := 0) X (by decide +kernel) rfl) <|
  mF (sn_getL (pc := 88) X fd_X10_60 (by decide +kernel)) <|
  mF (sn_lret (pc := 91) X hr hk (by decide +kernel)) <|
  mF (sn_ldc2 (pc := 92) X (by decide +kernel) wd_432) <|
  mF (sn_lret (pc := 95) X hr hk (by decide +kernel)) <|
  mF0
theorem me_X10_count (l : Launch) (B : mBs) : mMet l B yX10_count cX10_count 2 (some .long) 0 0 0 C_X10_count := mMet_of (own := RX10) (by decide) rfl (fun p e s m args below meth c Q X hr hk hn => sd_X10_count l B p e s m args below meth c Q X hr hk hn)
/-! PuppetStageModel.sine(II)V: 37 instructions, depth 0, makes 0 cells of 0 slots -/
def tb_X11_sine : mTb := [(0, aLA 0 1), (1, aGR 11 4 4), (4, aLI 1 5), (5, aLI 2 6), (6, aIS 7), (7, aLA 0 8), (8, aGR 11 4 11), (11, aPI 32 13), (13, aLI 1 14), (14, aB (fun x y => x - y) 15), (15, aLI 2 16), (16, aIS 17), (17, aLA 0 18), (18, aGR 11 4 21), (21, aPI 64 23), (23, aLI 1 24), (24, aB (fun x y => x - y) 25), (25, aPI 64 27), (27, aD (fun x y => x - x / y * y) 28), (28, aLI 2 29), (29, aU (fun x => -x) 30), (30, aIS 31), (31, aLA 0 32), (32, aGR 11 4 35), (35, aPI 32 37), (37, aLI 1 38), (38, aB (fun x y => x + y) 39), (39, aPI 64 41), (41, aD (fun x y => x - x / y * y) 42), (42, aLI 1 43), (43, aIf (fun x => x = 0) 46 50), (46, aPI 0 47), (47, aGo 52), (50, aLI 2 51), (51, aU (fun x => -x) 52), (52, aIS 53), (53, aRV)]
theorem mt_X11_sine : mMT tb_X11_sine :=
  mF (mn_LA _ _) <|
  mF (mn_GR _ _ _) <|
  mF (mn_LI _ _) <|
  mF (mn_LI _ _) <|
  mF (mn_IS _) <|
  mF (mn_LA _ _) <|
  mF (mn_GR _ _ _) <|
  mF (mn_PI _ _) <|
  mF (mn_LI _ _) <|
  mF (mn_B _ _) <|
  mF (mn_LI _ _) <|
  mF (mn_IS _) <|
  mF (mn_LA _ _) <|
  mF (mn_GR _ _ _) <|
  mF (mn_PI _ _) <|
  mF (mn_LI _ _) <|
  mF (mn_B _ _) <|
  mF (mn_PI _ _) <|
  mF (mn_D _ _) <|
  mF (mn_LI _ _) <|
  mF (mn_U _ _) <|
  mF (mn_IS _) <|
  mF (mn_LA _ _) <|
  mF (mn_GR _ _ _) <|
  mF (mn_PI _ _) <|
  mF (mn_LI _ _) <|
  mF (mn_B _ _) <|
  mF (mn_PI _ _) <|
  mF (mn_D _ _) <|
  mF (mn_LI _ _) <|
  mF (mn_If _ _ _) <|
  mF (mn_PI _ _) <|
  mF (mn_Go _) <|
  mF (mn_LI _ _) <|
  mF (mn_U _ _) <|
  mF (mn_IS _) <|
  mF (mn_RV) <|
  mF0
def C_X11_sine : mCo := mRun tb_X11_sine 3
theorem mc_X11_sine : mMC C_X11_sine := mRun_mn mt_X11_sine 3
theorem yi_X11_sine : mYin yX11_sine cX11_sine 3 none 2 := ⟨wd_60, wd_911, by decide +kernel, by decide⟩
set_option maxRecDepth 100000 in
set_option maxHeartbeats 4000000 in
theorem sd_X11_sine (l : Launch) (B : mBs) (p : Program) (e : Env) (s : State) (m : MethodId) (args : Array Value) (below : List Frame) (meth : Method) (c : Code) (Q : mQo) (X : mCx l B RX11 cX11_sine 3 p s m args c) (hr : meth.sig.returnType = none) (hk : meth.locks = false) (hn : meth.name = "sine") : ∀ q ∈ tb_X11_sine, mSnd l B 3 p e (mRm 0 0 0) s m args below meth c (MQ below (mPo B Q) args s 0 0 (mA B)) (fun r h' => (h'.1.2.1 ≤ 0 ∧ h'.1.2.2 ≤ 0) ∧ Q r h') q.2 q.1 :=
  mF (sn_aload_n (pc := 0) (j := 0) X (by decide +kernel) rfl) <|
  mF (sn_getR (pc := 1) X fd_X11_16 (by decide +kernel)) <|
  mF (sn_iload_n (pc := 4) (j := 1) X (by decide +kernel) rfl) <|
  mF (sn_iload_n (pc := 5) (j := 2) X (by decide +kernel) rfl) <|
  mF (sn_iastore (pc := 6) X (by decide +kernel)) <|
  mF (sn_aload_n (pc := 7) (j := 0) X (by decide +kernel) rfl) <|
  mF (sn_getR (pc := 8) X fd_X11_16 (by decide +kernel)) <|
  mF (sn_bipush (pc := 11) (n := 32) X (by decide +kernel) (by decide)) <|
  mF (sn_iload_n (pc := 13) (j := 1) X (by decide +kernel) rfl) <|
  mF (sn_isub (pc := 14) X (by decide +kernel)) <|
  mF (sn_iload_n (pc := 15) (j := 2) X (by decide +kernel) rfl) <|
  mF (sn_iastore (pc := 16) X (by decide +kernel)) <|
  mF (sn_aload_n (pc := 17) (j := 0) X (by decide +kernel) rfl) <|
  mF (sn_getR (pc := 18) X fd_X11_16 (by decide +kernel)) <|
  mF (sn_bipush (pc := 21) (n := 64) X (by decide +kernel) (by decide)) <|
  mF (sn_iload_n (pc := 23) (j := 1) X (by decide +kernel) rfl) <|
  mF (sn_isub (pc := 24) X (by decide +kernel)) <|
  mF (sn_bipush (pc := 25) (n := 64) X (by decide +kernel) (by decide)) <|
  mF (sn_irem (pc := 27) X (by decide +kernel)) <|
  mF (sn_iload_n (pc := 28) (j := 2) X (by decide +kernel) rfl) <|
  mF (sn_ineg (pc := 29) X (by decide +kernel)) <|
  mF (sn_iastore (pc := 30) X (by decide +kernel)) <|
  mF (sn_aload_n (pc := 31) (j := 0) X (by decide +kernel) rfl) <|
  mF (sn_getR (pc := 32) X fd_X11_16 (by decide +kernel)) <|
  mF (sn_bipush (pc := 35) (n := 32) X (by decide +kernel) (by decide)) <|
  mF (sn_iload_n (pc := 37) (j := 1) X (by decide +kernel) rfl) <|
  mF (sn_iadd (pc := 38) X (by decide +kernel)) <|
  mF (sn_bipush (pc := 39) (n := 64) X (by decide +kernel) (by decide)) <|
  mF (sn_irem (pc := 41) X (by decide +kernel)) <|
  mF (sn_iload_n (pc := 42) (j := 1) X (by decide +kernel) rfl) <|
  mF (sn_if_ne (pc := 43) (off := 7) X (by decide +kernel) (by decide)) <|
  mF (sn_iconst (pc := 46) (n := 0) X (by decide +kernel) (by decide)) <|
  mF (sn_goto (pc := 47) (off := 5) X (by decide +kernel) (by decide)) <|
  mF (sn_iload_n (pc := 50) (j := 2) X (by decide +kernel) rfl) <|
  mF (sn_ineg (pc := 51) X (by decide +kernel)) <|
  mF (sn_iastore (pc := 52) X (by decide +kernel)) <|
  mF (sn_vret (pc := 53) X hr hk (by decide +kernel)) <|
  mF0
theorem me_X11_sine (l : Launch) (B : mBs) : mMet l B yX11_sine cX11_sine 3 none 0 0 0 C_X11_sine := mMet_of (own := RX11) (by decide) rfl (fun p e s m args below meth c Q X hr hk hn => sd_X11_sine l B p e s m args below meth c Q X hr hk hn)
/-! PuppetStageModel.<init>()V: 138 instructions, depth 1, makes 10 cells of 2974 slots -/
def tb_X11_init_c0 : mTb := [(0, aLA 0 1), (1, aObj 4), (4, aLA 0 5), (5, aPI 478 8), (8, aNI 0 10 2974 10), (10, aWR 11 0 13), (13, aLA 0 14), (14, aPI 2390 17), (17, aNI 0 10 2974 19), (19, aWR 11 1 22), (22, aLA 0 23), (23, aPI 64 25), (25, aNI 0 10 2974 27), (27, aWR 11 4 30), (30, aLA 0 31), (31, aPI 6 33), (33, aNI 1 10 2974 35), (35, aWR 11 5 38), (38, aLA 0 39), (39, aPI 6 41), (41, aNI 1 10 2974 43), (43, aWR 11 6 46), (46, aLA 0 47), (47, aPI 6 49), (49, aNI 1 10 2974 51), (51, aWR 11 7 54), (54, aLA 0 55), (55, aPI 6 57), (57, aNI 1 10 2974 59), (59, aWR 11 8 62), (62, aLA 0 63), (63, aPI 6 65), (65, aNI 0 10 2974 67), (67, aWR 11 9 70), (70, aLA 0 71), (71, aPI 6 73), (73, aNI 0 10 2974 75), (75, aWR 11 12 78), (78, aLA 0 79), (79, aPI 6 81), (81, aNI 0 10 2974 83), (83, aWR 11 13 86), (86, aLA 0 87), (87, aPI 0 88), (88, aPI 0 89), (89, aCV 11 2 C_X11_sine 92), (92, aLA 0 93), (93, aPI 1 94), (94, aPI 100 96), (96, aCV 11 2 C_X11_sine 99), (99, aLA 0 100), (100, aPI 2 101), (101, aPI 200 104), (104, aCV 11 2 C_X11_sine 107), (107, aLA 0 108), (108, aPI 3 109), (109, aPI 297 112), (112, aCV 11 2 C_X11_sine 115), (115, aLA 0 116), (116, aPI 4 117), (117, aPI 392 120), (120, aCV 11 2 C_X11_sine 123), (123, aLA 0 124), (124, aPI 5 125), (125, aPI 483 128), (128, aCV 11 2 C_X11_sine 131), (131, aLA 0 132), (132, aPI 6 134), (134, aPI 569 137), (137, aCV 11 2 C_X11_sine 140)]
theorem mt_X11_init_c0 : mMT tb_X11_init_c0 :=
  mF (mn_LA _ _) <|
  mF (mn_Obj _) <|
  mF (mn_LA _ _) <|
  mF (mn_PI _ _) <|
  mF (mn_NI _ _ _ _) <|
  mF (mn_WR _ _ _) <|
  mF (mn_LA _ _) <|
  mF (mn_PI _ _) <|
  mF (mn_NI _ _ _ _) <|
  mF (mn_WR _ _ _) <|
  mF (mn_LA _ _) <|
  mF (mn_PI _ _) <|
  mF (mn_NI _ _ _ _) <|
  mF (mn_WR _ _ _) <|
  mF (mn_LA _ _) <|
  mF (mn_PI _ _) <|
  mF (mn_NI _ _ _ _) <|
  mF (mn_WR _ _ _) <|
  mF (mn_LA _ _) <|
  mF (mn_PI _ _) <|
  mF (mn_NI _ _ _ _) <|
  mF (mn_WR _ _ _) <|
  mF (mn_LA _ _) <|
  mF (mn_PI _ _) <|
  mF (mn_NI _ _ _ _) <|
  mF (mn_WR _ _ _) <|
  mF (mn_LA _ _) <|
  mF (mn_PI _ _) <|
  mF (mn_NI _ _ _ _) <|
  mF (mn_WR _ _ _) <|
  mF (mn_LA _ _) <|
  mF (mn_PI _ _) <|
  mF (mn_NI _ _ _ _) <|
  mF (mn_WR _ _ _) <|
  mF (mn_LA _ _) <|
  mF (mn_PI _ _) <|
  mF (mn_NI _ _ _ _) <|
  mF (mn_WR _ _ _) <|
  mF (mn_LA _ _) <|
  mF (mn_PI _ _) <|
  mF (mn_NI _ _ _ _) <|
  mF (mn_WR _ _ _) <|
  mF (mn_LA _ _) <|
  mF (mn_PI _ _) <|
  mF (mn_PI _ _) <|
  mF (mn_CV _ _ mc_X11_sine _) <|
  mF (mn_LA _ _) <|
  mF (mn_PI _ _) <|
  mF (mn_PI _ _) <|
  mF (mn_CV _ _ mc_X11_sine _) <|
  mF (mn_LA _ _) <|
  mF (mn_PI _ _) <|
  mF (mn_PI _ _) <|
  mF (mn_CV _ _ mc_X11_sine _) <|
  mF (mn_LA _ _) <|
  mF (mn_PI _ _) <|
  mF (mn_PI _ _) <|
  mF (mn_CV _ _ mc_X11_sine _) <|
  mF (mn_LA _ _) <|
  mF (mn_PI _ _) <|
  mF (mn_PI _ _) <|
  mF (mn_CV _ _ mc_X11_sine _) <|
  mF (mn_LA _ _) <|
  mF (mn_PI _ _) <|
  mF (mn_PI _ _) <|
  mF (mn_CV _ _ mc_X11_sine _) <|
  mF (mn_LA _ _) <|
  mF (mn_PI _ _) <|
  mF (mn_PI _ _) <|
  mF (mn_CV _ _ mc_X11_sine _) <|
  mF0
def tb_X11_init_c1 : mTb := [(140, aLA 0 141), (141, aPI 7 143), (143, aPI 650 146), (146, aCV 11 2 C_X11_sine 149), (149, aLA 0 150), (150, aPI 8 152), (152, aPI 724 155), (155, aCV 11 2 C_X11_sine 158), (158, aLA 0 159), (159, aPI 9 161), (161, aPI 792 164), (164, aCV 11 2 C_X11_sine 167), (167, aLA 0 168), (168, aPI 10 170), (170, aPI 851 173), (173, aCV 11 2 C_X11_sine 176), (176, aLA 0 177), (177, aPI 11 179), (179, aPI 903 182), (182, aCV 11 2 C_X11_sine 185), (185, aLA 0 186), (186, aPI 12 188), (188, aPI 946 191), (191, aCV 11 2 C_X11_sine 194), (194, aLA 0 195), (195, aPI 13 197), (197, aPI 980 200), (200, aCV 11 2 C_X11_sine 203), (203, aLA 0 204), (204, aPI 14 206), (206, aPI 1004 209), (209, aCV 11 2 C_X11_sine 212), (212, aLA 0 213), (213, aPI 15 215), (215, aPI 1019 218), (218, aCV 11 2 C_X11_sine 221), (221, aLA 0 222), (222, aPI 16 224), (224, aPI 1024 227), (227, aCV 11 2 C_X11_sine 230), (230, aPI 0 231), (231, aSI 1 232), (232, aLI 1 233), (233, aPI 2 234), (234, aIc (fun x y => y ≤ x) 274 237), (237, aLA 0 238), (238, aGR 11 0 241), (241, aPI 239 244), (244, aLI 1 245), (245, aB (fun x y => x * y) 246), (246, aPI 27 248), (248, aB (fun x y => x + y) 249), (249, aPI (-1) 250), (250, aIS 251), (251, aLA 0 252), (252, aGR 11 0 255), (255, aPI 239 258), (258, aLI 1 259), (259, aB (fun x y => x * y) 260), (260, aPI 40 262), (262, aB (fun x y => x + y) 263), (263, aPI 1 264), (264, aB (fun x y => x + y) 265), (265, aPI 100 267), (267, aIS 268), (268, aInc 1 1 271), (271, aGo 232), (274, aRV)]
theorem mt_X11_init_c1 : mMT tb_X11_init_c1 :=
  mF (mn_LA _ _) <|
  mF (mn_PI _ _) <|
  mF (mn_PI _ _) <|
  mF (mn_CV _ _ mc_X11_sine _) <|
  mF (mn_LA _ _) <|
  mF (mn_PI _ _) <|
  mF (mn_PI _ _) <|
  mF (mn_CV _ _ mc_X11_sine _) <|
  mF (mn_LA _ _) <|
  mF (mn_PI _ _) <|
  mF (mn_PI _ _) <|
  mF (mn_CV _ _ mc_X11_sine _) <|
  mF (mn_LA _ _) <|
  mF (mn_PI _ _) <|
  mF (mn_PI _ _) <|
  mF (mn_CV _ _ mc_X11_sine _) <|
  mF (mn_LA _ _) <|
  mF (mn_PI _ _) <|
  mF (mn_PI _ _) <|
  mF (mn_CV _ _ mc_X11_sine _) <|
  mF (mn_LA _ _) <|
  mF (mn_PI _ _) <|
  mF (mn_PI _ _) <|
  mF (mn_CV _ _ mc_X11_sine _) <|
  mF (mn_LA _ _) <|
  mF (mn_PI _ _) <|
  mF (mn_PI _ _) <|
  mF (mn_CV _ _ mc_X11_sine _) <|
  mF (mn_LA _ _) <|
  mF (mn_PI _ _) <|
  mF (mn_PI _ _) <|
  mF (mn_CV _ _ mc_X11_sine _) <|
  mF (mn_LA _ _) <|
  mF (mn_PI _ _) <|
  mF (mn_PI _ _) <|
  mF (mn_CV _ _ mc_X11_sine _) <|
  mF (mn_LA _ _) <|
  mF (mn_PI _ _) <|
  mF (mn_PI _ _) <|
  mF (mn_CV _ _ mc_X11_sine _) <|
  mF (mn_PI _ _) <|
  mF (mn_SI _ _) <|
  mF (mn_LI _ _) <|
  mF (mn_PI _ _) <|
  mF (mn_Ic _ _ _) <|
  mF (mn_LA _ _) <|
  mF (mn_GR _ _ _) <|
  mF (mn_PI _ _) <|
  mF (mn_LI _ _) <|
  mF (mn_B _ _) <|
  mF (mn_PI _ _) <|
  mF (mn_B _ _) <|
  mF (mn_PI _ _) <|
  mF (mn_IS _) <|
  mF (mn_LA _ _) <|
  mF (mn_GR _ _ _) <|
  mF (mn_PI _ _) <|
  mF (mn_LI _ _) <|
  mF (mn_B _ _) <|
  mF (mn_PI _ _) <|
  mF (mn_B _ _) <|
  mF (mn_PI _ _) <|
  mF (mn_B _ _) <|
  mF (mn_PI _ _) <|
  mF (mn_IS _) <|
  mF (mn_Inc _ _ _) <|
  mF (mn_Go _) <|
  mF (mn_RV) <|
  mF0
def tb_X11_init : mTb := tb_X11_init_c0 ++ (tb_X11_init_c1)
theorem mt_X11_init : mMT tb_X11_init := mFA mt_X11_init_c0 mt_X11_init_c1
def C_X11_init : mCo := mRun tb_X11_init 2
theorem mc_X11_init : mMC C_X11_init := mRun_mn mt_X11_init 2
theorem yi_X11_init : mYin yX11_init cX11_init 2 none 0 := ⟨wd_60, wd_906, by decide +kernel, by decide⟩
set_option maxRecDepth 100000 in
set_option maxHeartbeats 4000000 in
theorem sd_X11_init_c0 (l : Launch) (B : mBs) (p : Program) (e : Env) (s : State) (m : MethodId) (args : Array Value) (below : List Frame) (meth : Method) (c : Code) (Q : mQo) (X : mCx l B RX11 cX11_init 2 p s m args c) (hr : meth.sig.returnType = none) (hk : meth.locks = false) (hn : meth.name = "<init>") : ∀ q ∈ tb_X11_init_c0, mSnd l B 2 p e (mRm 1 10 2974) s m args below meth c (MQ below (mPo B Q) args s 10 2974 (mA B)) (fun r h' => (h'.1.2.1 ≤ 10 ∧ h'.1.2.2 ≤ 2974) ∧ Q r h') q.2 q.1 :=
  mF (sn_aload_n (pc := 0) (j := 0) X (by decide +kernel) rfl) <|
  mF (sn_obj (pc := 1) X (by decide) wd_907 wd_70 wd_71 (by decide +kernel)) <|
  mF (sn_aload_n (pc := 4) (j := 0) X (by decide +kernel) rfl) <|
  mF (sn_sipush (pc := 5) (n := 478) X (by decide +kernel) (by decide)) <|
  mF (sn_newI (pc := 8) X wd_126 (by decide +kernel)) <|
  mF (sn_putR (D' := "") (pc := 10) X hn fd_X11_7 ⟨tyX11_ok, nmX11⟩ rfl rfl rfl (fun _ => ⟨rfl, rfl⟩) (by decide +kernel)) <|
  mF (sn_aload_n (pc := 13) (j := 0) X (by decide +kernel) rfl) <|
  mF (sn_sipush (pc := 14) (n := 2390) X (by decide +kernel) (by decide)) <|
  mF (sn_newI (pc := 17) X wd_126 (by decide +kernel)) <|
  mF (sn_putR (D' := "") (pc := 19) X hn fd_X11_13 ⟨tyX11_ok, nmX11⟩ rfl rfl rfl (fun _ => ⟨rfl, rfl⟩) (by decide +kernel)) <|
  mF (sn_aload_n (pc := 22) (j := 0) X (by decide +kernel) rfl) <|
  mF (sn_bipush (pc := 23) (n := 64) X (by decide +kernel) (by decide)) <|
  mF (sn_newI (pc := 25) X wd_126 (by decide +kernel)) <|
  mF (sn_putR (D' := "") (pc := 27) X hn fd_X11_16 ⟨tyX11_ok, nmX11⟩ rfl rfl rfl (fun _ => ⟨rfl, rfl⟩) (by decide +kernel)) <|
  mF (sn_aload_n (pc := 30) (j := 0) X (by decide +kernel) rfl) <|
  mF (sn_bipush (pc := 31) (n := 6) X (by decide +kernel) (by decide)) <|
  mF (sn_newJ (pc := 33) X wd_979 (by decide +kernel)) <|
  mF (sn_putR (D' := "") (pc := 35) X hn fd_X11_19 ⟨tyX11_ok, nmX11⟩ rfl rfl rfl (fun _ => ⟨rfl, rfl⟩) (by decide +kernel)) <|
  mF (sn_aload_n (pc := 38) (j := 0) X (by decide +kernel) rfl) <|
  mF (sn_bipush (pc := 39) (n := 6) X (by decide +kernel) (by decide)) <|
  mF (sn_newJ (pc := 41) X wd_979 (by decide +kernel)) <|
  mF (sn_putR (D' := "") (pc := 43) X hn fd_X11_23 ⟨tyX11_ok, nmX11⟩ rfl rfl rfl (fun _ => ⟨rfl, rfl⟩) (by decide +kernel)) <|
  mF (sn_aload_n (pc := 46) (j := 0) X (by decide +kernel) rfl) <|
  mF (sn_bipush (pc := 47) (n := 6) X (by decide +kernel) (by decide)) <|
  mF (sn_newJ (pc := 49) X wd_979 (by decide +kernel)) <|
  mF (sn_putR (D' := "") (pc := 51) X hn fd_X11_26 ⟨tyX11_ok, nmX11⟩ rfl rfl rfl (fun _ => ⟨rfl, rfl⟩) (by decide +kernel)) <|
  mF (sn_aload_n (pc := 54) (j := 0) X (by decide +kernel) rfl) <|
  mF (sn_bipush (pc := 55) (n := 6) X (by decide +kernel) (by decide)) <|
  mF (sn_newJ (pc := 57) X wd_979 (by decide +kernel)) <|
  mF (sn_putR (D' := "") (pc := 59) X hn fd_X11_29 ⟨tyX11_ok, nmX11⟩ rfl rfl rfl (fun _ => ⟨rfl, rfl⟩) (by decide +kernel)) <|
  mF (sn_aload_n (pc := 62) (j := 0) X (by decide +kernel) rfl) <|
  mF (sn_bipush (pc := 63) (n := 6) X (by decide +kernel) (by decide)) <|
  mF (sn_newI (pc := 65) X wd_126 (by decide +kernel)) <|
  mF (sn_putR (D' := "") (pc := 67) X hn fd_X11_32 ⟨tyX11_ok, nmX11⟩ rfl rfl rfl (fun _ => ⟨rfl, rfl⟩) (by decide +kernel)) <|
  mF (sn_aload_n (pc := 70) (j := 0) X (by decide +kernel) rfl) <|
  mF (sn_bipush (pc := 71) (n := 6) X (by decide +kernel) (by decide)) <|
  mF (sn_newI (pc := 73) X wd_126 (by decide +kernel)) <|
  mF (sn_putR (D' := "") (pc := 75) X hn fd_X11_35 ⟨tyX11_ok, nmX11⟩ rfl rfl rfl (fun _ => ⟨rfl, rfl⟩) (by decide +kernel)) <|
  mF (sn_aload_n (pc := 78) (j := 0) X (by decide +kernel) rfl) <|
  mF (sn_bipush (pc := 79) (n := 6) X (by decide +kernel) (by decide)) <|
  mF (sn_newI (pc := 81) X wd_126 (by decide +kernel)) <|
  mF (sn_putR (D' := "") (pc := 83) X hn fd_X11_38 ⟨tyX11_ok, nmX11⟩ rfl rfl rfl (fun _ => ⟨rfl, rfl⟩) (by decide +kernel)) <|
  mF (sn_aload_n (pc := 86) (j := 0) X (by decide +kernel) rfl) <|
  mF (sn_iconst (pc := 87) (n := 0) X (by decide +kernel) (by decide)) <|
  mF (sn_iconst (pc := 88) (n := 0) X (by decide +kernel) (by decide)) <|
  mF (sn_callV (pc := 89) X mc_X11_sine (me_X11_sine l B) yi_X11_sine wd_908 wd_910 wd_11 (T := TX11) (N := 22) rfl (by decide) (by decide +kernel)) <|
  mF (sn_aload_n (pc := 92) (j := 0) X (by decide +kernel) rfl) <|
  mF (sn_iconst (pc := 93) (n := 1) X (by decide +kernel) (by decide)) <|
  mF (sn_bipush (pc := 94) (n := 100) X (by decide +kernel) (by decide)) <|
  mF (sn_callV (pc := 96) X mc_X11_sine (me_X11_sine l B) yi_X11_sine wd_908 wd_910 wd_11 (T := TX11) (N := 22) rfl (by decide) (by decide +kernel)) <|
  mF (sn_aload_n (pc := 99) (j := 0) X (by decide +kernel) rfl) <|
  mF (sn_iconst (pc := 100) (n := 2) X (by decide +kernel) (by decide)) <|
  mF (sn_sipush (pc := 101) (n := 200) X (by decide +kernel) (by decide)) <|
  mF (sn_callV (pc := 104) X mc_X11_sine (me_X11_sine l B) yi_X11_sine wd_908 wd_910 wd_11 (T := TX11) (N := 22) rfl (by decide) (by decide +kernel)) <|
  mF (sn_aload_n (pc := 107) (j := 0) X (by decide +kernel) rfl) <|
  mF (sn_iconst (pc := 108) (n := 3) X (by decide +kernel) (by decide)) <|
  mF (sn_sipush (pc := 109) (n := 297) X (by decide +kernel) (by decide)) <|
  mF (sn_callV (pc := 112) X mc_X11_sine (me_X11_sine l B) yi_X11_sine wd_908 wd_910 wd_11 (T := TX11) (N := 22) rfl (by decide) (by decide +kernel)) <|
  mF (sn_aload_n (pc := 115) (j := 0) X (by decide +kernel) rfl) <|
  mF (sn_iconst (pc := 116) (n := 4) X (by decide +kernel) (by decide)) <|
  mF (sn_sipush (pc := 117) (n := 392) X (by decide +kernel) (by decide)) <|
  mF (sn_callV (pc := 120) X mc_X11_sine (me_X11_sine l B) yi_X11_sine wd_908 wd_910 wd_11 (T := TX11) (N := 22) rfl (by decide) (by decide +kernel)) <|
  mF (sn_aload_n (pc := 123) (j := 0) X (by decide +kernel) rfl) <|
  mF (sn_iconst (pc := 124) (n := 5) X (by decide +kernel) (by decide)) <|
  mF (sn_sipush (pc := 125) (n := 483) X (by decide +kernel) (by decide)) <|
  mF (sn_callV (pc := 128) X mc_X11_sine (me_X11_sine l B) yi_X11_sine wd_908 wd_910 wd_11 (T := TX11) (N := 22) rfl (by decide) (by decide +kernel)) <|
  mF (sn_aload_n (pc := 131) (j := 0) X (by decide +kernel) rfl) <|
  mF (sn_bipush (pc := 132) (n := 6) X (by decide +kernel) (by decide)) <|
  mF (sn_sipush (pc := 134) (n := 569) X (by decide +kernel) (by decide)) <|
  mF (sn_callV (pc := 137) X mc_X11_sine (me_X11_sine l B) yi_X11_sine wd_908 wd_910 wd_11 (T := TX11) (N := 22) rfl (by decide) (by decide +kernel)) <|
  mF0
set_option maxRecDepth 100000 in
set_option maxHeartbeats 4000000 in
theorem sd_X11_init_c1 (l : Launch) (B : mBs) (p : Program) (e : Env) (s : State) (m : MethodId) (args : Array Value) (below : List Frame) (meth : Method) (c : Code) (Q : mQo) (X : mCx l B RX11 cX11_init 2 p s m args c) (hr : meth.sig.returnType = none) (hk : meth.locks = false) (hn : meth.name = "<init>") : ∀ q ∈ tb_X11_init_c1, mSnd l B 2 p e (mRm 1 10 2974) s m args below meth c (MQ below (mPo B Q) args s 10 2974 (mA B)) (fun r h' => (h'.1.2.1 ≤ 10 ∧ h'.1.2.2 ≤ 2974) ∧ Q r h') q.2 q.1 :=
  mF (sn_aload_n (pc := 140) (j := 0) X (by decide +kernel) rfl) <|
  mF (sn_bipush (pc := 141) (n := 7) X (by decide +kernel) (by decide)) <|
  mF (sn_sipush (pc := 143) (n := 650) X (by decide +kernel) (by decide)) <|
  mF (sn_callV (pc := 146) X mc_X11_sine (me_X11_sine l B) yi_X11_sine wd_908 wd_910 wd_11 (T := TX11) (N := 22) rfl (by decide) (by decide +kernel)) <|
  mF (sn_aload_n (pc := 149) (j := 0) X (by decide +kernel) rfl) <|
  mF (sn_bipush (pc := 150) (n := 8) X (by decide +kernel) (by decide)) <|
  mF (sn_sipush (pc := 152) (n := 724) X (by decide +kernel) (by decide)) <|
  mF (sn_callV (pc := 155) X mc_X11_sine (me_X11_sine l B) yi_X11_sine wd_908 wd_910 wd_11 (T := TX11) (N := 22) rfl (by decide) (by decide +kernel)) <|
  mF (sn_aload_n (pc := 158) (j := 0) X (by decide +kernel) rfl) <|
  mF (sn_bipush (pc := 159) (n := 9) X (by decide +kernel) (by decide)) <|
  mF (sn_sipush (pc := 161) (n := 792) X (by decide +kernel) (by decide)) <|
  mF (sn_callV (pc := 164) X mc_X11_sine (me_X11_sine l B) yi_X11_sine wd_908 wd_910 wd_11 (T := TX11) (N := 22) rfl (by decide) (by decide +kernel)) <|
  mF (sn_aload_n (pc := 167) (j := 0) X (by decide +kernel) rfl) <|
  mF (sn_bipush (pc := 168) (n := 10) X (by decide +kernel) (by decide)) <|
  mF (sn_sipush (pc := 170) (n := 851) X (by decide +kernel) (by decide)) <|
  mF (sn_callV (pc := 173) X mc_X11_sine (me_X11_sine l B) yi_X11_sine wd_908 wd_910 wd_11 (T := TX11) (N := 22) rfl (by decide) (by decide +kernel)) <|
  mF (sn_aload_n (pc := 176) (j := 0) X (by decide +kernel) rfl) <|
  mF (sn_bipush (pc := 177) (n := 11) X (by decide +kernel) (by decide)) <|
  mF (sn_sipush (pc := 179) (n := 903) X (by decide +kernel) (by decide)) <|
  mF (sn_callV (pc := 182) X mc_X11_sine (me_X11_sine l B) yi_X11_sine wd_908 wd_910 wd_11 (T := TX11) (N := 22) rfl (by decide) (by decide +kernel)) <|
  mF (sn_aload_n (pc := 185) (j := 0) X (by decide +kernel) rfl) <|
  mF (sn_bipush (pc := 186) (n := 12) X (by decide +kernel) (by decide)) <|
  mF (sn_sipush (pc := 188) (n := 946) X (by decide +kernel) (by decide)) <|
  mF (sn_callV (pc := 191) X mc_X11_sine (me_X11_sine l B) yi_X11_sine wd_908 wd_910 wd_11 (T := TX11) (N := 22) rfl (by decide) (by decide +kernel)) <|
  mF (sn_aload_n (pc := 194) (j := 0) X (by decide +kernel) rfl) <|
  mF (sn_bipush (pc := 195) (n := 13) X (by decide +kernel) (by decide)) <|
  mF (sn_sipush (pc := 197) (n := 980) X (by decide +kernel) (by decide)) <|
  mF (sn_callV (pc := 200) X mc_X11_sine (me_X11_sine l B) yi_X11_sine wd_908 wd_910 wd_11 (T := TX11) (N := 22) rfl (by decide) (by decide +kernel)) <|
  mF (sn_aload_n (pc := 203) (j := 0) X (by decide +kernel) rfl) <|
  mF (sn_bipush (pc := 204) (n := 14) X (by decide +kernel) (by decide)) <|
  mF (sn_sipush (pc := 206) (n := 1004) X (by decide +kernel) (by decide)) <|
  mF (sn_callV (pc := 209) X mc_X11_sine (me_X11_sine l B) yi_X11_sine wd_908 wd_910 wd_11 (T := TX11) (N := 22) rfl (by decide) (by decide +kernel)) <|
  mF (sn_aload_n (pc := 212) (j := 0) X (by decide +kernel) rfl) <|
  mF (sn_bipush (pc := 213) (n := 15) X (by decide +kernel) (by decide)) <|
  mF (sn_sipush (pc := 215) (n := 1019) X (by decide +kernel) (by decide)) <|
  mF (sn_callV (pc := 218) X mc_X11_sine (me_X11_sine l B) yi_X11_sine wd_908 wd_910 wd_11 (T := TX11) (N := 22) rfl (by decide) (by decide +kernel)) <|
  mF (sn_aload_n (pc := 221) (j := 0) X (by decide +kernel) rfl) <|
  mF (sn_bipush (pc := 222) (n := 16) X (by decide +kernel) (by decide)) <|
  mF (sn_sipush (pc := 224) (n := 1024) X (by decide +kernel) (by decide)) <|
  mF (sn_callV (pc := 227) X mc_X11_sine (me_X11_sine l B) yi_X11_sine wd_908 wd_910 wd_11 (T := TX11) (N := 22) rfl (by decide) (by decide +kernel)) <|
  mF (sn_iconst (pc := 230) (n := 0) X (by decide +kernel) (by decide)) <|
  mF (sn_istore_n (pc := 231) (j := 1) X (by decide +kernel) rfl (by decide)) <|
  mF (sn_iload_n (pc := 232) (j := 1) X (by decide +kernel) rfl) <|
  mF (sn_iconst (pc := 233) (n := 2) X (by decide +kernel) (by decide)) <|
  mF (sn_icmp_ge (pc := 234) (off := 40) X (by decide +kernel) (by decide)) <|
  mF (sn_aload_n (pc := 237) (j := 0) X (by decide +kernel) rfl) <|
  mF (sn_getR (pc := 238) X fd_X11_7 (by decide +kernel)) <|
  mF (sn_sipush (pc := 241) (n := 239) X (by decide +kernel) (by decide)) <|
  mF (sn_iload_n (pc := 244) (j := 1) X (by decide +kernel) rfl) <|
  mF (sn_imul (pc := 245) X (by decide +kernel)) <|
  mF (sn_bipush (pc := 246) (n := 27) X (by decide +kernel) (by decide)) <|
  mF (sn_iadd (pc := 248) X (by decide +kernel)) <|
  mF (sn_iconst (pc := 249) (n := (-1)) X (by decide +kernel) (by decide)) <|
  mF (sn_iastore (pc := 250) X (by decide +kernel)) <|
  mF (sn_aload_n (pc := 251) (j := 0) X (by decide +kernel) rfl) <|
  mF (sn_getR (pc := 252) X fd_X11_7 (by decide +kernel)) <|
  mF (sn_sipush (pc := 255) (n := 239) X (by decide +kernel) (by decide)) <|
  mF (sn_iload_n (pc := 258) (j := 1) X (by decide +kernel) rfl) <|
  mF (sn_imul (pc := 259) X (by decide +kernel)) <|
  mF (sn_bipush (pc := 260) (n := 40) X (by decide +kernel) (by decide)) <|
  mF (sn_iadd (pc := 262) X (by decide +kernel)) <|
  mF (sn_iconst (pc := 263) (n := 1) X (by decide +kernel) (by decide)) <|
  mF (sn_iadd (pc := 264) X (by decide +kernel)) <|
  mF (sn_bipush (pc := 265) (n := 100) X (by decide +kernel) (by decide)) <|
  mF (sn_iastore (pc := 267) X (by decide +kernel)) <|
  mF (sn_iinc (pc := 268) (n := 1) X (by decide +kernel) (by decide) (by decide)) <|
  mF (sn_goto (pc := 271) (off := (-39)) X (by decide +kernel) (by decide)) <|
  mF (sn_vret (pc := 274) X hr hk (by decide +kernel)) <|
  mF0
theorem sd_X11_init (l : Launch) (B : mBs) (p : Program) (e : Env) (s : State) (m : MethodId) (args : Array Value) (below : List Frame) (meth : Method) (c : Code) (Q : mQo) (X : mCx l B RX11 cX11_init 2 p s m args c) (hr : meth.sig.returnType = none) (hk : meth.locks = false) (hn : meth.name = "<init>") : ∀ q ∈ tb_X11_init, mSnd l B 2 p e (mRm 1 10 2974) s m args below meth c (MQ below (mPo B Q) args s 10 2974 (mA B)) (fun r h' => (h'.1.2.1 ≤ 10 ∧ h'.1.2.2 ≤ 2974) ∧ Q r h') q.2 q.1 := mFA (sd_X11_init_c0 l B p e s m args below meth c Q X hr hk hn) (sd_X11_init_c1 l B p e s m args below meth c Q X hr hk hn)
theorem me_X11_init (l : Launch) (B : mBs) : mMet l B yX11_init cX11_init 2 none 1 10 2974 C_X11_init := mMet_of (own := RX11) (by decide) rfl (fun p e s m args below meth c Q X hr hk hn => sd_X11_init l B p e s m args below meth c Q X hr hk hn)
/-! PuppetStageModel.isIn(III)Z: 10 instructions, depth 0, makes 0 cells of 0 slots -/
def tb_X11_isIn : mTb := [(0, aLI 0 1), (1, aLI 1 2), (2, aIc (fun x y => x < y) 14 5), (5, aLI 0 6), (6, aLI 2 7), (7, aIc (fun x y => y < x) 14 10), (10, aPI 1 11), (11, aGo 15), (14, aPI 0 15), (15, aRZ)]
theorem mt_X11_isIn : mMT tb_X11_isIn :=
  mF (mn_LI _ _) <|
  mF (mn_LI _ _) <|
  mF (mn_Ic _ _ _) <|
  mF (mn_LI _ _) <|
  mF (mn_LI _ _) <|
  mF (mn_Ic _ _ _) <|
  mF (mn_PI _ _) <|
  mF (mn_Go _) <|
  mF (mn_PI _ _) <|
  mF (mn_RZ) <|
  mF0
def C_X11_isIn : mCo := mRun tb_X11_isIn 3
theorem mc_X11_isIn : mMC C_X11_isIn := mRun_mn mt_X11_isIn 3
theorem yi_X11_isIn : mYin yX11_isIn cX11_isIn 3 (some .boolean) 3 := ⟨wd_60, wd_994, by decide +kernel, by decide⟩
set_option maxRecDepth 100000 in
set_option maxHeartbeats 4000000 in
theorem sd_X11_isIn (l : Launch) (B : mBs) (p : Program) (e : Env) (s : State) (m : MethodId) (args : Array Value) (below : List Frame) (meth : Method) (c : Code) (Q : mQo) (X : mCx l B RX11 cX11_isIn 3 p s m args c) (hr : meth.sig.returnType = (some .boolean)) (hk : meth.locks = false) (hn : meth.name = "isIn") : ∀ q ∈ tb_X11_isIn, mSnd l B 3 p e (mRm 0 0 0) s m args below meth c (MQ below (mPo B Q) args s 0 0 (mA B)) (fun r h' => (h'.1.2.1 ≤ 0 ∧ h'.1.2.2 ≤ 0) ∧ Q r h') q.2 q.1 :=
  mF (sn_iload_n (pc := 0) (j := 0) X (by decide +kernel) rfl) <|
  mF (sn_iload_n (pc := 1) (j := 1) X (by decide +kernel) rfl) <|
  mF (sn_icmp_lt (pc := 2) (off := 12) X (by decide +kernel) (by decide)) <|
  mF (sn_iload_n (pc := 5) (j := 0) X (by decide +kernel) rfl) <|
  mF (sn_iload_n (pc := 6) (j := 2) X (by decide +kernel) rfl) <|
  mF (sn_icmp_gt (pc := 7) (off := 7) X (by decide +kernel) (by decide)) <|
  mF (sn_iconst (pc := 10) (n := 1) X (by decide +kernel) (by decide)) <|
  mF (sn_goto (pc := 11) (off := 4) X (by decide +kernel) (by decide)) <|
  mF (sn_iconst (pc := 14) (n := 0) X (by decide +kernel) (by decide)) <|
  mF (sn_zret (pc := 15) X hr hk (by decide +kernel)) <|
  mF0
theorem me_X11_isIn (l : Launch) (B : mBs) : mMet l B yX11_isIn cX11_isIn 3 (some .boolean) 0 0 0 C_X11_isIn := mMet_of (own := RX11) (by decide) rfl (fun p e s m args below meth c Q X hr hk hn => sd_X11_isIn l B p e s m args below meth c Q X hr hk hn)
/-! PuppetStageModel.isPuppet(I)Z: 5 instructions, depth 1, makes 0 cells of 0 slots -/
def tb_X11_isPuppet : mTb := [(0, aLI 0 1), (1, aPI 0 2), (2, aPI 1 3), (3, aCS 3 C_X11_isIn 6), (6, aRZ)]
theorem mt_X11_isPuppet : mMT tb_X11_isPuppet :=
  mF (mn_LI _ _) <|
  mF (mn_PI _ _) <|
  mF (mn_PI _ _) <|
  mF (mn_CS _ mc_X11_isIn _) <|
  mF (mn_RZ) <|
  mF0
def C_X11_isPuppet : mCo := mRun tb_X11_isPuppet 1
theorem mc_X11_isPuppet : mMC C_X11_isPuppet := mRun_mn mt_X11_isPuppet 1
theorem yi_X11_isPuppet : mYin yX11_isPuppet cX11_isPuppet 1 (some .boolean) 1 := ⟨wd_60, wd_991, by decide +kernel, by decide⟩
set_option maxRecDepth 100000 in
set_option maxHeartbeats 4000000 in
theorem sd_X11_isPuppet (l : Launch) (B : mBs) (p : Program) (e : Env) (s : State) (m : MethodId) (args : Array Value) (below : List Frame) (meth : Method) (c : Code) (Q : mQo) (X : mCx l B RX11 cX11_isPuppet 1 p s m args c) (hr : meth.sig.returnType = (some .boolean)) (hk : meth.locks = false) (hn : meth.name = "isPuppet") : ∀ q ∈ tb_X11_isPuppet, mSnd l B 1 p e (mRm 1 0 0) s m args below meth c (MQ below (mPo B Q) args s 0 0 (mA B)) (fun r h' => (h'.1.2.1 ≤ 0 ∧ h'.1.2.2 ≤ 0) ∧ Q r h') q.2 q.1 :=
  mF (sn_iload_n (pc := 0) (j := 0) X (by decide +kernel) rfl) <|
  mF (sn_iconst (pc := 1) (n := 0) X (by decide +kernel) (by decide)) <|
  mF (sn_iconst (pc := 2) (n := 1) X (by decide +kernel) (by decide)) <|
  mF (sn_callS (pc := 3) X mc_X11_isIn (me_X11_isIn l B) yi_X11_isIn wd_992 wd_993 (by decide) (by decide +kernel)) <|
  mF (sn_zret (pc := 6) X hr hk (by decide +kernel)) <|
  mF0
theorem me_X11_isPuppet (l : Launch) (B : mBs) : mMet l B yX11_isPuppet cX11_isPuppet 1 (some .boolean) 1 0 0 C_X11_isPuppet := mMet_of (own := RX11) (by decide) rfl (fun p e s m args below meth c Q X hr hk hn => sd_X11_isPuppet l B p e s m args below meth c Q X hr hk hn)
/-! PuppetStageModel.get(II)I: 9 instructions, depth 0, makes 0 cells of 0 slots -/
def tb_X11_get : mTb := [(0, aLA 0 1), (1, aGR 11 0 4), (4, aPI 239 7), (7, aLI 1 8), (8, aB (fun x y => x * y) 9), (9, aLI 2 10), (10, aB (fun x y => x + y) 11), (11, aIA 12), (12, aRI)]
theorem mt_X11_get : mMT tb_X11_get :=
  mF (mn_LA _ _) <|
  mF (mn_GR _ _ _) <|
  mF (mn_PI _ _) <|
  mF (mn_LI _ _) <|
  mF (mn_B _ _) <|
  mF (mn_LI _ _) <|
  mF (mn_B _ _) <|
  mF (mn_IA _) <|
  mF (mn_RI) <|
  mF0
def C_X11_get : mCo := mRun tb_X11_get 3
theorem mc_X11_get : mMC C_X11_get := mRun_mn mt_X11_get 3
theorem yi_X11_get : mYin yX11_get cX11_get 3 (some .int) 2 := ⟨wd_60, wd_998, by decide +kernel, by decide⟩
set_option maxRecDepth 100000 in
set_option maxHeartbeats 4000000 in
theorem sd_X11_get (l : Launch) (B : mBs) (p : Program) (e : Env) (s : State) (m : MethodId) (args : Array Value) (below : List Frame) (meth : Method) (c : Code) (Q : mQo) (X : mCx l B RX11 cX11_get 3 p s m args c) (hr : meth.sig.returnType = (some .int)) (hk : meth.locks = false) (hn : meth.name = "get") : ∀ q ∈ tb_X11_get, mSnd l B 3 p e (mRm 0 0 0) s m args below meth c (MQ below (mPo B Q) args s 0 0 (mA B)) (fun r h' => (h'.1.2.1 ≤ 0 ∧ h'.1.2.2 ≤ 0) ∧ Q r h') q.2 q.1 :=
  mF (sn_aload_n (pc := 0) (j := 0) X (by decide +kernel) rfl) <|
  mF (sn_getR (pc := 1) X fd_X11_7 (by decide +kernel)) <|
  mF (sn_sipush (pc := 4) (n := 239) X (by decide +kernel) (by decide)) <|
  mF (sn_iload_n (pc := 7) (j := 1) X (by decide +kernel) rfl) <|
  mF (sn_imul (pc := 8) X (by decide +kernel)) <|
  mF (sn_iload_n (pc := 9) (j := 2) X (by decide +kernel) rfl) <|
  mF (sn_iadd (pc := 10) X (by decide +kernel)) <|
  mF (sn_iaload (pc := 11) X (by decide +kernel)) <|
  mF (sn_iret (pc := 12) X hr hk (by decide +kernel)) <|
  mF0
theorem me_X11_get (l : Launch) (B : mBs) : mMet l B yX11_get cX11_get 3 (some .int) 0 0 0 C_X11_get := mMet_of (own := RX11) (by decide) rfl (fun p e s m args below meth c Q X hr hk hn => sd_X11_get l B p e s m args below meth c Q X hr hk hn)
/-! PuppetStageModel.put(III)V: 10 instructions, depth 0, makes 0 cells of 0 slots -/
def tb_X11_put : mTb := [(0, aLA 0 1), (1, aGR 11 0 4), (4, aPI 239 7), (7, aLI 1 8), (8, aB (fun x y => x * y) 9), (9, aLI 2 10), (10, aB (fun x y => x + y) 11), (11, aLI 3 12), (12, aIS 13), (13, aRV)]
theorem mt_X11_put : mMT tb_X11_put :=
  mF (mn_LA _ _) <|
  mF (mn_GR _ _ _) <|
  mF (mn_PI _ _) <|
  mF (mn_LI _ _) <|
  mF (mn_B _ _) <|
  mF (mn_LI _ _) <|
  mF (mn_B _ _) <|
  mF (mn_LI _ _) <|
  mF (mn_IS _) <|
  mF (mn_RV) <|
  mF0
def C_X11_put : mCo := mRun tb_X11_put 4
theorem mc_X11_put : mMC C_X11_put := mRun_mn mt_X11_put 4
theorem yi_X11_put : mYin yX11_put cX11_put 4 none 3 := ⟨wd_60, wd_1016, by decide +kernel, by decide⟩
set_option maxRecDepth 100000 in
set_option maxHeartbeats 4000000 in
theorem sd_X11_put (l : Launch) (B : mBs) (p : Program) (e : Env) (s : State) (m : MethodId) (args : Array Value) (below : List Frame) (meth : Method) (c : Code) (Q : mQo) (X : mCx l B RX11 cX11_put 4 p s m args c) (hr : meth.sig.returnType = none) (hk : meth.locks = false) (hn : meth.name = "put") : ∀ q ∈ tb_X11_put, mSnd l B 4 p e (mRm 0 0 0) s m args below meth c (MQ below (mPo B Q) args s 0 0 (mA B)) (fun r h' => (h'.1.2.1 ≤ 0 ∧ h'.1.2.2 ≤ 0) ∧ Q r h') q.2 q.1 :=
  mF (sn_aload_n (pc := 0) (j := 0) X (by decide +kernel) rfl) <|
  mF (sn_getR (pc := 1) X fd_X11_7 (by decide +kernel)) <|
  mF (sn_sipush (pc := 4) (n := 239) X (by decide +kernel) (by decide)) <|
  mF (sn_iload_n (pc := 7) (j := 1) X (by decide +kernel) rfl) <|
  mF (sn_imul (pc := 8) X (by decide +kernel)) <|
  mF (sn_iload_n (pc := 9) (j := 2) X (by decide +kernel) rfl) <|
  mF (sn_iadd (pc := 10) X (by decide +kernel)) <|
  mF (sn_iload_n (pc := 11) (j := 3) X (by decide +kernel) rfl) <|
  mF (sn_iastore (pc := 12) X (by decide +kernel)) <|
  mF (sn_vret (pc := 13) X hr hk (by decide +kernel)) <|
  mF0
theorem me_X11_put (l : Launch) (B : mBs) : mMet l B yX11_put cX11_put 4 none 0 0 0 C_X11_put := mMet_of (own := RX11) (by decide) rfl (fun p e s m args below meth c Q X hr hk hn => sd_X11_put l B p e s m args below meth c Q X hr hk hn)
/-! PuppetStageModel.isLimb(II)Z: 17 instructions, depth 2, makes 0 cells of 0 slots -/
def tb_X11_isLimb : mTb := [(0, aLI 1 1), (1, aCS 1 C_X11_isPuppet 4), (4, aIf (fun x => x = 0) 27 7), (7, aLI 2 8), (8, aPI 0 9), (9, aLA 0 10), (10, aLI 1 11), (11, aPI 0 12), (12, aCV 11 2 C_X11_get 15), (15, aPI 1 16), (16, aB (fun x y => x - y) 17), (17, aCS 3 C_X11_isIn 20), (20, aIf (fun x => x = 0) 27 23), (23, aPI 1 24), (24, aGo 28), (27, aPI 0 28), (28, aRZ)]
theorem mt_X11_isLimb : mMT tb_X11_isLimb :=
  mF (mn_LI _ _) <|
  mF (mn_CS _ mc_X11_isPuppet _) <|
  mF (mn_If _ _ _) <|
  mF (mn_LI _ _) <|
  mF (mn_PI _ _) <|
  mF (mn_LA _ _) <|
  mF (mn_LI _ _) <|
  mF (mn_PI _ _) <|
  mF (mn_CV _ _ mc_X11_get _) <|
  mF (mn_PI _ _) <|
  mF (mn_B _ _) <|
  mF (mn_CS _ mc_X11_isIn _) <|
  mF (mn_If _ _ _) <|
  mF (mn_PI _ _) <|
  mF (mn_Go _) <|
  mF (mn_PI _ _) <|
  mF (mn_RZ) <|
  mF0
def C_X11_isLimb : mCo := mRun tb_X11_isLimb 3
theorem mc_X11_isLimb : mMC C_X11_isLimb := mRun_mn mt_X11_isLimb 3
theorem yi_X11_isLimb : mYin yX11_isLimb cX11_isLimb 3 (some .boolean) 2 := ⟨wd_60, wd_1065, by decide +kernel, by decide⟩
set_option maxRecDepth 100000 in
set_option maxHeartbeats 4000000 in
theorem sd_X11_isLimb (l : Launch) (B : mBs) (p : Program) (e : Env) (s : State) (m : MethodId) (args : Array Value) (below : List Frame) (meth : Method) (c : Code) (Q : mQo) (X : mCx l B RX11 cX11_isLimb 3 p s m args c) (hr : meth.sig.returnType = (some .boolean)) (hk : meth.locks = false) (hn : meth.name = "isLimb") : ∀ q ∈ tb_X11_isLimb, mSnd l B 3 p e (mRm 2 0 0) s m args below meth c (MQ below (mPo B Q) args s 0 0 (mA B)) (fun r h' => (h'.1.2.1 ≤ 0 ∧ h'.1.2.2 ≤ 0) ∧ Q r h') q.2 q.1 :=
  mF (sn_iload_n (pc := 0) (j := 1) X (by decide +kernel) rfl) <|
  mF (sn_callS (pc := 1) X mc_X11_isPuppet (me_X11_isPuppet l B) yi_X11_isPuppet wd_989 wd_990 (by decide) (by decide +kernel)) <|
  mF (sn_if_eq (pc := 4) (off := 23) X (by decide +kernel) (by decide)) <|
  mF (sn_iload_n (pc := 7) (j := 2) X (by decide +kernel) rfl) <|
  mF (sn_iconst (pc := 8) (n := 0) X (by decide +kernel) (by decide)) <|
  mF (sn_aload_n (pc := 9) (j := 0) X (by decide +kernel) rfl) <|
  mF (sn_iload_n (pc := 10) (j := 1) X (by decide +kernel) rfl) <|
  mF (sn_iconst (pc := 11) (n := 0) X (by decide +kernel) (by decide)) <|
  mF (sn_callV (pc := 12) X mc_X11_get (me_X11_get l B) yi_X11_get wd_995 wd_997 wd_12 (T := TX11) (N := 22) rfl (by decide) (by decide +kernel)) <|
  mF (sn_iconst (pc := 15) (n := 1) X (by decide +kernel) (by decide)) <|
  mF (sn_isub (pc := 16) X (by decide +kernel)) <|
  mF (sn_callS (pc := 17) X mc_X11_isIn (me_X11_isIn l B) yi_X11_isIn wd_992 wd_993 (by decide) (by decide +kernel)) <|
  mF (sn_if_eq (pc := 20) (off := 7) X (by decide +kernel) (by decide)) <|
  mF (sn_iconst (pc := 23) (n := 1) X (by decide +kernel) (by decide)) <|
  mF (sn_goto (pc := 24) (off := 4) X (by decide +kernel) (by decide)) <|
  mF (sn_iconst (pc := 27) (n := 0) X (by decide +kernel) (by decide)) <|
  mF (sn_zret (pc := 28) X hr hk (by decide +kernel)) <|
  mF0
theorem me_X11_isLimb (l : Launch) (B : mBs) : mMet l B yX11_isLimb cX11_isLimb 3 (some .boolean) 2 0 0 C_X11_isLimb := mMet_of (own := RX11) (by decide) rfl (fun p e s m args below meth c Q X hr hk hn => sd_X11_isLimb l B p e s m args below meth c Q X hr hk hn)
/-! PuppetStageModel.isHold(II)Z: 17 instructions, depth 2, makes 0 cells of 0 slots -/
def tb_X11_isHold : mTb := [(0, aLI 1 1), (1, aCS 1 C_X11_isPuppet 4), (4, aIf (fun x => x = 0) 28 7), (7, aLI 2 8), (8, aPI 0 9), (9, aLA 0 10), (10, aLI 1 11), (11, aPI 55 13), (13, aCV 11 2 C_X11_get 16), (16, aPI 1 17), (17, aB (fun x y => x - y) 18), (18, aCS 3 C_X11_isIn 21), (21, aIf (fun x => x = 0) 28 24), (24, aPI 1 25), (25, aGo 29), (28, aPI 0 29), (29, aRZ)]
theorem mt_X11_isHold : mMT tb_X11_isHold :=
  mF (mn_LI _ _) <|
  mF (mn_CS _ mc_X11_isPuppet _) <|
  mF (mn_If _ _ _) <|
  mF (mn_LI _ _) <|
  mF (mn_PI _ _) <|
  mF (mn_LA _ _) <|
  mF (mn_LI _ _) <|
  mF (mn_PI _ _) <|
  mF (mn_CV _ _ mc_X11_get _) <|
  mF (mn_PI _ _) <|
  mF (mn_B _ _) <|
  mF (mn_CS _ mc_X11_isIn _) <|
  mF (mn_If _ _ _) <|
  mF (mn_PI _ _) <|
  mF (mn_Go _) <|
  mF (mn_PI _ _) <|
  mF (mn_RZ) <|
  mF0
def C_X11_isHold : mCo := mRun tb_X11_isHold 3
theorem mc_X11_isHold : mMC C_X11_isHold := mRun_mn mt_X11_isHold 3
theorem yi_X11_isHold : mYin yX11_isHold cX11_isHold 3 (some .boolean) 2 := ⟨wd_60, wd_1131, by decide +kernel, by decide⟩
set_option maxRecDepth 100000 in
set_option maxHeartbeats 4000000 in
theorem sd_X11_isHold (l : Launch) (B : mBs) (p : Program) (e : Env) (s : State) (m : MethodId) (args : Array Value) (below : List Frame) (meth : Method) (c : Code) (Q : mQo) (X : mCx l B RX11 cX11_isHold 3 p s m args c) (hr : meth.sig.returnType = (some .boolean)) (hk : meth.locks = false) (hn : meth.name = "isHold") : ∀ q ∈ tb_X11_isHold, mSnd l B 3 p e (mRm 2 0 0) s m args below meth c (MQ below (mPo B Q) args s 0 0 (mA B)) (fun r h' => (h'.1.2.1 ≤ 0 ∧ h'.1.2.2 ≤ 0) ∧ Q r h') q.2 q.1 :=
  mF (sn_iload_n (pc := 0) (j := 1) X (by decide +kernel) rfl) <|
  mF (sn_callS (pc := 1) X mc_X11_isPuppet (me_X11_isPuppet l B) yi_X11_isPuppet wd_989 wd_990 (by decide) (by decide +kernel)) <|
  mF (sn_if_eq (pc := 4) (off := 24) X (by decide +kernel) (by decide)) <|
  mF (sn_iload_n (pc := 7) (j := 2) X (by decide +kernel) rfl) <|
  mF (sn_iconst (pc := 8) (n := 0) X (by decide +kernel) (by decide)) <|
  mF (sn_aload_n (pc := 9) (j := 0) X (by decide +kernel) rfl) <|
  mF (sn_iload_n (pc := 10) (j := 1) X (by decide +kernel) rfl) <|
  mF (sn_bipush (pc := 11) (n := 55) X (by decide +kernel) (by decide)) <|
  mF (sn_callV (pc := 13) X mc_X11_get (me_X11_get l B) yi_X11_get wd_995 wd_997 wd_12 (T := TX11) (N := 22) rfl (by decide) (by decide +kernel)) <|
  mF (sn_iconst (pc := 16) (n := 1) X (by decide +kernel) (by decide)) <|
  mF (sn_isub (pc := 17) X (by decide +kernel)) <|
  mF (sn_callS (pc := 18) X mc_X11_isIn (me_X11_isIn l B) yi_X11_isIn wd_992 wd_993 (by decide) (by decide +kernel)) <|
  mF (sn_if_eq (pc := 21) (off := 7) X (by decide +kernel) (by decide)) <|
  mF (sn_iconst (pc := 24) (n := 1) X (by decide +kernel) (by decide)) <|
  mF (sn_goto (pc := 25) (off := 4) X (by decide +kernel) (by decide)) <|
  mF (sn_iconst (pc := 28) (n := 0) X (by decide +kernel) (by decide)) <|
  mF (sn_zret (pc := 29) X hr hk (by decide +kernel)) <|
  mF0
theorem me_X11_isHold (l : Launch) (B : mBs) : mMet l B yX11_isHold cX11_isHold 3 (some .boolean) 2 0 0 C_X11_isHold := mMet_of (own := RX11) (by decide) rfl (fun p e s m args below meth c Q X hr hk hn => sd_X11_isHold l B p e s m args below meth c Q X hr hk hn)
/-! PuppetStageModel.of(III)I: 11 instructions, depth 1, makes 0 cells of 0 slots -/
def tb_X11_of : mTb := [(0, aLA 0 1), (1, aLI 1 2), (2, aPI 56 4), (4, aPI 6 6), (6, aLI 2 7), (7, aB (fun x y => x * y) 8), (8, aB (fun x y => x + y) 9), (9, aLI 3 10), (10, aB (fun x y => x + y) 11), (11, aCV 11 2 C_X11_get 14), (14, aRI)]
theorem mt_X11_of : mMT tb_X11_of :=
  mF (mn_LA _ _) <|
  mF (mn_LI _ _) <|
  mF (mn_PI _ _) <|
  mF (mn_PI _ _) <|
  mF (mn_LI _ _) <|
  mF (mn_B _ _) <|
  mF (mn_B _ _) <|
  mF (mn_LI _ _) <|
  mF (mn_B _ _) <|
  mF (mn_CV _ _ mc_X11_get _) <|
  mF (mn_RI) <|
  mF0
def C_X11_of : mCo := mRun tb_X11_of 4
theorem mc_X11_of : mMC C_X11_of := mRun_mn mt_X11_of 4
theorem yi_X11_of : mYin yX11_of cX11_of 4 (some .int) 3 := ⟨wd_60, wd_1024, by decide +kernel, by decide⟩
set_option maxRecDepth 100000 in
set_option maxHeartbeats 4000000 in
theorem sd_X11_of (l : Launch) (B : mBs) (p : Program) (e : Env) (s : State) (m : MethodId) (args : Array Value) (below : List Frame) (meth : Method) (c : Code) (Q : mQo) (X : mCx l B RX11 cX11_of 4 p s m args c) (hr : meth.sig.returnType = (some .int)) (hk : meth.locks = false) (hn : meth.name = "of") : ∀ q ∈ tb_X11_of, mSnd l B 4 p e (mRm 1 0 0) s m args below meth c (MQ below (mPo B Q) args s 0 0 (mA B)) (fun r h' => (h'.1.2.1 ≤ 0 ∧ h'.1.2.2 ≤ 0) ∧ Q r h') q.2 q.1 :=
  mF (sn_aload_n (pc := 0) (j := 0) X (by decide +kernel) rfl) <|
  mF (sn_iload_n (pc := 1) (j := 1) X (by decide +kernel) rfl) <|
  mF (sn_bipush (pc := 2) (n := 56) X (by decide +kernel) (by decide)) <|
  mF (sn_bipush (pc := 4) (n := 6) X (by decide +kernel) (by decide)) <|
  mF (sn_iload_n (pc := 6) (j := 2) X (by decide +kernel) rfl) <|
  mF (sn_imul (pc := 7) X (by decide +kernel)) <|
  mF (sn_iadd (pc := 8) X (by decide +kernel)) <|
  mF (sn_iload_n (pc := 9) (j := 3) X (by decide +kernel) rfl) <|
  mF (sn_iadd (pc := 10) X (by decide +kernel)) <|
  mF (sn_callV (pc := 11) X mc_X11_get (me_X11_get l B) yi_X11_get wd_995 wd_997 wd_12 (T := TX11) (N := 22) rfl (by decide) (by decide +kernel)) <|
  mF (sn_iret (pc := 14) X hr hk (by decide +kernel)) <|
  mF0
theorem me_X11_of (l : Launch) (B : mBs) : mMet l B yX11_of cX11_of 4 (some .int) 1 0 0 C_X11_of := mMet_of (own := RX11) (by decide) rfl (fun p e s m args below meth c Q X hr hk hn => sd_X11_of l B p e s m args below meth c Q X hr hk hn)
/-! PuppetStageModel.keep()V: 54 instructions, depth 0, makes 0 cells of 0 slots -/
def tb_X11_keep : mTb := [(0, aLA 0 1), (1, aGI 11 2 4), (4, aPI 5 5), (5, aIc (fun x y => x = y) 8 49), (8, aPI 0 9), (9, aSI 1 10), (10, aLI 1 11), (11, aPI 1912 14), (14, aIc (fun x y => y ≤ x) 39 17), (17, aLA 0 18), (18, aGR 11 1 21), (21, aLI 1 22), (22, aLA 0 23), (23, aGR 11 1 26), (26, aLI 1 27), (27, aPI 478 30), (30, aB (fun x y => x + y) 31), (31, aIA 32), (32, aIS 33), (33, aInc 1 1 36), (36, aGo 10), (39, aLA 0 40), (40, aDup 41), (41, aGI 11 2 44), (44, aPI 1 45), (45, aB (fun x y => x - y) 46), (46, aWI 11 2 49), (49, aPI 0 50), (50, aSI 1 51), (51, aLI 1 52), (52, aPI 478 55), (55, aIc (fun x y => y ≤ x) 85 58), (58, aLA 0 59), (59, aGR 11 1 62), (62, aPI 478 65), (65, aLA 0 66), (66, aGI 11 2 69), (69, aB (fun x y => x * y) 70), (70, aLI 1 71), (71, aB (fun x y => x + y) 72), (72, aLA 0 73), (73, aGR 11 0 76), (76, aLI 1 77), (77, aIA 78), (78, aIS 79), (79, aInc 1 1 82), (82, aGo 51), (85, aLA 0 86), (86, aDup 87), (87, aGI 11 2 90), (90, aPI 1 91), (91, aB (fun x y => x + y) 92), (92, aWI 11 2 95), (95, aRV)]
theorem mt_X11_keep : mMT tb_X11_keep :=
  mF (mn_LA _ _) <|
  mF (mn_GI _ _ _) <|
  mF (mn_PI _ _) <|
  mF (mn_Ic _ _ _) <|
  mF (mn_PI _ _) <|
  mF (mn_SI _ _) <|
  mF (mn_LI _ _) <|
  mF (mn_PI _ _) <|
  mF (mn_Ic _ _ _) <|
  mF (mn_LA _ _) <|
  mF (mn_GR _ _ _) <|
  mF (mn_LI _ _) <|
  mF (mn_LA _ _) <|
  mF (mn_GR _ _ _) <|
  mF (mn_LI _ _) <|
  mF (mn_PI _ _) <|
  mF (mn_B _ _) <|
  mF (mn_IA _) <|
  mF (mn_IS _) <|
  mF (mn_Inc _ _ _) <|
  mF (mn_Go _) <|
  mF (mn_LA _ _) <|
  mF (mn_Dup _) <|
  mF (mn_GI _ _ _) <|
  mF (mn_PI _ _) <|
  mF (mn_B _ _) <|
  mF (mn_WI _ _ _) <|
  mF (mn_PI _ _) <|
  mF (mn_SI _ _) <|
  mF (mn_LI _ _) <|
  mF (mn_PI _ _) <|
  mF (mn_Ic _ _ _) <|
  mF (mn_LA _ _) <|
  mF (mn_GR _ _ _) <|
  mF (mn_PI _ _) <|
  mF (mn_LA _ _) <|
  mF (mn_GI _ _ _) <|
  mF (mn_B _ _) <|
  mF (mn_LI _ _) <|
  mF (mn_B _ _) <|
  mF (mn_LA _ _) <|
  mF (mn_GR _ _ _) <|
  mF (mn_LI _ _) <|
  mF (mn_IA _) <|
  mF (mn_IS _) <|
  mF (mn_Inc _ _ _) <|
  mF (mn_Go _) <|
  mF (mn_LA _ _) <|
  mF (mn_Dup _) <|
  mF (mn_GI _ _ _) <|
  mF (mn_PI _ _) <|
  mF (mn_B _ _) <|
  mF (mn_WI _ _ _) <|
  mF (mn_RV) <|
  mF0
def C_X11_keep : mCo := mRun tb_X11_keep 2
theorem mc_X11_keep : mMC C_X11_keep := mRun_mn mt_X11_keep 2
theorem yi_X11_keep : mYin yX11_keep cX11_keep 2 none 0 := ⟨wd_60, wd_1012, by decide +kernel, by decide⟩
set_option maxRecDepth 100000 in
set_option maxHeartbeats 4000000 in
theorem sd_X11_keep (l : Launch) (B : mBs) (p : Program) (e : Env) (s : State) (m : MethodId) (args : Array Value) (below : List Frame) (meth : Method) (c : Code) (Q : mQo) (X : mCx l B RX11 cX11_keep 2 p s m args c) (hr : meth.sig.returnType = none) (hk : meth.locks = false) (hn : meth.name = "keep") : ∀ q ∈ tb_X11_keep, mSnd l B 2 p e (mRm 0 0 0) s m args below meth c (MQ below (mPo B Q) args s 0 0 (mA B)) (fun r h' => (h'.1.2.1 ≤ 0 ∧ h'.1.2.2 ≤ 0) ∧ Q r h') q.2 q.1 :=
  mF (sn_aload_n (pc := 0) (j := 0) X (by decide +kernel) rfl) <|
  mF (sn_getI (pc := 1) X fd_X11_57 (by decide +kernel)) <|
  mF (sn_iconst (pc := 4) (n := 5) X (by decide +kernel) (by decide)) <|
  mF (sn_icmp_ne (pc := 5) (off := 44) X (by decide +kernel) (by decide)) <|
  mF (sn_iconst (pc := 8) (n := 0) X (by decide +kernel) (by decide)) <|
  mF (sn_istore_n (pc := 9) (j := 1) X (by decide +kernel) rfl (by decide)) <|
  mF (sn_iload_n (pc := 10) (j := 1) X (by decide +kernel) rfl) <|
  mF (sn_sipush (pc := 11) (n := 1912) X (by decide +kernel) (by decide)) <|
  mF (sn_icmp_ge (pc := 14) (off := 25) X (by decide +kernel) (by decide)) <|
  mF (sn_aload_n (pc := 17) (j := 0) X (by decide +kernel) rfl) <|
  mF (sn_getR (pc := 18) X fd_X11_13 (by decide +kernel)) <|
  mF (sn_iload_n (pc := 21) (j := 1) X (by decide +kernel) rfl) <|
  mF (sn_aload_n (pc := 22) (j := 0) X (by decide +kernel) rfl) <|
  mF (sn_getR (pc := 23) X fd_X11_13 (by decide +kernel)) <|
  mF (sn_iload_n (pc := 26) (j := 1) X (by decide +kernel) rfl) <|
  mF (sn_sipush (pc := 27) (n := 478) X (by decide +kernel) (by decide)) <|
  mF (sn_iadd (pc := 30) X (by decide +kernel)) <|
  mF (sn_iaload (pc := 31) X (by decide +kernel)) <|
  mF (sn_iastore (pc := 32) X (by decide +kernel)) <|
  mF (sn_iinc (pc := 33) (n := 1) X (by decide +kernel) (by decide) (by decide)) <|
  mF (sn_goto (pc := 36) (off := (-26)) X (by decide +kernel) (by decide)) <|
  mF (sn_aload_n (pc := 39) (j := 0) X (by decide +kernel) rfl) <|
  mF (sn_dup (pc := 40) X (by decide +kernel)) <|
  mF (sn_getI (pc := 41) X fd_X11_57 (by decide +kernel)) <|
  mF (sn_iconst (pc := 44) (n := 1) X (by decide +kernel) (by decide)) <|
  mF (sn_isub (pc := 45) X (by decide +kernel)) <|
  mF (sn_putI (pc := 46) X fd_X11_57 ⟨tyX11_ok, nmX11⟩ rfl rfl (by decide +kernel)) <|
  mF (sn_iconst (pc := 49) (n := 0) X (by decide +kernel) (by decide)) <|
  mF (sn_istore_n (pc := 50) (j := 1) X (by decide +kernel) rfl (by decide)) <|
  mF (sn_iload_n (pc := 51) (j := 1) X (by decide +kernel) rfl) <|
  mF (sn_sipush (pc := 52) (n := 478) X (by decide +kernel) (by decide)) <|
  mF (sn_icmp_ge (pc := 55) (off := 30) X (by decide +kernel) (by decide)) <|
  mF (sn_aload_n (pc := 58) (j := 0) X (by decide +kernel) rfl) <|
  mF (sn_getR (pc := 59) X fd_X11_13 (by decide +kernel)) <|
  mF (sn_sipush (pc := 62) (n := 478) X (by decide +kernel) (by decide)) <|
  mF (sn_aload_n (pc := 65) (j := 0) X (by decide +kernel) rfl) <|
  mF (sn_getI (pc := 66) X fd_X11_57 (by decide +kernel)) <|
  mF (sn_imul (pc := 69) X (by decide +kernel)) <|
  mF (sn_iload_n (pc := 70) (j := 1) X (by decide +kernel) rfl) <|
  mF (sn_iadd (pc := 71) X (by decide +kernel)) <|
  mF (sn_aload_n (pc := 72) (j := 0) X (by decide +kernel) rfl) <|
  mF (sn_getR (pc := 73) X fd_X11_7 (by decide +kernel)) <|
  mF (sn_iload_n (pc := 76) (j := 1) X (by decide +kernel) rfl) <|
  mF (sn_iaload (pc := 77) X (by decide +kernel)) <|
  mF (sn_iastore (pc := 78) X (by decide +kernel)) <|
  mF (sn_iinc (pc := 79) (n := 1) X (by decide +kernel) (by decide) (by decide)) <|
  mF (sn_goto (pc := 82) (off := (-31)) X (by decide +kernel) (by decide)) <|
  mF (sn_aload_n (pc := 85) (j := 0) X (by decide +kernel) rfl) <|
  mF (sn_dup (pc := 86) X (by decide +kernel)) <|
  mF (sn_getI (pc := 87) X fd_X11_57 (by decide +kernel)) <|
  mF (sn_iconst (pc := 90) (n := 1) X (by decide +kernel) (by decide)) <|
  mF (sn_iadd (pc := 91) X (by decide +kernel)) <|
  mF (sn_putI (pc := 92) X fd_X11_57 ⟨tyX11_ok, nmX11⟩ rfl rfl (by decide +kernel)) <|
  mF (sn_vret (pc := 95) X hr hk (by decide +kernel)) <|
  mF0
theorem me_X11_keep (l : Launch) (B : mBs) : mMet l B yX11_keep cX11_keep 2 none 0 0 0 C_X11_keep := mMet_of (own := RX11) (by decide) rfl (fun p e s m args below meth c Q X hr hk hn => sd_X11_keep l B p e s m args below meth c Q X hr hk hn)
/-! PuppetStageModel.undo()J: 35 instructions, depth 0, makes 0 cells of 0 slots -/
def tb_X11_undo : mTb := [(0, aLA 0 1), (1, aGI 11 2 4), (4, aIf (fun x => x = 0) 7 11), (7, aPL (-9000000000000000002) 10), (10, aRL), (11, aLA 0 12), (12, aDup 13), (13, aGI 11 2 16), (16, aPI 1 17), (17, aB (fun x y => x - y) 18), (18, aWI 11 2 21), (21, aPI 0 22), (22, aSI 1 23), (23, aLI 1 24), (24, aPI 478 27), (27, aIc (fun x y => y ≤ x) 57 30), (30, aLA 0 31), (31, aGR 11 0 34), (34, aLI 1 35), (35, aLA 0 36), (36, aGR 11 1 39), (39, aPI 478 42), (42, aLA 0 43), (43, aGI 11 2 46), (46, aB (fun x y => x * y) 47), (47, aLI 1 48), (48, aB (fun x y => x + y) 49), (49, aIA 50), (50, aIS 51), (51, aInc 1 1 54), (54, aGo 23), (57, aLA 0 58), (58, aGI 11 2 61), (61, aI2L 62), (62, aRL)]
theorem mt_X11_undo : mMT tb_X11_undo :=
  mF (mn_LA _ _) <|
  mF (mn_GI _ _ _) <|
  mF (mn_If _ _ _) <|
  mF (mn_PL _ _) <|
  mF (mn_RL) <|
  mF (mn_LA _ _) <|
  mF (mn_Dup _) <|
  mF (mn_GI _ _ _) <|
  mF (mn_PI _ _) <|
  mF (mn_B _ _) <|
  mF (mn_WI _ _ _) <|
  mF (mn_PI _ _) <|
  mF (mn_SI _ _) <|
  mF (mn_LI _ _) <|
  mF (mn_PI _ _) <|
  mF (mn_Ic _ _ _) <|
  mF (mn_LA _ _) <|
  mF (mn_GR _ _ _) <|
  mF (mn_LI _ _) <|
  mF (mn_LA _ _) <|
  mF (mn_GR _ _ _) <|
  mF (mn_PI _ _) <|
  mF (mn_LA _ _) <|
  mF (mn_GI _ _ _) <|
  mF (mn_B _ _) <|
  mF (mn_LI _ _) <|
  mF (mn_B _ _) <|
  mF (mn_IA _) <|
  mF (mn_IS _) <|
  mF (mn_Inc _ _ _) <|
  mF (mn_Go _) <|
  mF (mn_LA _ _) <|
  mF (mn_GI _ _ _) <|
  mF (mn_I2L _) <|
  mF (mn_RL) <|
  mF0
def C_X11_undo : mCo := mRun tb_X11_undo 2
theorem mc_X11_undo : mMC C_X11_undo := mRun_mn mt_X11_undo 2
theorem yi_X11_undo : mYin yX11_undo cX11_undo 2 (some .long) 0 := ⟨wd_60, wd_983, by decide +kernel, by decide⟩
set_option maxRecDepth 100000 in
set_option maxHeartbeats 4000000 in
theorem sd_X11_undo (l : Launch) (B : mBs) (p : Program) (e : Env) (s : State) (m : MethodId) (args : Array Value) (below : List Frame) (meth : Method) (c : Code) (Q : mQo) (X : mCx l B RX11 cX11_undo 2 p s m args c) (hr : meth.sig.returnType = (some .long)) (hk : meth.locks = false) (hn : meth.name = "undo") : ∀ q ∈ tb_X11_undo, mSnd l B 2 p e (mRm 0 0 0) s m args below meth c (MQ below (mPo B Q) args s 0 0 (mA B)) (fun r h' => (h'.1.2.1 ≤ 0 ∧ h'.1.2.2 ≤ 0) ∧ Q r h') q.2 q.1 :=
  mF (sn_aload_n (pc := 0) (j := 0) X (by decide +kernel) rfl) <|
  mF (sn_getI (pc := 1) X fd_X11_57 (by decide +kernel)) <|
  mF (sn_if_ne (pc := 4) (off := 7) X (by decide +kernel) (by decide)) <|
  mF (sn_ldc2 (pc := 7) X (by decide +kernel) wd_984) <|
  mF (sn_lret (pc := 10) X hr hk (by decide +kernel)) <|
  mF (sn_aload_n (pc := 11) (j := 0) X (by decide +kernel) rfl) <|
  mF (sn_dup (pc := 12) X (by decide +kernel)) <|
  mF (sn_getI (pc := 13) X fd_X11_57 (by decide +kernel)) <|
  mF (sn_iconst (pc := 16) (n := 1) X (by decide +kernel) (by decide)) <|
  mF (sn_isub (pc := 17) X (by decide +kernel)) <|
  mF (sn_putI (pc := 18) X fd_X11_57 ⟨tyX11_ok, nmX11⟩ rfl rfl (by decide +kernel)) <|
  mF (sn_iconst (pc := 21) (n := 0) X (by decide +kernel) (by decide)) <|
  mF (sn_istore_n (pc := 22) (j := 1) X (by decide +kernel) rfl (by decide)) <|
  mF (sn_iload_n (pc := 23) (j := 1) X (by decide +kernel) rfl) <|
  mF (sn_sipush (pc := 24) (n := 478) X (by decide +kernel) (by decide)) <|
  mF (sn_icmp_ge (pc := 27) (off := 30) X (by decide +kernel) (by decide)) <|
  mF (sn_aload_n (pc := 30) (j := 0) X (by decide +kernel) rfl) <|
  mF (sn_getR (pc := 31) X fd_X11_7 (by decide +kernel)) <|
  mF (sn_iload_n (pc := 34) (j := 1) X (by decide +kernel) rfl) <|
  mF (sn_aload_n (pc := 35) (j := 0) X (by decide +kernel) rfl) <|
  mF (sn_getR (pc := 36) X fd_X11_13 (by decide +kernel)) <|
  mF (sn_sipush (pc := 39) (n := 478) X (by decide +kernel) (by decide)) <|
  mF (sn_aload_n (pc := 42) (j := 0) X (by decide +kernel) rfl) <|
  mF (sn_getI (pc := 43) X fd_X11_57 (by decide +kernel)) <|
  mF (sn_imul (pc := 46) X (by decide +kernel)) <|
  mF (sn_iload_n (pc := 47) (j := 1) X (by decide +kernel) rfl) <|
  mF (sn_iadd (pc := 48) X (by decide +kernel)) <|
  mF (sn_iaload (pc := 49) X (by decide +kernel)) <|
  mF (sn_iastore (pc := 50) X (by decide +kernel)) <|
  mF (sn_iinc (pc := 51) (n := 1) X (by decide +kernel) (by decide) (by decide)) <|
  mF (sn_goto (pc := 54) (off := (-31)) X (by decide +kernel) (by decide)) <|
  mF (sn_aload_n (pc := 57) (j := 0) X (by decide +kernel) rfl) <|
  mF (sn_getI (pc := 58) X fd_X11_57 (by decide +kernel)) <|
  mF (sn_i2l (pc := 61) X (by decide +kernel)) <|
  mF (sn_lret (pc := 62) X hr hk (by decide +kernel)) <|
  mF0
theorem me_X11_undo (l : Launch) (B : mBs) : mMet l B yX11_undo cX11_undo 2 (some .long) 0 0 0 C_X11_undo := mMet_of (own := RX11) (by decide) rfl (fun p e s m args below meth c Q X hr hk hn => sd_X11_undo l B p e s m args below meth c Q X hr hk hn)
/-! PuppetStageModel.sin(I)I: 7 instructions, depth 0, makes 0 cells of 0 slots -/
def tb_X11_sin : mTb := [(0, aLA 0 1), (1, aGR 11 4 4), (4, aLI 1 5), (5, aPI 63 7), (7, aB (fun x y => x &&& y) 8), (8, aIA 9), (9, aRI)]
theorem mt_X11_sin : mMT tb_X11_sin :=
  mF (mn_LA _ _) <|
  mF (mn_GR _ _ _) <|
  mF (mn_LI _ _) <|
  mF (mn_PI _ _) <|
  mF (mn_B _ _) <|
  mF (mn_IA _) <|
  mF (mn_RI) <|
  mF0
def C_X11_sin : mCo := mRun tb_X11_sin 2
theorem mc_X11_sin : mMC C_X11_sin := mRun_mn mt_X11_sin 2
theorem yi_X11_sin : mYin yX11_sin cX11_sin 2 (some .int) 1 := ⟨wd_60, wd_1095, by decide +kernel, by decide⟩
set_option maxRecDepth 100000 in
set_option maxHeartbeats 4000000 in
theorem sd_X11_sin (l : Launch) (B : mBs) (p : Program) (e : Env) (s : State) (m : MethodId) (args : Array Value) (below : List Frame) (meth : Method) (c : Code) (Q : mQo) (X : mCx l B RX11 cX11_sin 2 p s m args c) (hr : meth.sig.returnType = (some .int)) (hk : meth.locks = false) (hn : meth.name = "sin") : ∀ q ∈ tb_X11_sin, mSnd l B 2 p e (mRm 0 0 0) s m args below meth c (MQ below (mPo B Q) args s 0 0 (mA B)) (fun r h' => (h'.1.2.1 ≤ 0 ∧ h'.1.2.2 ≤ 0) ∧ Q r h') q.2 q.1 :=
  mF (sn_aload_n (pc := 0) (j := 0) X (by decide +kernel) rfl) <|
  mF (sn_getR (pc := 1) X fd_X11_16 (by decide +kernel)) <|
  mF (sn_iload_n (pc := 4) (j := 1) X (by decide +kernel) rfl) <|
  mF (sn_bipush (pc := 5) (n := 63) X (by decide +kernel) (by decide)) <|
  mF (sn_iand (pc := 7) X (by decide +kernel)) <|
  mF (sn_iaload (pc := 8) X (by decide +kernel)) <|
  mF (sn_iret (pc := 9) X hr hk (by decide +kernel)) <|
  mF0
theorem me_X11_sin (l : Launch) (B : mBs) : mMet l B yX11_sin cX11_sin 2 (some .int) 0 0 0 C_X11_sin := mMet_of (own := RX11) (by decide) rfl (fun p e s m args below meth c Q X hr hk hn => sd_X11_sin l B p e s m args below meth c Q X hr hk hn)
/-! PuppetStageModel.cos(I)I: 9 instructions, depth 0, makes 0 cells of 0 slots -/
def tb_X11_cos : mTb := [(0, aLA 0 1), (1, aGR 11 4 4), (4, aLI 1 5), (5, aPI 16 7), (7, aB (fun x y => x + y) 8), (8, aPI 63 10), (10, aB (fun x y => x &&& y) 11), (11, aIA 12), (12, aRI)]
theorem mt_X11_cos : mMT tb_X11_cos :=
  mF (mn_LA _ _) <|
  mF (mn_GR _ _ _) <|
  mF (mn_LI _ _) <|
  mF (mn_PI _ _) <|
  mF (mn_B _ _) <|
  mF (mn_PI _ _) <|
  mF (mn_B _ _) <|
  mF (mn_IA _) <|
  mF (mn_RI) <|
  mF0
def C_X11_cos : mCo := mRun tb_X11_cos 2
theorem mc_X11_cos : mMC C_X11_cos := mRun_mn mt_X11_cos 2
theorem yi_X11_cos : mYin yX11_cos cX11_cos 2 (some .int) 1 := ⟨wd_60, wd_1103, by decide +kernel, by decide⟩
set_option maxRecDepth 100000 in
set_option maxHeartbeats 4000000 in
theorem sd_X11_cos (l : Launch) (B : mBs) (p : Program) (e : Env) (s : State) (m : MethodId) (args : Array Value) (below : List Frame) (meth : Method) (c : Code) (Q : mQo) (X : mCx l B RX11 cX11_cos 2 p s m args c) (hr : meth.sig.returnType = (some .int)) (hk : meth.locks = false) (hn : meth.name = "cos") : ∀ q ∈ tb_X11_cos, mSnd l B 2 p e (mRm 0 0 0) s m args below meth c (MQ below (mPo B Q) args s 0 0 (mA B)) (fun r h' => (h'.1.2.1 ≤ 0 ∧ h'.1.2.2 ≤ 0) ∧ Q r h') q.2 q.1 :=
  mF (sn_aload_n (pc := 0) (j := 0) X (by decide +kernel) rfl) <|
  mF (sn_getR (pc := 1) X fd_X11_16 (by decide +kernel)) <|
  mF (sn_iload_n (pc := 4) (j := 1) X (by decide +kernel) rfl) <|
  mF (sn_bipush (pc := 5) (n := 16) X (by decide +kernel) (by decide)) <|
  mF (sn_iadd (pc := 7) X (by decide +kernel)) <|
  mF (sn_bipush (pc := 8) (n := 63) X (by decide +kernel) (by decide)) <|
  mF (sn_iand (pc := 10) X (by decide +kernel)) <|
  mF (sn_iaload (pc := 11) X (by decide +kernel)) <|
  mF (sn_iret (pc := 12) X hr hk (by decide +kernel)) <|
  mF0
theorem me_X11_cos (l : Launch) (B : mBs) : mMet l B yX11_cos cX11_cos 2 (some .int) 0 0 0 C_X11_cos := mMet_of (own := RX11) (by decide) rfl (fun p e s m args below meth c Q X hr hk hn => sd_X11_cos l B p e s m args below meth c Q X hr hk hn)
/-! PuppetStageModel.spotX(III)J: 16 instructions, depth 1, makes 0 cells of 0 slots -/
def tb_X11_spotX : mTb := [(0, aLA 0 1), (1, aGR 11 5 4), (4, aLI 2 5), (5, aJA 6), (6, aLI 3 7), (7, aI2L 8), (8, aLA 0 9), (9, aLA 0 10), (10, aGR 11 9 13), (13, aLI 2 14), (14, aIA 15), (15, aCV 11 1 C_X11_sin 18), (18, aI2L 19), (19, aBL (fun x y => x * y) 20), (20, aBL (fun x y => x + y) 21), (21, aRL)]
theorem mt_X11_spotX : mMT tb_X11_spotX :=
  mF (mn_LA _ _) <|
  mF (mn_GR _ _ _) <|
  mF (mn_LI _ _) <|
  mF (mn_JA _) <|
  mF (mn_LI _ _) <|
  mF (mn_I2L _) <|
  mF (mn_LA _ _) <|
  mF (mn_LA _ _) <|
  mF (mn_GR _ _ _) <|
  mF (mn_LI _ _) <|
  mF (mn_IA _) <|
  mF (mn_CV _ _ mc_X11_sin _) <|
  mF (mn_I2L _) <|
  mF (mn_BL _ _) <|
  mF (mn_BL _ _) <|
  mF (mn_RL) <|
  mF0
def C_X11_spotX : mCo := mRun tb_X11_spotX 4
theorem mc_X11_spotX : mMC C_X11_spotX := mRun_mn mt_X11_spotX 4
theorem yi_X11_spotX : mYin yX11_spotX cX11_spotX 4 (some .long) 3 := ⟨wd_60, wd_1091, by decide +kernel, by decide⟩
set_option maxRecDepth 100000 in
set_option maxHeartbeats 4000000 in
theorem sd_X11_spotX (l : Launch) (B : mBs) (p : Program) (e : Env) (s : State) (m : MethodId) (args : Array Value) (below : List Frame) (meth : Method) (c : Code) (Q : mQo) (X : mCx l B RX11 cX11_spotX 4 p s m args c) (hr : meth.sig.returnType = (some .long)) (hk : meth.locks = false) (hn : meth.name = "spotX") : ∀ q ∈ tb_X11_spotX, mSnd l B 4 p e (mRm 1 0 0) s m args below meth c (MQ below (mPo B Q) args s 0 0 (mA B)) (fun r h' => (h'.1.2.1 ≤ 0 ∧ h'.1.2.2 ≤ 0) ∧ Q r h') q.2 q.1 :=
  mF (sn_aload_n (pc := 0) (j := 0) X (by decide +kernel) rfl) <|
  mF (sn_getR (pc := 1) X fd_X11_19 (by decide +kernel)) <|
  mF (sn_iload_n (pc := 4) (j := 2) X (by decide +kernel) rfl) <|
  mF (sn_laload (pc := 5) X (by decide +kernel)) <|
  mF (sn_iload_n (pc := 6) (j := 3) X (by decide +kernel) rfl) <|
  mF (sn_i2l (pc := 7) X (by decide +kernel)) <|
  mF (sn_aload_n (pc := 8) (j := 0) X (by decide +kernel) rfl) <|
  mF (sn_aload_n (pc := 9) (j := 0) X (by decide +kernel) rfl) <|
  mF (sn_getR (pc := 10) X fd_X11_32 (by decide +kernel)) <|
  mF (sn_iload_n (pc := 13) (j := 2) X (by decide +kernel) rfl) <|
  mF (sn_iaload (pc := 14) X (by decide +kernel)) <|
  mF (sn_callV (pc := 15) X mc_X11_sin (me_X11_sin l B) yi_X11_sin wd_1092 wd_1094 wd_24 (T := TX11) (N := 22) rfl (by decide) (by decide +kernel)) <|
  mF (sn_i2l (pc := 18) X (by decide +kernel)) <|
  mF (sn_lmul (pc := 19) X (by decide +kernel)) <|
  mF (sn_ladd (pc := 20) X (by decide +kernel)) <|
  mF (sn_lret (pc := 21) X hr hk (by decide +kernel)) <|
  mF0
theorem me_X11_spotX (l : Launch) (B : mBs) : mMet l B yX11_spotX cX11_spotX 4 (some .long) 1 0 0 C_X11_spotX := mMet_of (own := RX11) (by decide) rfl (fun p e s m args below meth c Q X hr hk hn => sd_X11_spotX l B p e s m args below meth c Q X hr hk hn)
/-! PuppetStageModel.spotY(III)J: 16 instructions, depth 1, makes 0 cells of 0 slots -/
def tb_X11_spotY : mTb := [(0, aLA 0 1), (1, aGR 11 6 4), (4, aLI 2 5), (5, aJA 6), (6, aLI 3 7), (7, aI2L 8), (8, aLA 0 9), (9, aLA 0 10), (10, aGR 11 9 13), (13, aLI 2 14), (14, aIA 15), (15, aCV 11 1 C_X11_cos 18), (18, aI2L 19), (19, aBL (fun x y => x * y) 20), (20, aBL (fun x y => x - y) 21), (21, aRL)]
theorem mt_X11_spotY : mMT tb_X11_spotY :=
  mF (mn_LA _ _) <|
  mF (mn_GR _ _ _) <|
  mF (mn_LI _ _) <|
  mF (mn_JA _) <|
  mF (mn_LI _ _) <|
  mF (mn_I2L _) <|
  mF (mn_LA _ _) <|
  mF (mn_LA _ _) <|
  mF (mn_GR _ _ _) <|
  mF (mn_LI _ _) <|
  mF (mn_IA _) <|
  mF (mn_CV _ _ mc_X11_cos _) <|
  mF (mn_I2L _) <|
  mF (mn_BL _ _) <|
  mF (mn_BL _ _) <|
  mF (mn_RL) <|
  mF0
def C_X11_spotY : mCo := mRun tb_X11_spotY 4
theorem mc_X11_spotY : mMC C_X11_spotY := mRun_mn mt_X11_spotY 4
theorem yi_X11_spotY : mYin yX11_spotY cX11_spotY 4 (some .long) 3 := ⟨wd_60, wd_1099, by decide +kernel, by decide⟩
set_option maxRecDepth 100000 in
set_option maxHeartbeats 4000000 in
theorem sd_X11_spotY (l : Launch) (B : mBs) (p : Program) (e : Env) (s : State) (m : MethodId) (args : Array Value) (below : List Frame) (meth : Method) (c : Code) (Q : mQo) (X : mCx l B RX11 cX11_spotY 4 p s m args c) (hr : meth.sig.returnType = (some .long)) (hk : meth.locks = false) (hn : meth.name = "spotY") : ∀ q ∈ tb_X11_spotY, mSnd l B 4 p e (mRm 1 0 0) s m args below meth c (MQ below (mPo B Q) args s 0 0 (mA B)) (fun r h' => (h'.1.2.1 ≤ 0 ∧ h'.1.2.2 ≤ 0) ∧ Q r h') q.2 q.1 :=
  mF (sn_aload_n (pc := 0) (j := 0) X (by decide +kernel) rfl) <|
  mF (sn_getR (pc := 1) X fd_X11_23 (by decide +kernel)) <|
  mF (sn_iload_n (pc := 4) (j := 2) X (by decide +kernel) rfl) <|
  mF (sn_laload (pc := 5) X (by decide +kernel)) <|
  mF (sn_iload_n (pc := 6) (j := 3) X (by decide +kernel) rfl) <|
  mF (sn_i2l (pc := 7) X (by decide +kernel)) <|
  mF (sn_aload_n (pc := 8) (j := 0) X (by decide +kernel) rfl) <|
  mF (sn_aload_n (pc := 9) (j := 0) X (by decide +kernel) rfl) <|
  mF (sn_getR (pc := 10) X fd_X11_32 (by decide +kernel)) <|
  mF (sn_iload_n (pc := 13) (j := 2) X (by decide +kernel) rfl) <|
  mF (sn_iaload (pc := 14) X (by decide +kernel)) <|
  mF (sn_callV (pc := 15) X mc_X11_cos (me_X11_cos l B) yi_X11_cos wd_1100 wd_1102 wd_26 (T := TX11) (N := 22) rfl (by decide) (by decide +kernel)) <|
  mF (sn_i2l (pc := 18) X (by decide +kernel)) <|
  mF (sn_lmul (pc := 19) X (by decide +kernel)) <|
  mF (sn_lsub (pc := 20) X (by decide +kernel)) <|
  mF (sn_lret (pc := 21) X hr hk (by decide +kernel)) <|
  mF0
theorem me_X11_spotY (l : Launch) (B : mBs) : mMet l B yX11_spotY cX11_spotY 4 (some .long) 1 0 0 C_X11_spotY := mMet_of (own := RX11) (by decide) rfl (fun p e s m args below meth c Q X hr hk hn => sd_X11_spotY l B p e s m args below meth c Q X hr hk hn)
/-! PuppetStageModel.lay(I)V: 103 instructions, depth 2, makes 0 cells of 0 slots -/
def tb_X11_lay_c0 : mTb := [(0, aPI 0 1), (1, aSI 2 2), (2, aLI 2 3), (3, aLA 0 4), (4, aLI 1 5), (5, aPI 0 6), (6, aCV 11 2 C_X11_get 9), (9, aIc (fun x y => y ≤ x) 163 12), (12, aLA 0 13), (13, aLI 1 14), (14, aPI 13 16), (16, aLI 2 17), (17, aB (fun x y => x + y) 18), (18, aCV 11 2 C_X11_get 21), (21, aSI 3 22), (22, aLA 0 23), (23, aGR 11 5 26), (26, aLI 2 27), (27, aLI 3 28), (28, aIf (fun x => 0 ≤ x) 46 31), (31, aPL 1024 34), (34, aLA 0 35), (35, aLI 1 36), (36, aPI 25 38), (38, aCV 11 2 C_X11_get 41), (41, aI2L 42), (42, aBL (fun x y => x * y) 43), (43, aGo 52), (46, aLA 0 47), (47, aGR 11 7 50), (50, aLI 3 51), (51, aJA 52), (52, aJS 53), (53, aLA 0 54), (54, aGR 11 6 57), (57, aLI 2 58), (58, aLI 3 59), (59, aIf (fun x => 0 ≤ x) 77 62), (62, aPL 1024 65), (65, aLA 0 66), (66, aLI 1 67), (67, aPI 26 69), (69, aCV 11 2 C_X11_get 72), (72, aI2L 73), (73, aBL (fun x y => x * y) 74), (74, aGo 83), (77, aLA 0 78), (78, aGR 11 8 81), (81, aLI 3 82), (82, aJA 83), (83, aJS 84), (84, aLA 0 85), (85, aGR 11 9 88), (88, aLI 2 89), (89, aLI 3 90), (90, aIf (fun x => 0 ≤ x) 97 93), (93, aPI 0 94), (94, aGo 103), (97, aLA 0 98), (98, aGR 11 9 101), (101, aLI 3 102), (102, aIA 103), (103, aLA 0 104), (104, aLI 1 105), (105, aPI 19 107), (107, aLI 2 108), (108, aB (fun x y => x + y) 109), (109, aCV 11 2 C_X11_get 112), (112, aB (fun x y => x + y) 113), (113, aPI 63 115)]
theorem mt_X11_lay_c0 : mMT tb_X11_lay_c0 :=
  mF (mn_PI _ _) <|
  mF (mn_SI _ _) <|
  mF (mn_LI _ _) <|
  mF (mn_LA _ _) <|
  mF (mn_LI _ _) <|
  mF (mn_PI _ _) <|
  mF (mn_CV _ _ mc_X11_get _) <|
  mF (mn_Ic _ _ _) <|
  mF (mn_LA _ _) <|
  mF (mn_LI _ _) <|
  mF (mn_PI _ _) <|
  mF (mn_LI _ _) <|
  mF (mn_B _ _) <|
  mF (mn_CV _ _ mc_X11_get _) <|
  mF (mn_SI _ _) <|
  mF (mn_LA _ _) <|
  mF (mn_GR _ _ _) <|
  mF (mn_LI _ _) <|
  mF (mn_LI _ _) <|
  mF (mn_If _ _ _) <|
  mF (mn_PL _ _) <|
  mF (mn_LA _ _) <|
  mF (mn_LI _ _) <|
  mF (mn_PI _ _) <|
  mF (mn_CV _ _ mc_X11_get _) <|
  mF (mn_I2L _) <|
  mF (mn_BL _ _) <|
  mF (mn_Go _) <|
  mF (mn_LA _ _) <|
  mF (mn_GR _ _ _) <|
  mF (mn_LI _ _) <|
  mF (mn_JA _) <|
  mF (mn_JS _) <|
  mF (mn_LA _ _) <|
  mF (mn_GR _ _ _) <|
  mF (mn_LI _ _) <|
  mF (mn_LI _ _) <|
  mF (mn_If _ _ _) <|
  mF (mn_PL _ _) <|
  mF (mn_LA _ _) <|
  mF (mn_LI _ _) <|
  mF (mn_PI _ _) <|
  mF (mn_CV _ _ mc_X11_get _) <|
  mF (mn_I2L _) <|
  mF (mn_BL _ _) <|
  mF (mn_Go _) <|
  mF (mn_LA _ _) <|
  mF (mn_GR _ _ _) <|
  mF (mn_LI _ _) <|
  mF (mn_JA _) <|
  mF (mn_JS _) <|
  mF (mn_LA _ _) <|
  mF (mn_GR _ _ _) <|
  mF (mn_LI _ _) <|
  mF (mn_LI _ _) <|
  mF (mn_If _ _ _) <|
  mF (mn_PI _ _) <|
  mF (mn_Go _) <|
  mF (mn_LA _ _) <|
  mF (mn_GR _ _ _) <|
  mF (mn_LI _ _) <|
  mF (mn_IA _) <|
  mF (mn_LA _ _) <|
  mF (mn_LI _ _) <|
  mF (mn_PI _ _) <|
  mF (mn_LI _ _) <|
  mF (mn_B _ _) <|
  mF (mn_CV _ _ mc_X11_get _) <|
  mF (mn_B _ _) <|
  mF (mn_PI _ _) <|
  mF0
def tb_X11_lay_c1 : mTb := [(115, aB (fun x y => x &&& y) 116), (116, aIS 117), (117, aLA 0 118), (118, aGR 11 7 121), (121, aLI 2 122), (122, aLA 0 123), (123, aLI 1 124), (124, aLI 2 125), (125, aLA 0 126), (126, aLI 1 127), (127, aPI 1 128), (128, aLI 2 129), (129, aB (fun x y => x + y) 130), (130, aCV 11 2 C_X11_get 133), (133, aCV 11 3 C_X11_spotX 136), (136, aJS 137), (137, aLA 0 138), (138, aGR 11 8 141), (141, aLI 2 142), (142, aLA 0 143), (143, aLI 1 144), (144, aLI 2 145), (145, aLA 0 146), (146, aLI 1 147), (147, aPI 1 148), (148, aLI 2 149), (149, aB (fun x y => x + y) 150), (150, aCV 11 2 C_X11_get 153), (153, aCV 11 3 C_X11_spotY 156), (156, aJS 157), (157, aInc 2 1 160), (160, aGo 2), (163, aRV)]
theorem mt_X11_lay_c1 : mMT tb_X11_lay_c1 :=
  mF (mn_B _ _) <|
  mF (mn_IS _) <|
  mF (mn_LA _ _) <|
  mF (mn_GR _ _ _) <|
  mF (mn_LI _ _) <|
  mF (mn_LA _ _) <|
  mF (mn_LI _ _) <|
  mF (mn_LI _ _) <|
  mF (mn_LA _ _) <|
  mF (mn_LI _ _) <|
  mF (mn_PI _ _) <|
  mF (mn_LI _ _) <|
  mF (mn_B _ _) <|
  mF (mn_CV _ _ mc_X11_get _) <|
  mF (mn_CV _ _ mc_X11_spotX _) <|
  mF (mn_JS _) <|
  mF (mn_LA _ _) <|
  mF (mn_GR _ _ _) <|
  mF (mn_LI _ _) <|
  mF (mn_LA _ _) <|
  mF (mn_LI _ _) <|
  mF (mn_LI _ _) <|
  mF (mn_LA _ _) <|
  mF (mn_LI _ _) <|
  mF (mn_PI _ _) <|
  mF (mn_LI _ _) <|
  mF (mn_B _ _) <|
  mF (mn_CV _ _ mc_X11_get _) <|
  mF (mn_CV _ _ mc_X11_spotY _) <|
  mF (mn_JS _) <|
  mF (mn_Inc _ _ _) <|
  mF (mn_Go _) <|
  mF (mn_RV) <|
  mF0
def tb_X11_lay : mTb := tb_X11_lay_c0 ++ (tb_X11_lay_c1)
theorem mt_X11_lay : mMT tb_X11_lay := mFA mt_X11_lay_c0 mt_X11_lay_c1
def C_X11_lay : mCo := mRun tb_X11_lay 4
theorem mc_X11_lay : mMC C_X11_lay := mRun_mn mt_X11_lay 4
theorem yi_X11_lay : mYin yX11_lay cX11_lay 4 none 1 := ⟨wd_60, wd_1086, by decide +kernel, by decide⟩
set_option maxRecDepth 100000 in
set_option maxHeartbeats 4000000 in
theorem sd_X11_lay_c0 (l : Launch) (B : mBs) (p : Program) (e : Env) (s : State) (m : MethodId) (args : Array Value) (below : List Frame) (meth : Method) (c : Code) (Q : mQo) (X : mCx l B RX11 cX11_lay 4 p s m args c) (hr : meth.sig.returnType = none) (hk : meth.locks = false) (hn : meth.name = "lay") : ∀ q ∈ tb_X11_lay_c0, mSnd l B 4 p e (mRm 2 0 0) s m args below meth c (MQ below (mPo B Q) args s 0 0 (mA B)) (fun r h' => (h'.1.2.1 ≤ 0 ∧ h'.1.2.2 ≤ 0) ∧ Q r h') q.2 q.1 :=
  mF (sn_iconst (pc := 0) (n := 0) X (by decide +kernel) (by decide)) <|
  mF (sn_istore_n (pc := 1) (j := 2) X (by decide +kernel) rfl (by decide)) <|
  mF (sn_iload_n (pc := 2) (j := 2) X (by decide +kernel) rfl) <|
  mF (sn_aload_n (pc := 3) (j := 0) X (by decide +kernel) rfl) <|
  mF (sn_iload_n (pc := 4) (j := 1) X (by decide +kernel) rfl) <|
  mF (sn_iconst (pc := 5) (n := 0) X (by decide +kernel) (by decide)) <|
  mF (sn_callV (pc := 6) X mc_X11_get (me_X11_get l B) yi_X11_get wd_995 wd_997 wd_12 (T := TX11) (N := 22) rfl (by decide) (by decide +kernel)) <|
  mF (sn_icmp_ge (pc := 9) (off := 154) X (by decide +kernel) (by decide)) <|
  mF (sn_aload_n (pc := 12) (j := 0) X (by decide +kernel) rfl) <|
  mF (sn_iload_n (pc := 13) (j := 1) X (by decide +kernel) rfl) <|
  mF (sn_bipush (pc := 14) (n := 13) X (by decide +kernel) (by decide)) <|
  mF (sn_iload_n (pc := 16) (j := 2) X (by decide +kernel) rfl) <|
  mF (sn_iadd (pc := 17) X (by decide +kernel)) <|
  mF (sn_callV (pc := 18) X mc_X11_get (me_X11_get l B) yi_X11_get wd_995 wd_997 wd_12 (T := TX11) (N := 22) rfl (by decide) (by decide +kernel)) <|
  mF (sn_istore_n (pc := 21) (j := 3) X (by decide +kernel) rfl (by decide)) <|
  mF (sn_aload_n (pc := 22) (j := 0) X (by decide +kernel) rfl) <|
  mF (sn_getR (pc := 23) X fd_X11_19 (by decide +kernel)) <|
  mF (sn_iload_n (pc := 26) (j := 2) X (by decide +kernel) rfl) <|
  mF (sn_iload_n (pc := 27) (j := 3) X (by decide +kernel) rfl) <|
  mF (sn_if_ge (pc := 28) (off := 18) X (by decide +kernel) (by decide)) <|
  mF (sn_ldc2 (pc := 31) X (by decide +kernel) wd_1087) <|
  mF (sn_aload_n (pc := 34) (j := 0) X (by decide +kernel) rfl) <|
  mF (sn_iload_n (pc := 35) (j := 1) X (by decide +kernel) rfl) <|
  mF (sn_bipush (pc := 36) (n := 25) X (by decide +kernel) (by decide)) <|
  mF (sn_callV (pc := 38) X mc_X11_get (me_X11_get l B) yi_X11_get wd_995 wd_997 wd_12 (T := TX11) (N := 22) rfl (by decide) (by decide +kernel)) <|
  mF (sn_i2l (pc := 41) X (by decide +kernel)) <|
  mF (sn_lmul (pc := 42) X (by decide +kernel)) <|
  mF (sn_goto (pc := 43) (off := 9) X (by decide +kernel) (by decide)) <|
  mF (sn_aload_n (pc := 46) (j := 0) X (by decide +kernel) rfl) <|
  mF (sn_getR (pc := 47) X fd_X11_26 (by decide +kernel)) <|
  mF (sn_iload_n (pc := 50) (j := 3) X (by decide +kernel) rfl) <|
  mF (sn_laload (pc := 51) X (by decide +kernel)) <|
  mF (sn_lastore (pc := 52) X (by decide +kernel)) <|
  mF (sn_aload_n (pc := 53) (j := 0) X (by decide +kernel) rfl) <|
  mF (sn_getR (pc := 54) X fd_X11_23 (by decide +kernel)) <|
  mF (sn_iload_n (pc := 57) (j := 2) X (by decide +kernel) rfl) <|
  mF (sn_iload_n (pc := 58) (j := 3) X (by decide +kernel) rfl) <|
  mF (sn_if_ge (pc := 59) (off := 18) X (by decide +kernel) (by decide)) <|
  mF (sn_ldc2 (pc := 62) X (by decide +kernel) wd_1087) <|
  mF (sn_aload_n (pc := 65) (j := 0) X (by decide +kernel) rfl) <|
  mF (sn_iload_n (pc := 66) (j := 1) X (by decide +kernel) rfl) <|
  mF (sn_bipush (pc := 67) (n := 26) X (by decide +kernel) (by decide)) <|
  mF (sn_callV (pc := 69) X mc_X11_get (me_X11_get l B) yi_X11_get wd_995 wd_997 wd_12 (T := TX11) (N := 22) rfl (by decide) (by decide +kernel)) <|
  mF (sn_i2l (pc := 72) X (by decide +kernel)) <|
  mF (sn_lmul (pc := 73) X (by decide +kernel)) <|
  mF (sn_goto (pc := 74) (off := 9) X (by decide +kernel) (by decide)) <|
  mF (sn_aload_n (pc := 77) (j := 0) X (by decide +kernel) rfl) <|
  mF (sn_getR (pc := 78) X fd_X11_29 (by decide +kernel)) <|
  mF (sn_iload_n (pc := 81) (j := 3) X (by decide +kernel) rfl) <|
  mF (sn_laload (pc := 82) X (by decide +kernel)) <|
  mF (sn_lastore (pc := 83) X (by decide +kernel)) <|
  mF (sn_aload_n (pc := 84) (j := 0) X (by decide +kernel) rfl) <|
  mF (sn_getR (pc := 85) X fd_X11_32 (by decide +kernel)) <|
  mF (sn_iload_n (pc := 88) (j := 2) X (by decide +kernel) rfl) <|
  mF (sn_iload_n (pc := 89) (j := 3) X (by decide +kernel) rfl) <|
  mF (sn_if_ge (pc := 90) (off := 7) X (by decide +kernel) (by decide)) <|
  mF (sn_iconst (pc := 93) (n := 0) X (by decide +kernel) (by decide)) <|
  mF (sn_goto (pc := 94) (off := 9) X (by decide +kernel) (by decide)) <|
  mF (sn_aload_n (pc := 97) (j := 0) X (by decide +kernel) rfl) <|
  mF (sn_getR (pc := 98) X fd_X11_32 (by decide +kernel)) <|
  mF (sn_iload_n (pc := 101) (j := 3) X (by decide +kernel) rfl) <|
  mF (sn_iaload (pc := 102) X (by decide +kernel)) <|
  mF (sn_aload_n (pc := 103) (j := 0) X (by decide +kernel) rfl) <|
  mF (sn_iload_n (pc := 104) (j := 1) X (by decide +kernel) rfl) <|
  mF (sn_bipush (pc := 105) (n := 19) X (by decide +kernel) (by decide)) <|
  mF (sn_iload_n (pc := 107) (j := 2) X (by decide +kernel) rfl) <|
  mF (sn_iadd (pc := 108) X (by decide +kernel)) <|
  mF (sn_callV (pc := 109) X mc_X11_get (me_X11_get l B) yi_X11_get wd_995 wd_997 wd_12 (T := TX11) (N := 22) rfl (by decide) (by decide +kernel)) <|
  mF (sn_iadd (pc := 112) X (by decide +kernel)) <|
  mF (sn_bipush (pc := 113) (n := 63) X (by decide +kernel) (by decide)) <|
  mF0
set_option maxRecDepth 100000 in
set_option maxHeartbeats 4000000 in
theorem sd_X11_lay_c1 (l : Launch) (B : mBs) (p : Program) (e : Env) (s : State) (m : MethodId) (args : Array Value) (below : List Frame) (meth : Method) (c : Code) (Q : mQo) (X : mCx l B RX11 cX11_lay 4 p s m args c) (hr : meth.sig.returnType = none) (hk : meth.locks = false) (hn : meth.name = "lay") : ∀ q ∈ tb_X11_lay_c1, mSnd l B 4 p e (mRm 2 0 0) s m args below meth c (MQ below (mPo B Q) args s 0 0 (mA B)) (fun r h' => (h'.1.2.1 ≤ 0 ∧ h'.1.2.2 ≤ 0) ∧ Q r h') q.2 q.1 :=
  mF (sn_iand (pc := 115) X (by decide +kernel)) <|
  mF (sn_iastore (pc := 116) X (by decide +kernel)) <|
  mF (sn_aload_n (pc := 117) (j := 0) X (by decide +kernel) rfl) <|
  mF (sn_getR (pc := 118) X fd_X11_26 (by decide +kernel)) <|
  mF (sn_iload_n (pc := 121) (j := 2) X (by decide +kernel) rfl) <|
  mF (sn_aload_n (pc := 122) (j := 0) X (by decide +kernel) rfl) <|
  mF (sn_iload_n (pc := 123) (j := 1) X (by decide +kernel) rfl) <|
  mF (sn_iload_n (pc := 124) (j := 2) X (by decide +kernel) rfl) <|
  mF (sn_aload_n (pc := 125) (j := 0) X (by decide +kernel) rfl) <|
  mF (sn_iload_n (pc := 126) (j := 1) X (by decide +kernel) rfl) <|
  mF (sn_iconst (pc := 127) (n := 1) X (by decide +kernel) (by decide)) <|
  mF (sn_iload_n (pc := 128) (j := 2) X (by decide +kernel) rfl) <|
  mF (sn_iadd (pc := 129) X (by decide +kernel)) <|
  mF (sn_callV (pc := 130) X mc_X11_get (me_X11_get l B) yi_X11_get wd_995 wd_997 wd_12 (T := TX11) (N := 22) rfl (by decide) (by decide +kernel)) <|
  mF (sn_callV (pc := 133) X mc_X11_spotX (me_X11_spotX l B) yi_X11_spotX wd_1088 wd_1090 wd_23 (T := TX11) (N := 22) rfl (by decide) (by decide +kernel)) <|
  mF (sn_lastore (pc := 136) X (by decide +kernel)) <|
  mF (sn_aload_n (pc := 137) (j := 0) X (by decide +kernel) rfl) <|
  mF (sn_getR (pc := 138) X fd_X11_29 (by decide +kernel)) <|
  mF (sn_iload_n (pc := 141) (j := 2) X (by decide +kernel) rfl) <|
  mF (sn_aload_n (pc := 142) (j := 0) X (by decide +kernel) rfl) <|
  mF (sn_iload_n (pc := 143) (j := 1) X (by decide +kernel) rfl) <|
  mF (sn_iload_n (pc := 144) (j := 2) X (by decide +kernel) rfl) <|
  mF (sn_aload_n (pc := 145) (j := 0) X (by decide +kernel) rfl) <|
  mF (sn_iload_n (pc := 146) (j := 1) X (by decide +kernel) rfl) <|
  mF (sn_iconst (pc := 147) (n := 1) X (by decide +kernel) (by decide)) <|
  mF (sn_iload_n (pc := 148) (j := 2) X (by decide +kernel) rfl) <|
  mF (sn_iadd (pc := 149) X (by decide +kernel)) <|
  mF (sn_callV (pc := 150) X mc_X11_get (me_X11_get l B) yi_X11_get wd_995 wd_997 wd_12 (T := TX11) (N := 22) rfl (by decide) (by decide +kernel)) <|
  mF (sn_callV (pc := 153) X mc_X11_spotY (me_X11_spotY l B) yi_X11_spotY wd_1096 wd_1098 wd_25 (T := TX11) (N := 22) rfl (by decide) (by decide +kernel)) <|
  mF (sn_lastore (pc := 156) X (by decide +kernel)) <|
  mF (sn_iinc (pc := 157) (n := 1) X (by decide +kernel) (by decide) (by decide)) <|
  mF (sn_goto (pc := 160) (off := (-158)) X (by decide +kernel) (by decide)) <|
  mF (sn_vret (pc := 163) X hr hk (by decide +kernel)) <|
  mF0
theorem sd_X11_lay (l : Launch) (B : mBs) (p : Program) (e : Env) (s : State) (m : MethodId) (args : Array Value) (below : List Frame) (meth : Method) (c : Code) (Q : mQo) (X : mCx l B RX11 cX11_lay 4 p s m args c) (hr : meth.sig.returnType = none) (hk : meth.locks = false) (hn : meth.name = "lay") : ∀ q ∈ tb_X11_lay, mSnd l B 4 p e (mRm 2 0 0) s m args below meth c (MQ below (mPo B Q) args s 0 0 (mA B)) (fun r h' => (h'.1.2.1 ≤ 0 ∧ h'.1.2.2 ≤ 0) ∧ Q r h') q.2 q.1 := mFA (sd_X11_lay_c0 l B p e s m args below meth c Q X hr hk hn) (sd_X11_lay_c1 l B p e s m args below meth c Q X hr hk hn)
theorem me_X11_lay (l : Launch) (B : mBs) : mMet l B yX11_lay cX11_lay 4 none 2 0 0 C_X11_lay := mMet_of (own := RX11) (by decide) rfl (fun p e s m args below meth c Q X hr hk hn => sd_X11_lay l B p e s m args below meth c Q X hr hk hn)
/-! PuppetStageModel.barX(II)J: 49 instructions, depth 1, makes 0 cells of 0 slots -/
def tb_X11_barX : mTb := [(0, aLA 0 1), (1, aLI 1 2), (2, aPI 42 4), (4, aCV 11 2 C_X11_get 7), (7, aSI 3 8), (8, aPL 1024 11), (11, aLA 0 12), (12, aLI 1 13), (13, aPI 40 15), (15, aCV 11 2 C_X11_get 18), (18, aI2L 19), (19, aBL (fun x y => x * y) 20), (20, aLA 0 21), (21, aLI 1 22), (22, aPI 43 24), (24, aPI 2 25), (25, aLI 2 26), (26, aB (fun x y => x * y) 27), (27, aB (fun x y => x + y) 28), (28, aCV 11 2 C_X11_get 31), (31, aI2L 32), (32, aLA 0 33), (33, aLI 3 34), (34, aPI 16 36), (36, aB (fun x y => x + y) 37), (37, aCV 11 1 C_X11_sin 40), (40, aI2L 41), (41, aBL (fun x y => x * y) 42), (42, aBL (fun x y => x + y) 43), (43, aLA 0 44), (44, aLI 1 45), (45, aPI 43 47), (47, aPI 2 48), (48, aLI 2 49), (49, aB (fun x y => x * y) 50), (50, aB (fun x y => x + y) 51), (51, aPI 1 52), (52, aB (fun x y => x + y) 53), (53, aCV 11 2 C_X11_get 56), (56, aI2L 57), (57, aLA 0 58), (58, aLI 3 59), (59, aPI 32 61), (61, aB (fun x y => x + y) 62), (62, aCV 11 1 C_X11_sin 65), (65, aI2L 66), (66, aBL (fun x y => x * y) 67), (67, aBL (fun x y => x + y) 68), (68, aRL)]
theorem mt_X11_barX : mMT tb_X11_barX :=
  mF (mn_LA _ _) <|
  mF (mn_LI _ _) <|
  mF (mn_PI _ _) <|
  mF (mn_CV _ _ mc_X11_get _) <|
  mF (mn_SI _ _) <|
  mF (mn_PL _ _) <|
  mF (mn_LA _ _) <|
  mF (mn_LI _ _) <|
  mF (mn_PI _ _) <|
  mF (mn_CV _ _ mc_X11_get _) <|
  mF (mn_I2L _) <|
  mF (mn_BL _ _) <|
  mF (mn_LA _ _) <|
  mF (mn_LI _ _) <|
  mF (mn_PI _ _) <|
  mF (mn_PI _ _) <|
  mF (mn_LI _ _) <|
  mF (mn_B _ _) <|
  mF (mn_B _ _) <|
  mF (mn_CV _ _ mc_X11_get _) <|
  mF (mn_I2L _) <|
  mF (mn_LA _ _) <|
  mF (mn_LI _ _) <|
  mF (mn_PI _ _) <|
  mF (mn_B _ _) <|
  mF (mn_CV _ _ mc_X11_sin _) <|
  mF (mn_I2L _) <|
  mF (mn_BL _ _) <|
  mF (mn_BL _ _) <|
  mF (mn_LA _ _) <|
  mF (mn_LI _ _) <|
  mF (mn_PI _ _) <|
  mF (mn_PI _ _) <|
  mF (mn_LI _ _) <|
  mF (mn_B _ _) <|
  mF (mn_B _ _) <|
  mF (mn_PI _ _) <|
  mF (mn_B _ _) <|
  mF (mn_CV _ _ mc_X11_get _) <|
  mF (mn_I2L _) <|
  mF (mn_LA _ _) <|
  mF (mn_LI _ _) <|
  mF (mn_PI _ _) <|
  mF (mn_B _ _) <|
  mF (mn_CV _ _ mc_X11_sin _) <|
  mF (mn_I2L _) <|
  mF (mn_BL _ _) <|
  mF (mn_BL _ _) <|
  mF (mn_RL) <|
  mF0
def C_X11_barX : mCo := mRun tb_X11_barX 4
theorem mc_X11_barX : mMC C_X11_barX := mRun_mn mt_X11_barX 4
theorem yi_X11_barX : mYin yX11_barX cX11_barX 4 (some .long) 2 := ⟨wd_60, wd_1115, by decide +kernel, by decide⟩
set_option maxRecDepth 100000 in
set_option maxHeartbeats 4000000 in
theorem sd_X11_barX (l : Launch) (B : mBs) (p : Program) (e : Env) (s : State) (m : MethodId) (args : Array Value) (below : List Frame) (meth : Method) (c : Code) (Q : mQo) (X : mCx l B RX11 cX11_barX 4 p s m args c) (hr : meth.sig.returnType = (some .long)) (hk : meth.locks = false) (hn : meth.name = "barX") : ∀ q ∈ tb_X11_barX, mSnd l B 4 p e (mRm 1 0 0) s m args below meth c (MQ below (mPo B Q) args s 0 0 (mA B)) (fun r h' => (h'.1.2.1 ≤ 0 ∧ h'.1.2.2 ≤ 0) ∧ Q r h') q.2 q.1 :=
  mF (sn_aload_n (pc := 0) (j := 0) X (by decide +kernel) rfl) <|
  mF (sn_iload_n (pc := 1) (j := 1) X (by decide +kernel) rfl) <|
  mF (sn_bipush (pc := 2) (n := 42) X (by decide +kernel) (by decide)) <|
  mF (sn_callV (pc := 4) X mc_X11_get (me_X11_get l B) yi_X11_get wd_995 wd_997 wd_12 (T := TX11) (N := 22) rfl (by decide) (by decide +kernel)) <|
  mF (sn_istore_n (pc := 7) (j := 3) X (by decide +kernel) rfl (by decide)) <|
  mF (sn_ldc2 (pc := 8) X (by decide +kernel) wd_1087) <|
  mF (sn_aload_n (pc := 11) (j := 0) X (by decide +kernel) rfl) <|
  mF (sn_iload_n (pc := 12) (j := 1) X (by decide +kernel) rfl) <|
  mF (sn_bipush (pc := 13) (n := 40) X (by decide +kernel) (by decide)) <|
  mF (sn_callV (pc := 15) X mc_X11_get (me_X11_get l B) yi_X11_get wd_995 wd_997 wd_12 (T := TX11) (N := 22) rfl (by decide) (by decide +kernel)) <|
  mF (sn_i2l (pc := 18) X (by decide +kernel)) <|
  mF (sn_lmul (pc := 19) X (by decide +kernel)) <|
  mF (sn_aload_n (pc := 20) (j := 0) X (by decide +kernel) rfl) <|
  mF (sn_iload_n (pc := 21) (j := 1) X (by decide +kernel) rfl) <|
  mF (sn_bipush (pc := 22) (n := 43) X (by decide +kernel) (by decide)) <|
  mF (sn_iconst (pc := 24) (n := 2) X (by decide +kernel) (by decide)) <|
  mF (sn_iload_n (pc := 25) (j := 2) X (by decide +kernel) rfl) <|
  mF (sn_imul (pc := 26) X (by decide +kernel)) <|
  mF (sn_iadd (pc := 27) X (by decide +kernel)) <|
  mF (sn_callV (pc := 28) X mc_X11_get (me_X11_get l B) yi_X11_get wd_995 wd_997 wd_12 (T := TX11) (N := 22) rfl (by decide) (by decide +kernel)) <|
  mF (sn_i2l (pc := 31) X (by decide +kernel)) <|
  mF (sn_aload_n (pc := 32) (j := 0) X (by decide +kernel) rfl) <|
  mF (sn_iload_n (pc := 33) (j := 3) X (by decide +kernel) rfl) <|
  mF (sn_bipush (pc := 34) (n := 16) X (by decide +kernel) (by decide)) <|
  mF (sn_iadd (pc := 36) X (by decide +kernel)) <|
  mF (sn_callV (pc := 37) X mc_X11_sin (me_X11_sin l B) yi_X11_sin wd_1092 wd_1094 wd_24 (T := TX11) (N := 22) rfl (by decide) (by decide +kernel)) <|
  mF (sn_i2l (pc := 40) X (by decide +kernel)) <|
  mF (sn_lmul (pc := 41) X (by decide +kernel)) <|
  mF (sn_ladd (pc := 42) X (by decide +kernel)) <|
  mF (sn_aload_n (pc := 43) (j := 0) X (by decide +kernel) rfl) <|
  mF (sn_iload_n (pc := 44) (j := 1) X (by decide +kernel) rfl) <|
  mF (sn_bipush (pc := 45) (n := 43) X (by decide +kernel) (by decide)) <|
  mF (sn_iconst (pc := 47) (n := 2) X (by decide +kernel) (by decide)) <|
  mF (sn_iload_n (pc := 48) (j := 2) X (by decide +kernel) rfl) <|
  mF (sn_imul (pc := 49) X (by decide +kernel)) <|
  mF (sn_iadd (pc := 50) X (by decide +kernel)) <|
  mF (sn_iconst (pc := 51) (n := 1) X (by decide +kernel) (by decide)) <|
  mF (sn_iadd (pc := 52) X (by decide +kernel)) <|
  mF (sn_callV (pc := 53) X mc_X11_get (me_X11_get l B) yi_X11_get wd_995 wd_997 wd_12 (T := TX11) (N := 22) rfl (by decide) (by decide +kernel)) <|
  mF (sn_i2l (pc := 56) X (by decide +kernel)) <|
  mF (sn_aload_n (pc := 57) (j := 0) X (by decide +kernel) rfl) <|
  mF (sn_iload_n (pc := 58) (j := 3) X (by decide +kernel) rfl) <|
  mF (sn_bipush (pc := 59) (n := 32) X (by decide +kernel) (by decide)) <|
  mF (sn_iadd (pc := 61) X (by decide +kernel)) <|
  mF (sn_callV (pc := 62) X mc_X11_sin (me_X11_sin l B) yi_X11_sin wd_1092 wd_1094 wd_24 (T := TX11) (N := 22) rfl (by decide) (by decide +kernel)) <|
  mF (sn_i2l (pc := 65) X (by decide +kernel)) <|
  mF (sn_lmul (pc := 66) X (by decide +kernel)) <|
  mF (sn_ladd (pc := 67) X (by decide +kernel)) <|
  mF (sn_lret (pc := 68) X hr hk (by decide +kernel)) <|
  mF0
theorem me_X11_barX (l : Launch) (B : mBs) : mMet l B yX11_barX cX11_barX 4 (some .long) 1 0 0 C_X11_barX := mMet_of (own := RX11) (by decide) rfl (fun p e s m args below meth c Q X hr hk hn => sd_X11_barX l B p e s m args below meth c Q X hr hk hn)
