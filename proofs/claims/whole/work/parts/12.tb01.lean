/-! PuppetStage$Gesture.turnOver()V: 18 instructions, depth 1, makes 0 cells of 0 slots -/
def tb_X2_turnOver : mTb := [(0, aLA 0 1), (1, aGR 2 0 4), (4, aLA 0 5), (5, aGI 2 4 8), (8, aCS 2 C_X10_turnSigns 11), (11, aLA 0 12), (12, aGR 2 2 15), (15, aLA 0 16), (16, aGI 2 4 19), (19, aCS 2 C_X10_turnSigns 22), (22, aLA 0 23), (23, aGR 2 3 26), (26, aPI 6 28), (28, aLA 0 29), (29, aGI 2 5 32), (32, aB (fun x y => x * y) 33), (33, aCS 2 C_X10_turnSigns 36), (36, aRV)]
theorem mt_X2_turnOver : mMT tb_X2_turnOver :=
  mF (mn_LA _ _) <|
  mF (mn_GR _ _ _) <|
  mF (mn_LA _ _) <|
  mF (mn_GI _ _ _) <|
  mF (mn_CS _ mc_X10_turnSigns _) <|
  mF (mn_LA _ _) <|
  mF (mn_GR _ _ _) <|
  mF (mn_LA _ _) <|
  mF (mn_GI _ _ _) <|
  mF (mn_CS _ mc_X10_turnSigns _) <|
  mF (mn_LA _ _) <|
  mF (mn_GR _ _ _) <|
  mF (mn_PI _ _) <|
  mF (mn_LA _ _) <|
  mF (mn_GI _ _ _) <|
  mF (mn_B _ _) <|
  mF (mn_CS _ mc_X10_turnSigns _) <|
  mF (mn_RV) <|
  mF0
def C_X2_turnOver : mCo := mRun tb_X2_turnOver 1
theorem mc_X2_turnOver : mMC C_X2_turnOver := mRun_mn mt_X2_turnOver 1
theorem yi_X2_turnOver : mYin yX2_turnOver cX2_turnOver 1 none 0 := ⟨wd_55, wd_888, by decide +kernel, by decide⟩
set_option maxRecDepth 100000 in
set_option maxHeartbeats 4000000 in
theorem sd_X2_turnOver (l : Launch) (B : mBs) (p : Program) (e : Env) (s : State) (m : MethodId) (args : Array Value) (below : List Frame) (meth : Method) (c : Code) (Q : mQo) (X : mCx l B RX2 cX2_turnOver 1 p s m args c) (hr : meth.sig.returnType = none) (hk : meth.locks = false) (hn : meth.name = "turnOver") : ∀ q ∈ tb_X2_turnOver, mSnd l B 1 p e (mRm 1 0 0) s m args below meth c (MQ below (mPo B Q) args s 0 0 (mA B)) (fun r h' => (h'.1.2.1 ≤ 0 ∧ h'.1.2.2 ≤ 0) ∧ Q r h') q.2 q.1 :=
  mF (sn_aload_n (pc := 0) (j := 0) X (by decide +kernel) rfl) <|
  mF (sn_getR (pc := 1) X fd_X2_9 (by decide +kernel)) <|
  mF (sn_aload_n (pc := 4) (j := 0) X (by decide +kernel) rfl) <|
  mF (sn_getI (pc := 5) X fd_X2_24 (by decide +kernel)) <|
  mF (sn_callSN (pc := 8) X mc_X10_turnSigns (me_X10_turnSigns l B) yi_X10_turnSigns wd_889 wd_874 (by decide) (by decide +kernel)) <|
  mF (sn_aload_n (pc := 11) (j := 0) X (by decide +kernel) rfl) <|
  mF (sn_getR (pc := 12) X fd_X2_18 (by decide +kernel)) <|
  mF (sn_aload_n (pc := 15) (j := 0) X (by decide +kernel) rfl) <|
  mF (sn_getI (pc := 16) X fd_X2_24 (by decide +kernel)) <|
  mF (sn_callSN (pc := 19) X mc_X10_turnSigns (me_X10_turnSigns l B) yi_X10_turnSigns wd_889 wd_874 (by decide) (by decide +kernel)) <|
  mF (sn_aload_n (pc := 22) (j := 0) X (by decide +kernel) rfl) <|
  mF (sn_getR (pc := 23) X fd_X2_21 (by decide +kernel)) <|
  mF (sn_bipush (pc := 26) (n := 6) X (by decide +kernel) (by decide)) <|
  mF (sn_aload_n (pc := 28) (j := 0) X (by decide +kernel) rfl) <|
  mF (sn_getI (pc := 29) X fd_X2_28 (by decide +kernel)) <|
  mF (sn_imul (pc := 32) X (by decide +kernel)) <|
  mF (sn_callSN (pc := 33) X mc_X10_turnSigns (me_X10_turnSigns l B) yi_X10_turnSigns wd_889 wd_874 (by decide) (by decide +kernel)) <|
  mF (sn_vret (pc := 36) X hr hk (by decide +kernel)) <|
  mF0
theorem me_X2_turnOver (l : Launch) (B : mBs) : mMet l B yX2_turnOver cX2_turnOver 1 none 1 0 0 C_X2_turnOver := mMet_of (own := RX2) (by decide) rfl (fun p e s m args below meth c Q X hr hk hn => sd_X2_turnOver l B p e s m args below meth c Q X hr hk hn)
/-! PuppetStage$Limbs.<init>()V: 28 instructions, depth 1, makes 4 cells of 24 slots -/
def tb_X5_init : mTb := [(0, aLA 0 1), (1, aObj 4), (4, aLA 0 5), (5, aPI 6 7), (7, aNI 0 4 24 9), (9, aWR 5 0 12), (12, aLA 0 13), (13, aPI 6 15), (15, aNI 0 4 24 17), (17, aWR 5 1 20), (20, aLA 0 21), (21, aPI 6 23), (23, aNI 0 4 24 25), (25, aWR 5 2 28), (28, aLA 0 29), (29, aPI 6 31), (31, aNI 0 4 24 33), (33, aWR 5 3 36), (36, aLA 0 37), (37, aPI 0 38), (38, aWI 5 4 41), (41, aLA 0 42), (42, aPI 0 43), (43, aWI 5 5 46), (46, aLA 0 47), (47, aPI 0 48), (48, aWI 5 6 51), (51, aRV)]
theorem mt_X5_init : mMT tb_X5_init :=
  mF (mn_LA _ _) <|
  mF (mn_Obj _) <|
  mF (mn_LA _ _) <|
  mF (mn_PI _ _) <|
  mF (mn_NI _ _ _ _) <|
  mF (mn_WR _ _ _) <|
  mF (mn_LA _ _) <|
  mF (mn_PI _ _) <|
  mF (mn_NI _ _ _ _) <|
  mF (mn_WR _ _ _) <|
  mF (mn_LA _ _) <|
  mF (mn_PI _ _) <|
  mF (mn_NI _ _ _ _) <|
  mF (mn_WR _ _ _) <|
  mF (mn_LA _ _) <|
  mF (mn_PI _ _) <|
  mF (mn_NI _ _ _ _) <|
  mF (mn_WR _ _ _) <|
  mF (mn_LA _ _) <|
  mF (mn_PI _ _) <|
  mF (mn_WI _ _ _) <|
  mF (mn_LA _ _) <|
  mF (mn_PI _ _) <|
  mF (mn_WI _ _ _) <|
  mF (mn_LA _ _) <|
  mF (mn_PI _ _) <|
  mF (mn_WI _ _ _) <|
  mF (mn_RV) <|
  mF0
def C_X5_init : mCo := mRun tb_X5_init 1
theorem mc_X5_init : mMC C_X5_init := mRun_mn mt_X5_init 1
theorem yi_X5_init : mYin yX5_init cX5_init 1 none 0 := ⟨wd_51, wd_82, by decide +kernel, by decide⟩
set_option maxRecDepth 100000 in
set_option maxHeartbeats 4000000 in
theorem sd_X5_init (l : Launch) (B : mBs) (p : Program) (e : Env) (s : State) (m : MethodId) (args : Array Value) (below : List Frame) (meth : Method) (c : Code) (Q : mQo) (X : mCx l B RX5 cX5_init 1 p s m args c) (hr : meth.sig.returnType = none) (hk : meth.locks = false) (hn : meth.name = "<init>") : ∀ q ∈ tb_X5_init, mSnd l B 1 p e (mRm 1 4 24) s m args below meth c (MQ below (mPo B Q) args s 4 24 (mA B)) (fun r h' => (h'.1.2.1 ≤ 4 ∧ h'.1.2.2 ≤ 24) ∧ Q r h') q.2 q.1 :=
  mF (sn_aload_n (pc := 0) (j := 0) X (by decide +kernel) rfl) <|
  mF (sn_obj (pc := 1) X (by decide) wd_83 wd_70 wd_71 (by decide +kernel)) <|
  mF (sn_aload_n (pc := 4) (j := 0) X (by decide +kernel) rfl) <|
  mF (sn_bipush (pc := 5) (n := 6) X (by decide +kernel) (by decide)) <|
  mF (sn_newI (pc := 7) X wd_126 (by decide +kernel)) <|
  mF (sn_putR (D' := "") (pc := 9) X hn fd_X5_9 ⟨tyX5_ok, nmX5⟩ rfl rfl rfl (fun _ => ⟨rfl, rfl⟩) (by decide +kernel)) <|
  mF (sn_aload_n (pc := 12) (j := 0) X (by decide +kernel) rfl) <|
  mF (sn_bipush (pc := 13) (n := 6) X (by decide +kernel) (by decide)) <|
  mF (sn_newI (pc := 15) X wd_126 (by decide +kernel)) <|
  mF (sn_putR (D' := "") (pc := 17) X hn fd_X5_15 ⟨tyX5_ok, nmX5⟩ rfl rfl rfl (fun _ => ⟨rfl, rfl⟩) (by decide +kernel)) <|
  mF (sn_aload_n (pc := 20) (j := 0) X (by decide +kernel) rfl) <|
  mF (sn_bipush (pc := 21) (n := 6) X (by decide +kernel) (by decide)) <|
  mF (sn_newI (pc := 23) X wd_126 (by decide +kernel)) <|
  mF (sn_putR (D' := "") (pc := 25) X hn fd_X5_18 ⟨tyX5_ok, nmX5⟩ rfl rfl rfl (fun _ => ⟨rfl, rfl⟩) (by decide +kernel)) <|
  mF (sn_aload_n (pc := 28) (j := 0) X (by decide +kernel) rfl) <|
  mF (sn_bipush (pc := 29) (n := 6) X (by decide +kernel) (by decide)) <|
  mF (sn_newI (pc := 31) X wd_126 (by decide +kernel)) <|
  mF (sn_putR (D' := "") (pc := 33) X hn fd_X5_21 ⟨tyX5_ok, nmX5⟩ rfl rfl rfl (fun _ => ⟨rfl, rfl⟩) (by decide +kernel)) <|
  mF (sn_aload_n (pc := 36) (j := 0) X (by decide +kernel) rfl) <|
  mF (sn_iconst (pc := 37) (n := 0) X (by decide +kernel) (by decide)) <|
  mF (sn_putI (pc := 38) X fd_X5_24 ⟨tyX5_ok, nmX5⟩ rfl rfl (by decide +kernel)) <|
  mF (sn_aload_n (pc := 41) (j := 0) X (by decide +kernel) rfl) <|
  mF (sn_iconst (pc := 42) (n := 0) X (by decide +kernel) (by decide)) <|
  mF (sn_putI (pc := 43) X fd_X5_28 ⟨tyX5_ok, nmX5⟩ rfl rfl (by decide +kernel)) <|
  mF (sn_aload_n (pc := 46) (j := 0) X (by decide +kernel) rfl) <|
  mF (sn_iconst (pc := 47) (n := 0) X (by decide +kernel) (by decide)) <|
  mF (sn_putI (pc := 48) X fd_X5_31 ⟨tyX5_ok, nmX5⟩ rfl rfl (by decide +kernel)) <|
  mF (sn_vret (pc := 51) X hr hk (by decide +kernel)) <|
  mF0
theorem me_X5_init (l : Launch) (B : mBs) : mMet l B yX5_init cX5_init 1 none 1 4 24 C_X5_init := mMet_of (own := RX5) (by decide) rfl (fun p e s m args below meth c Q X hr hk hn => sd_X5_init l B p e s m args below meth c Q X hr hk hn)
/-! PuppetStage$Spans.<init>()V: 14 instructions, depth 1, makes 2 cells of 12 slots -/
def tb_X9_init : mTb := [(0, aLA 0 1), (1, aObj 4), (4, aLA 0 5), (5, aPI 6 7), (7, aNI 0 2 12 9), (9, aWR 9 0 12), (12, aLA 0 13), (13, aPI 6 15), (15, aNI 0 2 12 17), (17, aWR 9 1 20), (20, aLA 0 21), (21, aPI (-1) 22), (22, aWI 9 2 25), (25, aRV)]
theorem mt_X9_init : mMT tb_X9_init :=
  mF (mn_LA _ _) <|
  mF (mn_Obj _) <|
  mF (mn_LA _ _) <|
  mF (mn_PI _ _) <|
  mF (mn_NI _ _ _ _) <|
  mF (mn_WR _ _ _) <|
  mF (mn_LA _ _) <|
  mF (mn_PI _ _) <|
  mF (mn_NI _ _ _ _) <|
  mF (mn_WR _ _ _) <|
  mF (mn_LA _ _) <|
  mF (mn_PI _ _) <|
  mF (mn_WI _ _ _) <|
  mF (mn_RV) <|
  mF0
def C_X9_init : mCo := mRun tb_X9_init 1
theorem mc_X9_init : mMC C_X9_init := mRun_mn mt_X9_init 1
theorem yi_X9_init : mYin yX9_init cX9_init 1 none 0 := ⟨wd_52, wd_131, by decide +kernel, by decide⟩
set_option maxRecDepth 100000 in
set_option maxHeartbeats 4000000 in
theorem sd_X9_init (l : Launch) (B : mBs) (p : Program) (e : Env) (s : State) (m : MethodId) (args : Array Value) (below : List Frame) (meth : Method) (c : Code) (Q : mQo) (X : mCx l B RX9 cX9_init 1 p s m args c) (hr : meth.sig.returnType = none) (hk : meth.locks = false) (hn : meth.name = "<init>") : ∀ q ∈ tb_X9_init, mSnd l B 1 p e (mRm 1 2 12) s m args below meth c (MQ below (mPo B Q) args s 2 12 (mA B)) (fun r h' => (h'.1.2.1 ≤ 2 ∧ h'.1.2.2 ≤ 12) ∧ Q r h') q.2 q.1 :=
  mF (sn_aload_n (pc := 0) (j := 0) X (by decide +kernel) rfl) <|
  mF (sn_obj (pc := 1) X (by decide) wd_132 wd_70 wd_71 (by decide +kernel)) <|
  mF (sn_aload_n (pc := 4) (j := 0) X (by decide +kernel) rfl) <|
  mF (sn_bipush (pc := 5) (n := 6) X (by decide +kernel) (by decide)) <|
  mF (sn_newI (pc := 7) X wd_126 (by decide +kernel)) <|
  mF (sn_putR (D' := "") (pc := 9) X hn fd_X9_9 ⟨tyX9_ok, nmX9⟩ rfl rfl rfl (fun _ => ⟨rfl, rfl⟩) (by decide +kernel)) <|
  mF (sn_aload_n (pc := 12) (j := 0) X (by decide +kernel) rfl) <|
  mF (sn_bipush (pc := 13) (n := 6) X (by decide +kernel) (by decide)) <|
  mF (sn_newI (pc := 15) X wd_126 (by decide +kernel)) <|
  mF (sn_putR (D' := "") (pc := 17) X hn fd_X9_15 ⟨tyX9_ok, nmX9⟩ rfl rfl rfl (fun _ => ⟨rfl, rfl⟩) (by decide +kernel)) <|
  mF (sn_aload_n (pc := 20) (j := 0) X (by decide +kernel) rfl) <|
  mF (sn_iconst (pc := 21) (n := (-1)) X (by decide +kernel) (by decide)) <|
  mF (sn_putI (pc := 22) X fd_X9_18 ⟨tyX9_ok, nmX9⟩ rfl rfl (by decide +kernel)) <|
  mF (sn_vret (pc := 25) X hr hk (by decide +kernel)) <|
  mF0
theorem me_X9_init (l : Launch) (B : mBs) : mMet l B yX9_init cX9_init 1 none 1 2 12 C_X9_init := mMet_of (own := RX9) (by decide) rfl (fun p e s m args below meth c Q X hr hk hn => sd_X9_init l B p e s m args below meth c Q X hr hk hn)
/-! PuppetStage$Holds.<init>()V: 30 instructions, depth 1, makes 6 cells of 72 slots -/
def tb_X4_init : mTb := [(0, aLA 0 1), (1, aObj 4), (4, aLA 0 5), (5, aPI 12 7), (7, aNI 0 6 72 9), (9, aWR 4 0 12), (12, aLA 0 13), (13, aPI 12 15), (15, aNI 0 6 72 17), (17, aWR 4 1 20), (20, aLA 0 21), (21, aPI 12 23), (23, aNI 0 6 72 25), (25, aWR 4 2 28), (28, aLA 0 29), (29, aPI 12 31), (31, aNI 0 6 72 33), (33, aWR 4 3 36), (36, aLA 0 37), (37, aPI 12 39), (39, aNI 0 6 72 41), (41, aWR 4 4 44), (44, aLA 0 45), (45, aPI 12 47), (47, aNI 0 6 72 49), (49, aWR 4 5 52), (52, aLA 0 53), (53, aPI 0 54), (54, aWI 4 6 57), (57, aRV)]
theorem mt_X4_init : mMT tb_X4_init :=
  mF (mn_LA _ _) <|
  mF (mn_Obj _) <|
  mF (mn_LA _ _) <|
  mF (mn_PI _ _) <|
  mF (mn_NI _ _ _ _) <|
  mF (mn_WR _ _ _) <|
  mF (mn_LA _ _) <|
  mF (mn_PI _ _) <|
  mF (mn_NI _ _ _ _) <|
  mF (mn_WR _ _ _) <|
  mF (mn_LA _ _) <|
  mF (mn_PI _ _) <|
  mF (mn_NI _ _ _ _) <|
  mF (mn_WR _ _ _) <|
  mF (mn_LA _ _) <|
  mF (mn_PI _ _) <|
  mF (mn_NI _ _ _ _) <|
  mF (mn_WR _ _ _) <|
  mF (mn_LA _ _) <|
  mF (mn_PI _ _) <|
  mF (mn_NI _ _ _ _) <|
  mF (mn_WR _ _ _) <|
  mF (mn_LA _ _) <|
  mF (mn_PI _ _) <|
  mF (mn_NI _ _ _ _) <|
  mF (mn_WR _ _ _) <|
  mF (mn_LA _ _) <|
  mF (mn_PI _ _) <|
  mF (mn_WI _ _ _) <|
  mF (mn_RV) <|
  mF0
def C_X4_init : mCo := mRun tb_X4_init 1
theorem mc_X4_init : mMC C_X4_init := mRun_mn mt_X4_init 1
theorem yi_X4_init : mYin yX4_init cX4_init 1 none 0 := ⟨wd_54, wd_185, by decide +kernel, by decide⟩
set_option maxRecDepth 100000 in
set_option maxHeartbeats 4000000 in
theorem sd_X4_init (l : Launch) (B : mBs) (p : Program) (e : Env) (s : State) (m : MethodId) (args : Array Value) (below : List Frame) (meth : Method) (c : Code) (Q : mQo) (X : mCx l B RX4 cX4_init 1 p s m args c) (hr : meth.sig.returnType = none) (hk : meth.locks = false) (hn : meth.name = "<init>") : ∀ q ∈ tb_X4_init, mSnd l B 1 p e (mRm 1 6 72) s m args below meth c (MQ below (mPo B Q) args s 6 72 (mA B)) (fun r h' => (h'.1.2.1 ≤ 6 ∧ h'.1.2.2 ≤ 72) ∧ Q r h') q.2 q.1 :=
  mF (sn_aload_n (pc := 0) (j := 0) X (by decide +kernel) rfl) <|
  mF (sn_obj (pc := 1) X (by decide) wd_186 wd_70 wd_71 (by decide +kernel)) <|
  mF (sn_aload_n (pc := 4) (j := 0) X (by decide +kernel) rfl) <|
  mF (sn_bipush (pc := 5) (n := 12) X (by decide +kernel) (by decide)) <|
  mF (sn_newI (pc := 7) X wd_126 (by decide +kernel)) <|
  mF (sn_putR (D' := "") (pc := 9) X hn fd_X4_9 ⟨tyX4_ok, nmX4⟩ rfl rfl rfl (fun _ => ⟨rfl, rfl⟩) (by decide +kernel)) <|
  mF (sn_aload_n (pc := 12) (j := 0) X (by decide +kernel) rfl) <|
  mF (sn_bipush (pc := 13) (n := 12) X (by decide +kernel) (by decide)) <|
  mF (sn_newI (pc := 15) X wd_126 (by decide +kernel)) <|
  mF (sn_putR (D' := "") (pc := 17) X hn fd_X4_15 ⟨tyX4_ok, nmX4⟩ rfl rfl rfl (fun _ => ⟨rfl, rfl⟩) (by decide +kernel)) <|
  mF (sn_aload_n (pc := 20) (j := 0) X (by decide +kernel) rfl) <|
  mF (sn_bipush (pc := 21) (n := 12) X (by decide +kernel) (by decide)) <|
  mF (sn_newI (pc := 23) X wd_126 (by decide +kernel)) <|
  mF (sn_putR (D' := "") (pc := 25) X hn fd_X4_18 ⟨tyX4_ok, nmX4⟩ rfl rfl rfl (fun _ => ⟨rfl, rfl⟩) (by decide +kernel)) <|
  mF (sn_aload_n (pc := 28) (j := 0) X (by decide +kernel) rfl) <|
  mF (sn_bipush (pc := 29) (n := 12) X (by decide +kernel) (by decide)) <|
  mF (sn_newI (pc := 31) X wd_126 (by decide +kernel)) <|
  mF (sn_putR (D' := "") (pc := 33) X hn fd_X4_21 ⟨tyX4_ok, nmX4⟩ rfl rfl rfl (fun _ => ⟨rfl, rfl⟩) (by decide +kernel)) <|
  mF (sn_aload_n (pc := 36) (j := 0) X (by decide +kernel) rfl) <|
  mF (sn_bipush (pc := 37) (n := 12) X (by decide +kernel) (by decide)) <|
  mF (sn_newI (pc := 39) X wd_126 (by decide +kernel)) <|
  mF (sn_putR (D' := "") (pc := 41) X hn fd_X4_24 ⟨tyX4_ok, nmX4⟩ rfl rfl rfl (fun _ => ⟨rfl, rfl⟩) (by decide +kernel)) <|
  mF (sn_aload_n (pc := 44) (j := 0) X (by decide +kernel) rfl) <|
  mF (sn_bipush (pc := 45) (n := 12) X (by decide +kernel) (by decide)) <|
  mF (sn_newI (pc := 47) X wd_126 (by decide +kernel)) <|
  mF (sn_putR (D' := "") (pc := 49) X hn fd_X4_27 ⟨tyX4_ok, nmX4⟩ rfl rfl rfl (fun _ => ⟨rfl, rfl⟩) (by decide +kernel)) <|
  mF (sn_aload_n (pc := 52) (j := 0) X (by decide +kernel) rfl) <|
  mF (sn_iconst (pc := 53) (n := 0) X (by decide +kernel) (by decide)) <|
  mF (sn_putI (pc := 54) X fd_X4_30 ⟨tyX4_ok, nmX4⟩ rfl rfl (by decide +kernel)) <|
  mF (sn_vret (pc := 57) X hr hk (by decide +kernel)) <|
  mF0
theorem me_X4_init (l : Launch) (B : mBs) : mMet l B yX4_init cX4_init 1 none 1 6 72 C_X4_init := mMet_of (own := RX4) (by decide) rfl (fun p e s m args below meth c Q X hr hk hn => sd_X4_init l B p e s m args below meth c Q X hr hk hn)
/-! PuppetStage$Puppet.<init>()V: 31 instructions, depth 2, makes 23 cells of 256 slots -/
def tb_X7_init : mTb := [(0, aLA 0 1), (1, aObj 4), (4, aLA 0 5), (5, aNew 5 7 23 256 8), (8, aDup 9), (9, aCI C_X5_init 4 24 23 256 12), (12, aWR 7 0 15), (15, aLA 0 16), (16, aNew 9 3 23 256 19), (19, aDup 20), (20, aCI C_X9_init 2 12 23 256 23), (23, aWR 7 1 26), (26, aLA 0 27), (27, aNew 0 5 23 256 30), (30, aDup 31), (31, aCI C_X0_init 2 12 23 256 34), (34, aWR 7 2 37), (37, aLA 0 38), (38, aNew 4 7 23 256 41), (41, aDup 42), (42, aCI C_X4_init 6 72 23 256 45), (45, aWR 7 3 48), (48, aLA 0 49), (49, aNew 2 6 23 256 52), (52, aDup 53), (53, aCI C_X2_init 4 108 23 256 56), (56, aWR 7 4 59), (59, aLA 0 60), (60, aPI 0 61), (61, aWI 7 5 64), (64, aRV)]
theorem mt_X7_init : mMT tb_X7_init :=
  mF (mn_LA _ _) <|
  mF (mn_Obj _) <|
  mF (mn_LA _ _) <|
  mF (mn_New _ _ _ _ _) <|
  mF (mn_Dup _) <|
  mF (mn_CI mc_X5_init _ _ _ _ _) <|
  mF (mn_WR _ _ _) <|
  mF (mn_LA _ _) <|
  mF (mn_New _ _ _ _ _) <|
  mF (mn_Dup _) <|
  mF (mn_CI mc_X9_init _ _ _ _ _) <|
  mF (mn_WR _ _ _) <|
  mF (mn_LA _ _) <|
  mF (mn_New _ _ _ _ _) <|
  mF (mn_Dup _) <|
  mF (mn_CI mc_X0_init _ _ _ _ _) <|
  mF (mn_WR _ _ _) <|
  mF (mn_LA _ _) <|
  mF (mn_New _ _ _ _ _) <|
  mF (mn_Dup _) <|
  mF (mn_CI mc_X4_init _ _ _ _ _) <|
  mF (mn_WR _ _ _) <|
  mF (mn_LA _ _) <|
  mF (mn_New _ _ _ _ _) <|
  mF (mn_Dup _) <|
  mF (mn_CI mc_X2_init _ _ _ _ _) <|
  mF (mn_WR _ _ _) <|
  mF (mn_LA _ _) <|
  mF (mn_PI _ _) <|
  mF (mn_WI _ _ _) <|
  mF (mn_RV) <|
  mF0
def C_X7_init : mCo := mRun tb_X7_init 1
theorem mc_X7_init : mMC C_X7_init := mRun_mn mt_X7_init 1
theorem yi_X7_init : mYin yX7_init cX7_init 1 none 0 := ⟨wd_50, wd_76, by decide +kernel, by decide⟩
set_option maxRecDepth 100000 in
set_option maxHeartbeats 4000000 in
theorem sd_X7_init (l : Launch) (B : mBs) (p : Program) (e : Env) (s : State) (m : MethodId) (args : Array Value) (below : List Frame) (meth : Method) (c : Code) (Q : mQo) (X : mCx l B RX7 cX7_init 1 p s m args c) (hr : meth.sig.returnType = none) (hk : meth.locks = false) (hn : meth.name = "<init>") : ∀ q ∈ tb_X7_init, mSnd l B 1 p e (mRm 2 23 256) s m args below meth c (MQ below (mPo B Q) args s 23 256 (mA B)) (fun r h' => (h'.1.2.1 ≤ 23 ∧ h'.1.2.2 ≤ 256) ∧ Q r h') q.2 q.1 :=
  mF (sn_aload_n (pc := 0) (j := 0) X (by decide +kernel) rfl) <|
  mF (sn_obj (pc := 1) X (by decide) wd_77 wd_70 wd_71 (by decide +kernel)) <|
  mF (sn_aload_n (pc := 4) (j := 0) X (by decide +kernel) rfl) <|
  mF (sn_new (pc := 5) X rfl inw_5 ⟨tyX5_ok, nmX5⟩ (by decide) rfl wd_78 wd_79 wd_51 (by decide +kernel)) <|
  mF (sn_dup (pc := 8) X (by decide +kernel)) <|
  mF (sn_callIN (pc := 9) X mc_X5_init (me_X5_init l B) yi_X5_init wd_80 wd_81 rfl (by decide) (by decide +kernel)) <|
  mF (sn_putR (D' := "") (pc := 12) X hn fd_X7_12 ⟨tyX7_ok, nmX7⟩ rfl rfl rfl (fun _ => ⟨rfl, rfl⟩) (by decide +kernel)) <|
  mF (sn_aload_n (pc := 15) (j := 0) X (by decide +kernel) rfl) <|
  mF (sn_new (pc := 16) X rfl inw_9 ⟨tyX9_ok, nmX9⟩ (by decide) rfl wd_127 wd_128 wd_52 (by decide +kernel)) <|
  mF (sn_dup (pc := 19) X (by decide +kernel)) <|
  mF (sn_callIN (pc := 20) X mc_X9_init (me_X9_init l B) yi_X9_init wd_129 wd_130 rfl (by decide) (by decide +kernel)) <|
  mF (sn_putR (D' := "") (pc := 23) X hn fd_X7_21 ⟨tyX7_ok, nmX7⟩ rfl rfl rfl (fun _ => ⟨rfl, rfl⟩) (by decide +kernel)) <|
  mF (sn_aload_n (pc := 26) (j := 0) X (by decide +kernel) rfl) <|
  mF (sn_new (pc := 27) X rfl inw_0 ⟨tyX0_ok, nmX0⟩ (by decide) rfl wd_148 wd_149 wd_53 (by decide +kernel)) <|
  mF (sn_dup (pc := 30) X (by decide +kernel)) <|
  mF (sn_callIN (pc := 31) X mc_X0_init (me_X0_init l B) yi_X0_init wd_150 wd_151 rfl (by decide) (by decide +kernel)) <|
  mF (sn_putR (D' := "") (pc := 34) X hn fd_X7_28 ⟨tyX7_ok, nmX7⟩ rfl rfl rfl (fun _ => ⟨rfl, rfl⟩) (by decide +kernel)) <|
  mF (sn_aload_n (pc := 37) (j := 0) X (by decide +kernel) rfl) <|
  mF (sn_new (pc := 38) X rfl inw_4 ⟨tyX4_ok, nmX4⟩ (by decide) rfl wd_181 wd_182 wd_54 (by decide +kernel)) <|
  mF (sn_dup (pc := 41) X (by decide +kernel)) <|
  mF (sn_callIN (pc := 42) X mc_X4_init (me_X4_init l B) yi_X4_init wd_183 wd_184 rfl (by decide) (by decide +kernel)) <|
  mF (sn_putR (D' := "") (pc := 45) X hn fd_X7_35 ⟨tyX7_ok, nmX7⟩ rfl rfl rfl (fun _ => ⟨rfl, rfl⟩) (by decide +kernel)) <|
  mF (sn_aload_n (pc := 48) (j := 0) X (by decide +kernel) rfl) <|
  mF (sn_new (pc := 49) X rfl inw_2 ⟨tyX2_ok, nmX2⟩ (by decide) rfl wd_221 wd_222 wd_55 (by decide +kernel)) <|
  mF (sn_dup (pc := 52) X (by decide +kernel)) <|
  mF (sn_callIN (pc := 53) X mc_X2_init (me_X2_init l B) yi_X2_init wd_223 wd_224 rfl (by decide) (by decide +kernel)) <|
  mF (sn_putR (D' := "") (pc := 56) X hn fd_X7_42 ⟨tyX7_ok, nmX7⟩ rfl rfl rfl (fun _ => ⟨rfl, rfl⟩) (by decide +kernel)) <|
  mF (sn_aload_n (pc := 59) (j := 0) X (by decide +kernel) rfl) <|
  mF (sn_iconst (pc := 60) (n := 0) X (by decide +kernel) (by decide)) <|
  mF (sn_putI (pc := 61) X fd_X7_46 ⟨tyX7_ok, nmX7⟩ rfl rfl (by decide +kernel)) <|
  mF (sn_vret (pc := 64) X hr hk (by decide +kernel)) <|
  mF0
theorem me_X7_init (l : Launch) (B : mBs) : mMet l B yX7_init cX7_init 1 none 2 23 256 C_X7_init := mMet_of (own := RX7) (by decide) rfl (fun p e s m args below meth c Q X hr hk hn => sd_X7_init l B p e s m args below meth c Q X hr hk hn)
/-! PuppetStage$History.<init>()V: 38 instructions, depth 3, makes 242 cells of 2630 slots -/
def tb_X3_init : mTb := [(0, aLA 0 1), (1, aObj 4), (4, aLA 0 5), (5, aPI 5 6), (6, aNP 242 2630 9), (9, aWR 3 0 12), (12, aLA 0 13), (13, aPI 5 14), (14, aNP 242 2630 17), (17, aWR 3 1 20), (20, aLA 0 21), (21, aPI 0 22), (22, aWI 3 2 25), (25, aLA 0 26), (26, aPI 0 27), (27, aWI 3 3 30), (30, aPI 0 31), (31, aSI 1 32), (32, aLI 1 33), (33, aPI 5 34), (34, aIc (fun x y => y ≤ x) 69 37), (37, aLA 0 38), (38, aGR 3 0 41), (41, aLI 1 42), (42, aNew 7 6 242 2630 45), (45, aDup 46), (46, aCI C_X7_init 23 256 242 2630 49), (49, aAS 50), (50, aLA 0 51), (51, aGR 3 1 54), (54, aLI 1 55), (55, aNew 7 6 242 2630 58), (58, aDup 59), (59, aCI C_X7_init 23 256 242 2630 62), (62, aAS 63), (63, aInc 1 1 66), (66, aGo 32), (69, aRV)]
theorem mt_X3_init : mMT tb_X3_init :=
  mF (mn_LA _ _) <|
  mF (mn_Obj _) <|
  mF (mn_LA _ _) <|
  mF (mn_PI _ _) <|
  mF (mn_NP _ _ _) <|
  mF (mn_WR _ _ _) <|
  mF (mn_LA _ _) <|
  mF (mn_PI _ _) <|
  mF (mn_NP _ _ _) <|
  mF (mn_WR _ _ _) <|
  mF (mn_LA _ _) <|
  mF (mn_PI _ _) <|
  mF (mn_WI _ _ _) <|
  mF (mn_LA _ _) <|
  mF (mn_PI _ _) <|
  mF (mn_WI _ _ _) <|
  mF (mn_PI _ _) <|
  mF (mn_SI _ _) <|
  mF (mn_LI _ _) <|
  mF (mn_PI _ _) <|
  mF (mn_Ic _ _ _) <|
  mF (mn_LA _ _) <|
  mF (mn_GR _ _ _) <|
  mF (mn_LI _ _) <|
  mF (mn_New _ _ _ _ _) <|
  mF (mn_Dup _) <|
  mF (mn_CI mc_X7_init _ _ _ _ _) <|
  mF (mn_AS _) <|
  mF (mn_LA _ _) <|
  mF (mn_GR _ _ _) <|
  mF (mn_LI _ _) <|
  mF (mn_New _ _ _ _ _) <|
  mF (mn_Dup _) <|
  mF (mn_CI mc_X7_init _ _ _ _ _) <|
  mF (mn_AS _) <|
  mF (mn_Inc _ _ _) <|
  mF (mn_Go _) <|
  mF (mn_RV) <|
  mF0
def C_X3_init : mCo := mRun tb_X3_init 2
theorem mc_X3_init : mMC C_X3_init := mRun_mn mt_X3_init 2
theorem yi_X3_init : mYin yX3_init cX3_init 2 none 0 := ⟨wd_56, wd_291, by decide +kernel, by decide⟩
set_option maxRecDepth 100000 in
set_option maxHeartbeats 4000000 in
theorem sd_X3_init (l : Launch) (B : mBs) (p : Program) (e : Env) (s : State) (m : MethodId) (args : Array Value) (below : List Frame) (meth : Method) (c : Code) (Q : mQo) (X : mCx l B RX3 cX3_init 2 p s m args c) (hr : meth.sig.returnType = none) (hk : meth.locks = false) (hn : meth.name = "<init>") : ∀ q ∈ tb_X3_init, mSnd l B 2 p e (mRm 3 242 2630) s m args below meth c (MQ below (mPo B Q) args s 242 2630 (mA B)) (fun r h' => (h'.1.2.1 ≤ 242 ∧ h'.1.2.2 ≤ 2630) ∧ Q r h') q.2 q.1 :=
  mF (sn_aload_n (pc := 0) (j := 0) X (by decide +kernel) rfl) <|
  mF (sn_obj (pc := 1) X (by decide) wd_292 wd_70 wd_71 (by decide +kernel)) <|
  mF (sn_aload_n (pc := 4) (j := 0) X (by decide +kernel) rfl) <|
  mF (sn_iconst (pc := 5) (n := 5) X (by decide +kernel) (by decide)) <|
  mF (sn_newP (pc := 6) X wd_293 (by decide +kernel)) <|
  mF (sn_putR (D' := "") (pc := 9) X hn fd_X3_11 ⟨tyX3_ok, nmX3⟩ rfl rfl rfl (fun _ => ⟨rfl, rfl⟩) (by decide +kernel)) <|
  mF (sn_aload_n (pc := 12) (j := 0) X (by decide +kernel) rfl) <|
  mF (sn_iconst (pc := 13) (n := 5) X (by decide +kernel) (by decide)) <|
  mF (sn_newP (pc := 14) X wd_293 (by decide +kernel)) <|
  mF (sn_putR (D' := "") (pc := 17) X hn fd_X3_17 ⟨tyX3_ok, nmX3⟩ rfl rfl rfl (fun _ => ⟨rfl, rfl⟩) (by decide +kernel)) <|
  mF (sn_aload_n (pc := 20) (j := 0) X (by decide +kernel) rfl) <|
  mF (sn_iconst (pc := 21) (n := 0) X (by decide +kernel) (by decide)) <|
  mF (sn_putI (pc := 22) X fd_X3_20 ⟨tyX3_ok, nmX3⟩ rfl rfl (by decide +kernel)) <|
  mF (sn_aload_n (pc := 25) (j := 0) X (by decide +kernel) rfl) <|
  mF (sn_iconst (pc := 26) (n := 0) X (by decide +kernel) (by decide)) <|
  mF (sn_putI (pc := 27) X fd_X3_24 ⟨tyX3_ok, nmX3⟩ rfl rfl (by decide +kernel)) <|
  mF (sn_iconst (pc := 30) (n := 0) X (by decide +kernel) (by decide)) <|
  mF (sn_istore_n (pc := 31) (j := 1) X (by decide +kernel) rfl (by decide)) <|
  mF (sn_iload_n (pc := 32) (j := 1) X (by decide +kernel) rfl) <|
  mF (sn_iconst (pc := 33) (n := 5) X (by decide +kernel) (by decide)) <|
  mF (sn_icmp_ge (pc := 34) (off := 35) X (by decide +kernel) (by decide)) <|
  mF (sn_aload_n (pc := 37) (j := 0) X (by decide +kernel) rfl) <|
  mF (sn_getR (pc := 38) X fd_X3_11 (by decide +kernel)) <|
  mF (sn_iload_n (pc := 41) (j := 1) X (by decide +kernel) rfl) <|
  mF (sn_new (pc := 42) X rfl inw_7 ⟨tyX7_ok, nmX7⟩ (by decide) rfl wd_293 wd_73 wd_50 (by decide +kernel)) <|
  mF (sn_dup (pc := 45) X (by decide +kernel)) <|
  mF (sn_callIN (pc := 46) X mc_X7_init (me_X7_init l B) yi_X7_init wd_295 wd_75 rfl (by decide) (by decide +kernel)) <|
  mF (sn_aastore (pc := 49) X (by decide +kernel)) <|
  mF (sn_aload_n (pc := 50) (j := 0) X (by decide +kernel) rfl) <|
  mF (sn_getR (pc := 51) X fd_X3_17 (by decide +kernel)) <|
  mF (sn_iload_n (pc := 54) (j := 1) X (by decide +kernel) rfl) <|
  mF (sn_new (pc := 55) X rfl inw_7 ⟨tyX7_ok, nmX7⟩ (by decide) rfl wd_293 wd_73 wd_50 (by decide +kernel)) <|
  mF (sn_dup (pc := 58) X (by decide +kernel)) <|
  mF (sn_callIN (pc := 59) X mc_X7_init (me_X7_init l B) yi_X7_init wd_295 wd_75 rfl (by decide) (by decide +kernel)) <|
  mF (sn_aastore (pc := 62) X (by decide +kernel)) <|
  mF (sn_iinc (pc := 63) (n := 1) X (by decide +kernel) (by decide) (by decide)) <|
  mF (sn_goto (pc := 66) (off := (-34)) X (by decide +kernel) (by decide)) <|
  mF (sn_vret (pc := 69) X hr hk (by decide +kernel)) <|
  mF0
theorem me_X3_init (l : Launch) (B : mBs) : mMet l B yX3_init cX3_init 2 none 3 242 2630 C_X3_init := mMet_of (own := RX3) (by decide) rfl (fun p e s m args below meth c Q X hr hk hn => sd_X3_init l B p e s m args below meth c Q X hr hk hn)
/-! PuppetStage$Limbs.become(LPuppetStage$Limbs;)V: 33 instructions, depth 2, makes 0 cells of 0 slots -/
def tb_X5_become : mTb := [(0, aLA 1 1), (1, aGR 5 0 4), (4, aLA 0 5), (5, aGR 5 0 8), (8, aCS 2 C_X10_copyRow 11), (11, aLA 1 12), (12, aGR 5 1 15), (15, aLA 0 16), (16, aGR 5 1 19), (19, aCS 2 C_X10_copyRow 22), (22, aLA 1 23), (23, aGR 5 2 26), (26, aLA 0 27), (27, aGR 5 2 30), (30, aCS 2 C_X10_copyRow 33), (33, aLA 1 34), (34, aGR 5 3 37), (37, aLA 0 38), (38, aGR 5 3 41), (41, aCS 2 C_X10_copyRow 44), (44, aLA 0 45), (45, aLA 1 46), (46, aGI 5 4 49), (49, aWI 5 4 52), (52, aLA 0 53), (53, aLA 1 54), (54, aGI 5 5 57), (57, aWI 5 5 60), (60, aLA 0 61), (61, aLA 1 62), (62, aGI 5 6 65), (65, aWI 5 6 68), (68, aRV)]
theorem mt_X5_become : mMT tb_X5_become :=
  mF (mn_LA _ _) <|
  mF (mn_GR _ _ _) <|
  mF (mn_LA _ _) <|
  mF (mn_GR _ _ _) <|
  mF (mn_CS _ mc_X10_copyRow _) <|
  mF (mn_LA _ _) <|
  mF (mn_GR _ _ _) <|
  mF (mn_LA _ _) <|
  mF (mn_GR _ _ _) <|
  mF (mn_CS _ mc_X10_copyRow _) <|
  mF (mn_LA _ _) <|
  mF (mn_GR _ _ _) <|
  mF (mn_LA _ _) <|
  mF (mn_GR _ _ _) <|
  mF (mn_CS _ mc_X10_copyRow _) <|
  mF (mn_LA _ _) <|
  mF (mn_GR _ _ _) <|
  mF (mn_LA _ _) <|
  mF (mn_GR _ _ _) <|
  mF (mn_CS _ mc_X10_copyRow _) <|
  mF (mn_LA _ _) <|
  mF (mn_LA _ _) <|
  mF (mn_GI _ _ _) <|
  mF (mn_WI _ _ _) <|
  mF (mn_LA _ _) <|
  mF (mn_LA _ _) <|
  mF (mn_GI _ _ _) <|
  mF (mn_WI _ _ _) <|
  mF (mn_LA _ _) <|
  mF (mn_LA _ _) <|
  mF (mn_GI _ _ _) <|
  mF (mn_WI _ _ _) <|
  mF (mn_RV) <|
  mF0
def C_X5_become : mCo := mRun tb_X5_become 2
theorem mc_X5_become : mMC C_X5_become := mRun_mn mt_X5_become 2
theorem yi_X5_become : mYin yX5_become cX5_become 2 none 1 := ⟨wd_51, wd_462, by decide +kernel, by decide⟩
set_option maxRecDepth 100000 in
set_option maxHeartbeats 4000000 in
theorem sd_X5_become (l : Launch) (B : mBs) (p : Program) (e : Env) (s : State) (m : MethodId) (args : Array Value) (below : List Frame) (meth : Method) (c : Code) (Q : mQo) (X : mCx l B RX5 cX5_become 2 p s m args c) (hr : meth.sig.returnType = none) (hk : meth.locks = false) (hn : meth.name = "become") : ∀ q ∈ tb_X5_become, mSnd l B 2 p e (mRm 2 0 0) s m args below meth c (MQ below (mPo B Q) args s 0 0 (mA B)) (fun r h' => (h'.1.2.1 ≤ 0 ∧ h'.1.2.2 ≤ 0) ∧ Q r h') q.2 q.1 :=
  mF (sn_aload_n (pc := 0) (j := 1) X (by decide +kernel) rfl) <|
  mF (sn_getR (pc := 1) X fd_X5_9 (by decide +kernel)) <|
  mF (sn_aload_n (pc := 4) (j := 0) X (by decide +kernel) rfl) <|
  mF (sn_getR (pc := 5) X fd_X5_9 (by decide +kernel)) <|
  mF (sn_callSN (pc := 8) X mc_X10_copyRow (me_X10_copyRow l B) yi_X10_copyRow wd_463 wd_464 (by decide) (by decide +kernel)) <|
  mF (sn_aload_n (pc := 11) (j := 1) X (by decide +kernel) rfl) <|
  mF (sn_getR (pc := 12) X fd_X5_15 (by decide +kernel)) <|
  mF (sn_aload_n (pc := 15) (j := 0) X (by decide +kernel) rfl) <|
  mF (sn_getR (pc := 16) X fd_X5_15 (by decide +kernel)) <|
  mF (sn_callSN (pc := 19) X mc_X10_copyRow (me_X10_copyRow l B) yi_X10_copyRow wd_463 wd_464 (by decide) (by decide +kernel)) <|
  mF (sn_aload_n (pc := 22) (j := 1) X (by decide +kernel) rfl) <|
  mF (sn_getR (pc := 23) X fd_X5_18 (by decide +kernel)) <|
  mF (sn_aload_n (pc := 26) (j := 0) X (by decide +kernel) rfl) <|
  mF (sn_getR (pc := 27) X fd_X5_18 (by decide +kernel)) <|
  mF (sn_callSN (pc := 30) X mc_X10_copyRow (me_X10_copyRow l B) yi_X10_copyRow wd_463 wd_464 (by decide) (by decide +kernel)) <|
  mF (sn_aload_n (pc := 33) (j := 1) X (by decide +kernel) rfl) <|
  mF (sn_getR (pc := 34) X fd_X5_21 (by decide +kernel)) <|
  mF (sn_aload_n (pc := 37) (j := 0) X (by decide +kernel) rfl) <|
  mF (sn_getR (pc := 38) X fd_X5_21 (by decide +kernel)) <|
  mF (sn_callSN (pc := 41) X mc_X10_copyRow (me_X10_copyRow l B) yi_X10_copyRow wd_463 wd_464 (by decide) (by decide +kernel)) <|
  mF (sn_aload_n (pc := 44) (j := 0) X (by decide +kernel) rfl) <|
  mF (sn_aload_n (pc := 45) (j := 1) X (by decide +kernel) rfl) <|
  mF (sn_getI (pc := 46) X fd_X5_24 (by decide +kernel)) <|
  mF (sn_putI (pc := 49) X fd_X5_24 ⟨tyX5_ok, nmX5⟩ rfl rfl (by decide +kernel)) <|
  mF (sn_aload_n (pc := 52) (j := 0) X (by decide +kernel) rfl) <|
  mF (sn_aload_n (pc := 53) (j := 1) X (by decide +kernel) rfl) <|
  mF (sn_getI (pc := 54) X fd_X5_28 (by decide +kernel)) <|
  mF (sn_putI (pc := 57) X fd_X5_28 ⟨tyX5_ok, nmX5⟩ rfl rfl (by decide +kernel)) <|
  mF (sn_aload_n (pc := 60) (j := 0) X (by decide +kernel) rfl) <|
  mF (sn_aload_n (pc := 61) (j := 1) X (by decide +kernel) rfl) <|
  mF (sn_getI (pc := 62) X fd_X5_31 (by decide +kernel)) <|
  mF (sn_putI (pc := 65) X fd_X5_31 ⟨tyX5_ok, nmX5⟩ rfl rfl (by decide +kernel)) <|
  mF (sn_vret (pc := 68) X hr hk (by decide +kernel)) <|
  mF0
theorem me_X5_become (l : Launch) (B : mBs) : mMet l B yX5_become cX5_become 2 none 2 0 0 C_X5_become := mMet_of (own := RX5) (by decide) rfl (fun p e s m args below meth c Q X hr hk hn => sd_X5_become l B p e s m args below meth c Q X hr hk hn)
/-! PuppetStage$Spans.become(LPuppetStage$Spans;)V: 15 instructions, depth 2, makes 0 cells of 0 slots -/
def tb_X9_become : mTb := [(0, aLA 1 1), (1, aGR 9 0 4), (4, aLA 0 5), (5, aGR 9 0 8), (8, aCS 2 C_X10_copyRow 11), (11, aLA 1 12), (12, aGR 9 1 15), (15, aLA 0 16), (16, aGR 9 1 19), (19, aCS 2 C_X10_copyRow 22), (22, aLA 0 23), (23, aLA 1 24), (24, aGI 9 2 27), (27, aWI 9 2 30), (30, aRV)]
theorem mt_X9_become : mMT tb_X9_become :=
  mF (mn_LA _ _) <|
  mF (mn_GR _ _ _) <|
  mF (mn_LA _ _) <|
  mF (mn_GR _ _ _) <|
  mF (mn_CS _ mc_X10_copyRow _) <|
  mF (mn_LA _ _) <|
  mF (mn_GR _ _ _) <|
  mF (mn_LA _ _) <|
  mF (mn_GR _ _ _) <|
  mF (mn_CS _ mc_X10_copyRow _) <|
  mF (mn_LA _ _) <|
  mF (mn_LA _ _) <|
  mF (mn_GI _ _ _) <|
  mF (mn_WI _ _ _) <|
  mF (mn_RV) <|
  mF0
def C_X9_become : mCo := mRun tb_X9_become 2
theorem mc_X9_become : mMC C_X9_become := mRun_mn mt_X9_become 2
theorem yi_X9_become : mYin yX9_become cX9_become 2 none 1 := ⟨wd_52, wd_475, by decide +kernel, by decide⟩
set_option maxRecDepth 100000 in
set_option maxHeartbeats 4000000 in
theorem sd_X9_become (l : Launch) (B : mBs) (p : Program) (e : Env) (s : State) (m : MethodId) (args : Array Value) (below : List Frame) (meth : Method) (c : Code) (Q : mQo) (X : mCx l B RX9 cX9_become 2 p s m args c) (hr : meth.sig.returnType = none) (hk : meth.locks = false) (hn : meth.name = "become") : ∀ q ∈ tb_X9_become, mSnd l B 2 p e (mRm 2 0 0) s m args below meth c (MQ below (mPo B Q) args s 0 0 (mA B)) (fun r h' => (h'.1.2.1 ≤ 0 ∧ h'.1.2.2 ≤ 0) ∧ Q r h') q.2 q.1 :=
  mF (sn_aload_n (pc := 0) (j := 1) X (by decide +kernel) rfl) <|
  mF (sn_getR (pc := 1) X fd_X9_9 (by decide +kernel)) <|
  mF (sn_aload_n (pc := 4) (j := 0) X (by decide +kernel) rfl) <|
  mF (sn_getR (pc := 5) X fd_X9_9 (by decide +kernel)) <|
  mF (sn_callSN (pc := 8) X mc_X10_copyRow (me_X10_copyRow l B) yi_X10_copyRow wd_476 wd_464 (by decide) (by decide +kernel)) <|
  mF (sn_aload_n (pc := 11) (j := 1) X (by decide +kernel) rfl) <|
  mF (sn_getR (pc := 12) X fd_X9_15 (by decide +kernel)) <|
  mF (sn_aload_n (pc := 15) (j := 0) X (by decide +kernel) rfl) <|
  mF (sn_getR (pc := 16) X fd_X9_15 (by decide +kernel)) <|
  mF (sn_callSN (pc := 19) X mc_X10_copyRow (me_X10_copyRow l B) yi_X10_copyRow wd_476 wd_464 (by decide) (by decide +kernel)) <|
  mF (sn_aload_n (pc := 22) (j := 0) X (by decide +kernel) rfl) <|
  mF (sn_aload_n (pc := 23) (j := 1) X (by decide +kernel) rfl) <|
  mF (sn_getI (pc := 24) X fd_X9_18 (by decide +kernel)) <|
  mF (sn_putI (pc := 27) X fd_X9_18 ⟨tyX9_ok, nmX9⟩ rfl rfl (by decide +kernel)) <|
  mF (sn_vret (pc := 30) X hr hk (by decide +kernel)) <|
  mF0
theorem me_X9_become (l : Launch) (B : mBs) : mMet l B yX9_become cX9_become 2 none 2 0 0 C_X9_become := mMet_of (own := RX9) (by decide) rfl (fun p e s m args below meth c Q X hr hk hn => sd_X9_become l B p e s m args below meth c Q X hr hk hn)
/-! PuppetStage$Holds.become(LPuppetStage$Holds;)V: 35 instructions, depth 2, makes 0 cells of 0 slots -/
def tb_X4_become : mTb := [(0, aLA 1 1), (1, aGR 4 0 4), (4, aLA 0 5), (5, aGR 4 0 8), (8, aCS 2 C_X10_copyRow 11), (11, aLA 1 12), (12, aGR 4 1 15), (15, aLA 0 16), (16, aGR 4 1 19), (19, aCS 2 C_X10_copyRow 22), (22, aLA 1 23), (23, aGR 4 2 26), (26, aLA 0 27), (27, aGR 4 2 30), (30, aCS 2 C_X10_copyRow 33), (33, aLA 1 34), (34, aGR 4 3 37), (37, aLA 0 38), (38, aGR 4 3 41), (41, aCS 2 C_X10_copyRow 44), (44, aLA 1 45), (45, aGR 4 4 48), (48, aLA 0 49), (49, aGR 4 4 52), (52, aCS 2 C_X10_copyRow 55), (55, aLA 1 56), (56, aGR 4 5 59), (59, aLA 0 60), (60, aGR 4 5 63), (63, aCS 2 C_X10_copyRow 66), (66, aLA 0 67), (67, aLA 1 68), (68, aGI 4 6 71), (71, aWI 4 6 74), (74, aRV)]
theorem mt_X4_become : mMT tb_X4_become :=
  mF (mn_LA _ _) <|
  mF (mn_GR _ _ _) <|
  mF (mn_LA _ _) <|
  mF (mn_GR _ _ _) <|
  mF (mn_CS _ mc_X10_copyRow _) <|
  mF (mn_LA _ _) <|
  mF (mn_GR _ _ _) <|
  mF (mn_LA _ _) <|
  mF (mn_GR _ _ _) <|
  mF (mn_CS _ mc_X10_copyRow _) <|
  mF (mn_LA _ _) <|
  mF (mn_GR _ _ _) <|
  mF (mn_LA _ _) <|
  mF (mn_GR _ _ _) <|
  mF (mn_CS _ mc_X10_copyRow _) <|
  mF (mn_LA _ _) <|
  mF (mn_GR _ _ _) <|
  mF (mn_LA _ _) <|
  mF (mn_GR _ _ _) <|
  mF (mn_CS _ mc_X10_copyRow _) <|
  mF (mn_LA _ _) <|
  mF (mn_GR _ _ _) <|
  mF (mn_LA _ _) <|
  mF (mn_GR _ _ _) <|
  mF (mn_CS _ mc_X10_copyRow _) <|
  mF (mn_LA _ _) <|
  mF (mn_GR _ _ _) <|
  mF (mn_LA _ _) <|
  mF (mn_GR _ _ _) <|
  mF (mn_CS _ mc_X10_copyRow _) <|
  mF (mn_LA _ _) <|
  mF (mn_LA _ _) <|
  mF (mn_GI _ _ _) <|
  mF (mn_WI _ _ _) <|
  mF (mn_RV) <|
  mF0
def C_X4_become : mCo := mRun tb_X4_become 2
theorem mc_X4_become : mMC C_X4_become := mRun_mn mt_X4_become 2
theorem yi_X4_become : mYin yX4_become cX4_become 2 none 1 := ⟨wd_54, wd_489, by decide +kernel, by decide⟩
set_option maxRecDepth 100000 in
set_option maxHeartbeats 4000000 in
theorem sd_X4_become (l : Launch) (B : mBs) (p : Program) (e : Env) (s : State) (m : MethodId) (args : Array Value) (below : List Frame) (meth : Method) (c : Code) (Q : mQo) (X : mCx l B RX4 cX4_become 2 p s m args c) (hr : meth.sig.returnType = none) (hk : meth.locks = false) (hn : meth.name = "become") : ∀ q ∈ tb_X4_become, mSnd l B 2 p e (mRm 2 0 0) s m args below meth c (MQ below (mPo B Q) args s 0 0 (mA B)) (fun r h' => (h'.1.2.1 ≤ 0 ∧ h'.1.2.2 ≤ 0) ∧ Q r h') q.2 q.1 :=
  mF (sn_aload_n (pc := 0) (j := 1) X (by decide +kernel) rfl) <|
  mF (sn_getR (pc := 1) X fd_X4_9 (by decide +kernel)) <|
  mF (sn_aload_n (pc := 4) (j := 0) X (by decide +kernel) rfl) <|
  mF (sn_getR (pc := 5) X fd_X4_9 (by decide +kernel)) <|
  mF (sn_callSN (pc := 8) X mc_X10_copyRow (me_X10_copyRow l B) yi_X10_copyRow wd_490 wd_464 (by decide) (by decide +kernel)) <|
  mF (sn_aload_n (pc := 11) (j := 1) X (by decide +kernel) rfl) <|
  mF (sn_getR (pc := 12) X fd_X4_15 (by decide +kernel)) <|
  mF (sn_aload_n (pc := 15) (j := 0) X (by decide +kernel) rfl) <|
  mF (sn_getR (pc := 16) X fd_X4_15 (by decide +kernel)) <|
  mF (sn_callSN (pc := 19) X mc_X10_copyRow (me_X10_copyRow l B) yi_X10_copyRow wd_490 wd_464 (by decide) (by decide +kernel)) <|
  mF (sn_aload_n (pc := 22) (j := 1) X (by decide +kernel) rfl) <|
  mF (sn_getR (pc := 23) X fd_X4_18 (by decide +kernel)) <|
  mF (sn_aload_n (pc := 26) (j := 0) X (by decide +kernel) rfl) <|
  mF (sn_getR (pc := 27) X fd_X4_18 (by decide +kernel)) <|
  mF (sn_callSN (pc := 30) X mc_X10_copyRow (me_X10_copyRow l B) yi_X10_copyRow wd_490 wd_464 (by decide) (by decide +kernel)) <|
  mF (sn_aload_n (pc := 33) (j := 1) X (by decide +kernel) rfl) <|
  mF (sn_getR (pc := 34) X fd_X4_21 (by decide +kernel)) <|
  mF (sn_aload_n (pc := 37) (j := 0) X (by decide +kernel) rfl) <|
  mF (sn_getR (pc := 38) X fd_X4_21 (by decide +kernel)) <|
  mF (sn_callSN (pc := 41) X mc_X10_copyRow (me_X10_copyRow l B) yi_X10_copyRow wd_490 wd_464 (by decide) (by decide +kernel)) <|
  mF (sn_aload_n (pc := 44) (j := 1) X (by decide +kernel) rfl) <|
  mF (sn_getR (pc := 45) X fd_X4_24 (by decide +kernel)) <|
  mF (sn_aload_n (pc := 48) (j := 0) X (by decide +kernel) rfl) <|
  mF (sn_getR (pc := 49) X fd_X4_24 (by decide +kernel)) <|
  mF (sn_callSN (pc := 52) X mc_X10_copyRow (me_X10_copyRow l B) yi_X10_copyRow wd_490 wd_464 (by decide) (by decide +kernel)) <|
  mF (sn_aload_n (pc := 55) (j := 1) X (by decide +kernel) rfl) <|
  mF (sn_getR (pc := 56) X fd_X4_27 (by decide +kernel)) <|
  mF (sn_aload_n (pc := 59) (j := 0) X (by decide +kernel) rfl) <|
  mF (sn_getR (pc := 60) X fd_X4_27 (by decide +kernel)) <|
  mF (sn_callSN (pc := 63) X mc_X10_copyRow (me_X10_copyRow l B) yi_X10_copyRow wd_490 wd_464 (by decide) (by decide +kernel)) <|
  mF (sn_aload_n (pc := 66) (j := 0) X (by decide +kernel) rfl) <|
  mF (sn_aload_n (pc := 67) (j := 1) X (by decide +kernel) rfl) <|
  mF (sn_getI (pc := 68) X fd_X4_30 (by decide +kernel)) <|
  mF (sn_putI (pc := 71) X fd_X4_30 ⟨tyX4_ok, nmX4⟩ rfl rfl (by decide +kernel)) <|
  mF (sn_vret (pc := 74) X hr hk (by decide +kernel)) <|
  mF0
theorem me_X4_become (l : Launch) (B : mBs) : mMet l B yX4_become cX4_become 2 none 2 0 0 C_X4_become := mMet_of (own := RX4) (by decide) rfl (fun p e s m args below meth c Q X hr hk hn => sd_X4_become l B p e s m args below meth c Q X hr hk hn)
/-! PuppetStage$Puppet.become(LPuppetStage$Puppet;)V: 30 instructions, depth 3, makes 0 cells of 0 slots -/
def tb_X7_become : mTb := [(0, aLA 0 1), (1, aGR 7 0 4), (4, aLA 1 5), (5, aGR 7 0 8), (8, aCV 5 1 C_X5_become 11), (11, aLA 0 12), (12, aGR 7 1 15), (15, aLA 1 16), (16, aGR 7 1 19), (19, aCV 9 1 C_X9_become 22), (22, aLA 0 23), (23, aGR 7 2 26), (26, aLA 1 27), (27, aGR 7 2 30), (30, aCV 0 1 C_X0_become 33), (33, aLA 0 34), (34, aGR 7 3 37), (37, aLA 1 38), (38, aGR 7 3 41), (41, aCV 4 1 C_X4_become 44), (44, aLA 0 45), (45, aGR 7 4 48), (48, aLA 1 49), (49, aGR 7 4 52), (52, aCV 2 1 C_X2_become 55), (55, aLA 0 56), (56, aLA 1 57), (57, aGI 7 5 60), (60, aWI 7 5 63), (63, aRV)]
theorem mt_X7_become : mMT tb_X7_become :=
  mF (mn_LA _ _) <|
  mF (mn_GR _ _ _) <|
  mF (mn_LA _ _) <|
  mF (mn_GR _ _ _) <|
  mF (mn_CV _ _ mc_X5_become _) <|
  mF (mn_LA _ _) <|
  mF (mn_GR _ _ _) <|
  mF (mn_LA _ _) <|
  mF (mn_GR _ _ _) <|
  mF (mn_CV _ _ mc_X9_become _) <|
  mF (mn_LA _ _) <|
  mF (mn_GR _ _ _) <|
  mF (mn_LA _ _) <|
  mF (mn_GR _ _ _) <|
  mF (mn_CV _ _ mc_X0_become _) <|
  mF (mn_LA _ _) <|
  mF (mn_GR _ _ _) <|
  mF (mn_LA _ _) <|
  mF (mn_GR _ _ _) <|
  mF (mn_CV _ _ mc_X4_become _) <|
  mF (mn_LA _ _) <|
  mF (mn_GR _ _ _) <|
  mF (mn_LA _ _) <|
  mF (mn_GR _ _ _) <|
  mF (mn_CV _ _ mc_X2_become _) <|
  mF (mn_LA _ _) <|
  mF (mn_LA _ _) <|
  mF (mn_GI _ _ _) <|
  mF (mn_WI _ _ _) <|
  mF (mn_RV) <|
  mF0
def C_X7_become : mCo := mRun tb_X7_become 2
theorem mc_X7_become : mMC C_X7_become := mRun_mn mt_X7_become 2
theorem yi_X7_become : mYin yX7_become cX7_become 2 none 1 := ⟨wd_50, wd_458, by decide +kernel, by decide⟩
set_option maxRecDepth 100000 in
set_option maxHeartbeats 4000000 in
theorem sd_X7_become (l : Launch) (B : mBs) (p : Program) (e : Env) (s : State) (m : MethodId) (args : Array Value) (below : List Frame) (meth : Method) (c : Code) (Q : mQo) (X : mCx l B RX7 cX7_become 2 p s m args c) (hr : meth.sig.returnType = none) (hk : meth.locks = false) (hn : meth.name = "become") : ∀ q ∈ tb_X7_become, mSnd l B 2 p e (mRm 3 0 0) s m args below meth c (MQ below (mPo B Q) args s 0 0 (mA B)) (fun r h' => (h'.1.2.1 ≤ 0 ∧ h'.1.2.2 ≤ 0) ∧ Q r h') q.2 q.1 :=
  mF (sn_aload_n (pc := 0) (j := 0) X (by decide +kernel) rfl) <|
  mF (sn_getR (pc := 1) X fd_X7_12 (by decide +kernel)) <|
  mF (sn_aload_n (pc := 4) (j := 1) X (by decide +kernel) rfl) <|
  mF (sn_getR (pc := 5) X fd_X7_12 (by decide +kernel)) <|
  mF (sn_callV (pc := 8) X mc_X5_become (me_X5_become l B) yi_X5_become wd_459 wd_460 wd_461 (T := TX5) (N := 7) rfl (by decide) (by decide +kernel)) <|
  mF (sn_aload_n (pc := 11) (j := 0) X (by decide +kernel) rfl) <|
  mF (sn_getR (pc := 12) X fd_X7_21 (by decide +kernel)) <|
  mF (sn_aload_n (pc := 15) (j := 1) X (by decide +kernel) rfl) <|
  mF (sn_getR (pc := 16) X fd_X7_21 (by decide +kernel)) <|
  mF (sn_callV (pc := 19) X mc_X9_become (me_X9_become l B) yi_X9_become wd_472 wd_473 wd_474 (T := TX9) (N := 3) rfl (by decide) (by decide +kernel)) <|
  mF (sn_aload_n (pc := 22) (j := 0) X (by decide +kernel) rfl) <|
  mF (sn_getR (pc := 23) X fd_X7_28 (by decide +kernel)) <|
  mF (sn_aload_n (pc := 26) (j := 1) X (by decide +kernel) rfl) <|
  mF (sn_getR (pc := 27) X fd_X7_28 (by decide +kernel)) <|
  mF (sn_callV (pc := 30) X mc_X0_become (me_X0_become l B) yi_X0_become wd_477 wd_478 wd_479 (T := TX0) (N := 5) rfl (by decide) (by decide +kernel)) <|
  mF (sn_aload_n (pc := 33) (j := 0) X (by decide +kernel) rfl) <|
  mF (sn_getR (pc := 34) X fd_X7_35 (by decide +kernel)) <|
  mF (sn_aload_n (pc := 37) (j := 1) X (by decide +kernel) rfl) <|
  mF (sn_getR (pc := 38) X fd_X7_35 (by decide +kernel)) <|
  mF (sn_callV (pc := 41) X mc_X4_become (me_X4_become l B) yi_X4_become wd_486 wd_487 wd_488 (T := TX4) (N := 7) rfl (by decide) (by decide +kernel)) <|
  mF (sn_aload_n (pc := 44) (j := 0) X (by decide +kernel) rfl) <|
  mF (sn_getR (pc := 45) X fd_X7_42 (by decide +kernel)) <|
  mF (sn_aload_n (pc := 48) (j := 1) X (by decide +kernel) rfl) <|
  mF (sn_getR (pc := 49) X fd_X7_42 (by decide +kernel)) <|
  mF (sn_callV (pc := 52) X mc_X2_become (me_X2_become l B) yi_X2_become wd_491 wd_492 wd_493 (T := TX2) (N := 6) rfl (by decide) (by decide +kernel)) <|
  mF (sn_aload_n (pc := 55) (j := 0) X (by decide +kernel) rfl) <|
  mF (sn_aload_n (pc := 56) (j := 1) X (by decide +kernel) rfl) <|
  mF (sn_getI (pc := 57) X fd_X7_46 (by decide +kernel)) <|
  mF (sn_putI (pc := 60) X fd_X7_46 ⟨tyX7_ok, nmX7⟩ rfl rfl (by decide +kernel)) <|
  mF (sn_vret (pc := 63) X hr hk (by decide +kernel)) <|
  mF0
theorem me_X7_become (l : Launch) (B : mBs) : mMet l B yX7_become cX7_become 2 none 3 0 0 C_X7_become := mMet_of (own := RX7) (by decide) rfl (fun p e s m args below meth c Q X hr hk hn => sd_X7_become l B p e s m args below meth c Q X hr hk hn)
/-! PuppetStage$History.keep(LPuppetStage$Puppet;LPuppetStage$Puppet;)V: 31 instructions, depth 4, makes 0 cells of 0 slots -/
def tb_X3_keep : mTb := [(0, aLA 0 1), (1, aGR 3 0 4), (4, aLA 0 5), (5, aGI 3 2 8), (8, aAA 9), (9, aLA 1 10), (10, aCV 7 1 C_X7_become 13), (13, aLA 0 14), (14, aGR 3 1 17), (17, aLA 0 18), (18, aGI 3 2 21), (21, aAA 22), (22, aLA 2 23), (23, aCV 7 1 C_X7_become 26), (26, aLA 0 27), (27, aLA 0 28), (28, aGI 3 2 31), (31, aPI 1 32), (32, aB (fun x y => x + y) 33), (33, aPI 5 34), (34, aD (fun x y => x - x / y * y) 35), (35, aWI 3 2 38), (38, aLA 0 39), (39, aLA 0 40), (40, aGI 3 3 43), (43, aPI 1 44), (44, aB (fun x y => x + y) 45), (45, aPI 5 46), (46, aM2 (fun x y => if y < x then y else x) 49), (49, aWI 3 3 52), (52, aRV)]
theorem mt_X3_keep : mMT tb_X3_keep :=
  mF (mn_LA _ _) <|
  mF (mn_GR _ _ _) <|
  mF (mn_LA _ _) <|
  mF (mn_GI _ _ _) <|
  mF (mn_AA _) <|
  mF (mn_LA _ _) <|
  mF (mn_CV _ _ mc_X7_become _) <|
  mF (mn_LA _ _) <|
  mF (mn_GR _ _ _) <|
  mF (mn_LA _ _) <|
  mF (mn_GI _ _ _) <|
  mF (mn_AA _) <|
  mF (mn_LA _ _) <|
  mF (mn_CV _ _ mc_X7_become _) <|
  mF (mn_LA _ _) <|
  mF (mn_LA _ _) <|
  mF (mn_GI _ _ _) <|
  mF (mn_PI _ _) <|
  mF (mn_B _ _) <|
  mF (mn_PI _ _) <|
  mF (mn_D _ _) <|
  mF (mn_WI _ _ _) <|
  mF (mn_LA _ _) <|
  mF (mn_LA _ _) <|
  mF (mn_GI _ _ _) <|
  mF (mn_PI _ _) <|
  mF (mn_B _ _) <|
  mF (mn_PI _ _) <|
  mF (mn_M2 _ _) <|
  mF (mn_WI _ _ _) <|
  mF (mn_RV) <|
  mF0
def C_X3_keep : mCo := mRun tb_X3_keep 3
theorem mc_X3_keep : mMC C_X3_keep := mRun_mn mt_X3_keep 3
theorem yi_X3_keep : mYin yX3_keep cX3_keep 3 none 2 := ⟨wd_56, wd_454, by decide +kernel, by decide⟩
set_option maxRecDepth 100000 in
set_option maxHeartbeats 4000000 in
theorem sd_X3_keep (l : Launch) (B : mBs) (p : Program) (e : Env) (s : State) (m : MethodId) (args : Array Value) (below : List Frame) (meth : Method) (c : Code) (Q : mQo) (X : mCx l B RX3 cX3_keep 3 p s m args c) (hr : meth.sig.returnType = none) (hk : meth.locks = false) (hn : meth.name = "keep") : ∀ q ∈ tb_X3_keep, mSnd l B 3 p e (mRm 4 0 0) s m args below meth c (MQ below (mPo B Q) args s 0 0 (mA B)) (fun r h' => (h'.1.2.1 ≤ 0 ∧ h'.1.2.2 ≤ 0) ∧ Q r h') q.2 q.1 :=
  mF (sn_aload_n (pc := 0) (j := 0) X (by decide +kernel) rfl) <|
  mF (sn_getR (pc := 1) X fd_X3_11 (by decide +kernel)) <|
  mF (sn_aload_n (pc := 4) (j := 0) X (by decide +kernel) rfl) <|
  mF (sn_getI (pc := 5) X fd_X3_20 (by decide +kernel)) <|
  mF (sn_aaload (pc := 8) X (by decide +kernel)) <|
  mF (sn_aload_n (pc := 9) (j := 1) X (by decide +kernel) rfl) <|
  mF (sn_callV (pc := 10) X mc_X7_become (me_X7_become l B) yi_X7_become wd_455 wd_456 wd_457 (T := TX7) (N := 6) rfl (by decide) (by decide +kernel)) <|
  mF (sn_aload_n (pc := 13) (j := 0) X (by decide +kernel) rfl) <|
  mF (sn_getR (pc := 14) X fd_X3_17 (by decide +kernel)) <|
  mF (sn_aload_n (pc := 17) (j := 0) X (by decide +kernel) rfl) <|
  mF (sn_getI (pc := 18) X fd_X3_20 (by decide +kernel)) <|
  mF (sn_aaload (pc := 21) X (by decide +kernel)) <|
  mF (sn_aload_n (pc := 22) (j := 2) X (by decide +kernel) rfl) <|
  mF (sn_callV (pc := 23) X mc_X7_become (me_X7_become l B) yi_X7_become wd_455 wd_456 wd_457 (T := TX7) (N := 6) rfl (by decide) (by decide +kernel)) <|
  mF (sn_aload_n (pc := 26) (j := 0) X (by decide +kernel) rfl) <|
  mF (sn_aload_n (pc := 27) (j := 0) X (by decide +kernel) rfl) <|
  mF (sn_getI (pc := 28) X fd_X3_20 (by decide +kernel)) <|
  mF (sn_iconst (pc := 31) (n := 1) X (by decide +kernel) (by decide)) <|
  mF (sn_iadd (pc := 32) X (by decide +kernel)) <|
  mF (sn_iconst (pc := 33) (n := 5) X (by decide +kernel) (by decide)) <|
  mF (sn_irem (pc := 34) X (by decide +kernel)) <|
  mF (sn_putI (pc := 35) X fd_X3_20 ⟨tyX3_ok, nmX3⟩ rfl rfl (by decide +kernel)) <|
  mF (sn_aload_n (pc := 38) (j := 0) X (by decide +kernel) rfl) <|
  mF (sn_aload_n (pc := 39) (j := 0) X (by decide +kernel) rfl) <|
  mF (sn_getI (pc := 40) X fd_X3_24 (by decide +kernel)) <|
  mF (sn_iconst (pc := 43) (n := 1) X (by decide +kernel) (by decide)) <|
  mF (sn_iadd (pc := 44) X (by decide +kernel)) <|
  mF (sn_iconst (pc := 45) (n := 5) X (by decide +kernel) (by decide)) <|
  mF (sn_min (pc := 46) X (by decide) wd_496 wd_467 wd_61 wd_468 (by decide +kernel)) <|
  mF (sn_putI (pc := 49) X fd_X3_24 ⟨tyX3_ok, nmX3⟩ rfl rfl (by decide +kernel)) <|
  mF (sn_vret (pc := 52) X hr hk (by decide +kernel)) <|
  mF0
theorem me_X3_keep (l : Launch) (B : mBs) : mMet l B yX3_keep cX3_keep 3 none 4 0 0 C_X3_keep := mMet_of (own := RX3) (by decide) rfl (fun p e s m args below meth c Q X hr hk hn => sd_X3_keep l B p e s m args below meth c Q X hr hk hn)
/-! PuppetStage$History.takeBack(LPuppetStage$Puppet;LPuppetStage$Puppet;)V: 31 instructions, depth 4, makes 0 cells of 0 slots -/
def tb_X3_takeBack : mTb := [(0, aLA 0 1), (1, aLA 0 2), (2, aGI 3 2 5), (5, aPI 5 6), (6, aB (fun x y => x + y) 7), (7, aPI 1 8), (8, aB (fun x y => x - y) 9), (9, aPI 5 10), (10, aD (fun x y => x - x / y * y) 11), (11, aWI 3 2 14), (14, aLA 1 15), (15, aLA 0 16), (16, aGR 3 0 19), (19, aLA 0 20), (20, aGI 3 2 23), (23, aAA 24), (24, aCV 7 1 C_X7_become 27), (27, aLA 2 28), (28, aLA 0 29), (29, aGR 3 1 32), (32, aLA 0 33), (33, aGI 3 2 36), (36, aAA 37), (37, aCV 7 1 C_X7_become 40), (40, aLA 0 41), (41, aDup 42), (42, aGI 3 3 45), (45, aPI 1 46), (46, aB (fun x y => x - y) 47), (47, aWI 3 3 50), (50, aRV)]
theorem mt_X3_takeBack : mMT tb_X3_takeBack :=
  mF (mn_LA _ _) <|
  mF (mn_LA _ _) <|
  mF (mn_GI _ _ _) <|
  mF (mn_PI _ _) <|
  mF (mn_B _ _) <|
  mF (mn_PI _ _) <|
  mF (mn_B _ _) <|
  mF (mn_PI _ _) <|
  mF (mn_D _ _) <|
  mF (mn_WI _ _ _) <|
  mF (mn_LA _ _) <|
  mF (mn_LA _ _) <|
  mF (mn_GR _ _ _) <|
  mF (mn_LA _ _) <|
  mF (mn_GI _ _ _) <|
  mF (mn_AA _) <|
  mF (mn_CV _ _ mc_X7_become _) <|
  mF (mn_LA _ _) <|
  mF (mn_LA _ _) <|
  mF (mn_GR _ _ _) <|
  mF (mn_LA _ _) <|
  mF (mn_GI _ _ _) <|
  mF (mn_AA _) <|
  mF (mn_CV _ _ mc_X7_become _) <|
  mF (mn_LA _ _) <|
  mF (mn_Dup _) <|
  mF (mn_GI _ _ _) <|
  mF (mn_PI _ _) <|
  mF (mn_B _ _) <|
  mF (mn_WI _ _ _) <|
  mF (mn_RV) <|
  mF0
def C_X3_takeBack : mCo := mRun tb_X3_takeBack 3
theorem mc_X3_takeBack : mMC C_X3_takeBack := mRun_mn mt_X3_takeBack 3
theorem yi_X3_takeBack : mYin yX3_takeBack cX3_takeBack 3 none 2 := ⟨wd_56, wd_897, by decide +kernel, by decide⟩
set_option maxRecDepth 100000 in
set_option maxHeartbeats 4000000 in
theorem sd_X3_takeBack (l : Launch) (B : mBs) (p : Program) (e : Env) (s : State) (m : MethodId) (args : Array Value) (below : List Frame) (meth : Method) (c : Code) (Q : mQo) (X : mCx l B RX3 cX3_takeBack 3 p s m args c) (hr : meth.sig.returnType = none) (hk : meth.locks = false) (hn : meth.name = "takeBack") : ∀ q ∈ tb_X3_takeBack, mSnd l B 3 p e (mRm 4 0 0) s m args below meth c (MQ below (mPo B Q) args s 0 0 (mA B)) (fun r h' => (h'.1.2.1 ≤ 0 ∧ h'.1.2.2 ≤ 0) ∧ Q r h') q.2 q.1 :=
  mF (sn_aload_n (pc := 0) (j := 0) X (by decide +kernel) rfl) <|
  mF (sn_aload_n (pc := 1) (j := 0) X (by decide +kernel) rfl) <|
  mF (sn_getI (pc := 2) X fd_X3_20 (by decide +kernel)) <|
  mF (sn_iconst (pc := 5) (n := 5) X (by decide +kernel) (by decide)) <|
  mF (sn_iadd (pc := 6) X (by decide +kernel)) <|
  mF (sn_iconst (pc := 7) (n := 1) X (by decide +kernel) (by decide)) <|
  mF (sn_isub (pc := 8) X (by decide +kernel)) <|
  mF (sn_iconst (pc := 9) (n := 5) X (by decide +kernel) (by decide)) <|
  mF (sn_irem (pc := 10) X (by decide +kernel)) <|
  mF (sn_putI (pc := 11) X fd_X3_20 ⟨tyX3_ok, nmX3⟩ rfl rfl (by decide +kernel)) <|
  mF (sn_aload_n (pc := 14) (j := 1) X (by decide +kernel) rfl) <|
  mF (sn_aload_n (pc := 15) (j := 0) X (by decide +kernel) rfl) <|
  mF (sn_getR (pc := 16) X fd_X3_11 (by decide +kernel)) <|
  mF (sn_aload_n (pc := 19) (j := 0) X (by decide +kernel) rfl) <|
  mF (sn_getI (pc := 20) X fd_X3_20 (by decide +kernel)) <|
  mF (sn_aaload (pc := 23) X (by decide +kernel)) <|
  mF (sn_callV (pc := 24) X mc_X7_become (me_X7_become l B) yi_X7_become wd_455 wd_456 wd_457 (T := TX7) (N := 6) rfl (by decide) (by decide +kernel)) <|
  mF (sn_aload_n (pc := 27) (j := 2) X (by decide +kernel) rfl) <|
  mF (sn_aload_n (pc := 28) (j := 0) X (by decide +kernel) rfl) <|
  mF (sn_getR (pc := 29) X fd_X3_17 (by decide +kernel)) <|
  mF (sn_aload_n (pc := 32) (j := 0) X (by decide +kernel) rfl) <|
  mF (sn_getI (pc := 33) X fd_X3_20 (by decide +kernel)) <|
  mF (sn_aaload (pc := 36) X (by decide +kernel)) <|
  mF (sn_callV (pc := 37) X mc_X7_become (me_X7_become l B) yi_X7_become wd_455 wd_456 wd_457 (T := TX7) (N := 6) rfl (by decide) (by decide +kernel)) <|
  mF (sn_aload_n (pc := 40) (j := 0) X (by decide +kernel) rfl) <|
  mF (sn_dup (pc := 41) X (by decide +kernel)) <|
  mF (sn_getI (pc := 42) X fd_X3_24 (by decide +kernel)) <|
  mF (sn_iconst (pc := 45) (n := 1) X (by decide +kernel) (by decide)) <|
  mF (sn_isub (pc := 46) X (by decide +kernel)) <|
  mF (sn_putI (pc := 47) X fd_X3_24 ⟨tyX3_ok, nmX3⟩ rfl rfl (by decide +kernel)) <|
  mF (sn_vret (pc := 50) X hr hk (by decide +kernel)) <|
  mF0
theorem me_X3_takeBack (l : Launch) (B : mBs) : mMet l B yX3_takeBack cX3_takeBack 3 none 4 0 0 C_X3_takeBack := mMet_of (own := RX3) (by decide) rfl (fun p e s m args below meth c Q X hr hk hn => sd_X3_takeBack l B p e s m args below meth c Q X hr hk hn)
/-! PuppetStage$Holds.has(I)Z: 10 instructions, depth 0, makes 0 cells of 0 slots -/
def tb_X4_has : mTb := [(0, aLI 1 1), (1, aIf (fun x => x < 0) 16 4), (4, aLI 1 5), (5, aLA 0 6), (6, aGI 4 6 9), (9, aIc (fun x y => y ≤ x) 16 12), (12, aPI 1 13), (13, aGo 17), (16, aPI 0 17), (17, aRZ)]
theorem mt_X4_has : mMT tb_X4_has :=
  mF (mn_LI _ _) <|
  mF (mn_If _ _ _) <|
  mF (mn_LI _ _) <|
  mF (mn_LA _ _) <|
  mF (mn_GI _ _ _) <|
  mF (mn_Ic _ _ _) <|
  mF (mn_PI _ _) <|
  mF (mn_Go _) <|
  mF (mn_PI _ _) <|
  mF (mn_RZ) <|
  mF0
def C_X4_has : mCo := mRun tb_X4_has 2
theorem mc_X4_has : mMC C_X4_has := mRun_mn mt_X4_has 2
theorem yi_X4_has : mYin yX4_has cX4_has 2 (some .boolean) 1 := ⟨wd_54, wd_633, by decide +kernel, by decide⟩
set_option maxRecDepth 100000 in
set_option maxHeartbeats 4000000 in
theorem sd_X4_has (l : Launch) (B : mBs) (p : Program) (e : Env) (s : State) (m : MethodId) (args : Array Value) (below : List Frame) (meth : Method) (c : Code) (Q : mQo) (X : mCx l B RX4 cX4_has 2 p s m args c) (hr : meth.sig.returnType = (some .boolean)) (hk : meth.locks = false) (hn : meth.name = "has") : ∀ q ∈ tb_X4_has, mSnd l B 2 p e (mRm 0 0 0) s m args below meth c (MQ below (mPo B Q) args s 0 0 (mA B)) (fun r h' => (h'.1.2.1 ≤ 0 ∧ h'.1.2.2 ≤ 0) ∧ Q r h') q.2 q.1 :=
  mF (sn_iload_n (pc := 0) (j := 1) X (by decide +kernel) rfl) <|
  mF (sn_if_lt (pc := 1) (off := 15) X (by decide +kernel) (by decide)) <|
  mF (sn_iload_n (pc := 4) (j := 1) X (by decide +kernel) rfl) <|
  mF (sn_aload_n (pc := 5) (j := 0) X (by decide +kernel) rfl) <|
  mF (sn_getI (pc := 6) X fd_X4_30 (by decide +kernel)) <|
  mF (sn_icmp_ge (pc := 9) (off := 7) X (by decide +kernel) (by decide)) <|
  mF (sn_iconst (pc := 12) (n := 1) X (by decide +kernel) (by decide)) <|
  mF (sn_goto (pc := 13) (off := 4) X (by decide +kernel) (by decide)) <|
  mF (sn_iconst (pc := 16) (n := 0) X (by decide +kernel) (by decide)) <|
  mF (sn_zret (pc := 17) X hr hk (by decide +kernel)) <|
  mF0
theorem me_X4_has (l : Launch) (B : mBs) : mMet l B yX4_has cX4_has 2 (some .boolean) 0 0 0 C_X4_has := mMet_of (own := RX4) (by decide) rfl (fun p e s m args below meth c Q X hr hk hn => sd_X4_has l B p e s m args below meth c Q X hr hk hn)
/-! PuppetStage$Holds.add(IIIII)I: 41 instructions, depth 0, makes 0 cells of 0 slots -/
def tb_X4_add : mTb := [(0, aLA 0 1), (1, aGI 4 6 4), (4, aSI 6 6), (6, aLA 0 7), (7, aGR 4 0 10), (10, aLI 6 12), (12, aLI 1 13), (13, aIS 14), (14, aLA 0 15), (15, aGR 4 1 18), (18, aLI 6 20), (20, aLI 2 21), (21, aIS 22), (22, aLA 0 23), (23, aGR 4 2 26), (26, aLI 6 28), (28, aLI 3 29), (29, aIS 30), (30, aLA 0 31), (31, aGR 4 3 34), (34, aLI 6 36), (36, aLI 4 38), (38, aIS 39), (39, aLA 0 40), (40, aGR 4 4 43), (43, aLI 6 45), (45, aLI 5 47), (47, aIS 48), (48, aLA 0 49), (49, aGR 4 5 52), (52, aLI 6 54), (54, aPI 0 55), (55, aIS 56), (56, aLA 0 57), (57, aDup 58), (58, aGI 4 6 61), (61, aPI 1 62), (62, aB (fun x y => x + y) 63), (63, aWI 4 6 66), (66, aLI 6 68), (68, aRI)]
theorem mt_X4_add : mMT tb_X4_add :=
  mF (mn_LA _ _) <|
  mF (mn_GI _ _ _) <|
  mF (mn_SI _ _) <|
  mF (mn_LA _ _) <|
  mF (mn_GR _ _ _) <|
  mF (mn_LI _ _) <|
  mF (mn_LI _ _) <|
  mF (mn_IS _) <|
  mF (mn_LA _ _) <|
  mF (mn_GR _ _ _) <|
  mF (mn_LI _ _) <|
  mF (mn_LI _ _) <|
  mF (mn_IS _) <|
  mF (mn_LA _ _) <|
  mF (mn_GR _ _ _) <|
  mF (mn_LI _ _) <|
  mF (mn_LI _ _) <|
  mF (mn_IS _) <|
  mF (mn_LA _ _) <|
  mF (mn_GR _ _ _) <|
  mF (mn_LI _ _) <|
  mF (mn_LI _ _) <|
  mF (mn_IS _) <|
  mF (mn_LA _ _) <|
  mF (mn_GR _ _ _) <|
  mF (mn_LI _ _) <|
  mF (mn_LI _ _) <|
  mF (mn_IS _) <|
  mF (mn_LA _ _) <|
  mF (mn_GR _ _ _) <|
  mF (mn_LI _ _) <|
  mF (mn_PI _ _) <|
  mF (mn_IS _) <|
  mF (mn_LA _ _) <|
  mF (mn_Dup _) <|
  mF (mn_GI _ _ _) <|
  mF (mn_PI _ _) <|
  mF (mn_B _ _) <|
  mF (mn_WI _ _ _) <|
  mF (mn_LI _ _) <|
  mF (mn_RI) <|
  mF0
def C_X4_add : mCo := mRun tb_X4_add 7
theorem mc_X4_add : mMC C_X4_add := mRun_mn mt_X4_add 7
theorem yi_X4_add : mYin yX4_add cX4_add 7 (some .int) 5 := ⟨wd_54, wd_625, by decide +kernel, by decide⟩
set_option maxRecDepth 100000 in
set_option maxHeartbeats 4000000 in
theorem sd_X4_add (l : Launch) (B : mBs) (p : Program) (e : Env) (s : State) (m : MethodId) (args : Array Value) (below : List Frame) (meth : Method) (c : Code) (Q : mQo) (X : mCx l B RX4 cX4_add 7 p s m args c) (hr : meth.sig.returnType = (some .int)) (hk : meth.locks = false) (hn : meth.name = "add") : ∀ q ∈ tb_X4_add, mSnd l B 7 p e (mRm 0 0 0) s m args below meth c (MQ below (mPo B Q) args s 0 0 (mA B)) (fun r h' => (h'.1.2.1 ≤ 0 ∧ h'.1.2.2 ≤ 0) ∧ Q r h') q.2 q.1 :=
  mF (sn_aload_n (pc := 0) (j := 0) X (by decide +kernel) rfl) <|
  mF (sn_getI (pc := 1) X fd_X4_30 (by decide +kernel)) <|
  mF (sn_istore (pc := 4) X (by decide +kernel) (by decide)) <|
  mF (sn_aload_n (pc := 6) (j := 0) X (by decide +kernel) rfl) <|
  mF (sn_getR (pc := 7) X fd_X4_9 (by decide +kernel)) <|
  mF (sn_iload (pc := 10) X (by decide +kernel)) <|
  mF (sn_iload_n (pc := 12) (j := 1) X (by decide +kernel) rfl) <|
  mF (sn_iastore (pc := 13) X (by decide +kernel)) <|
  mF (sn_aload_n (pc := 14) (j := 0) X (by decide +kernel) rfl) <|
  mF (sn_getR (pc := 15) X fd_X4_15 (by decide +kernel)) <|
  mF (sn_iload (pc := 18) X (by decide +kernel)) <|
  mF (sn_iload_n (pc := 20) (j := 2) X (by decide +kernel) rfl) <|
  mF (sn_iastore (pc := 21) X (by decide +kernel)) <|
  mF (sn_aload_n (pc := 22) (j := 0) X (by decide +kernel) rfl) <|
  mF (sn_getR (pc := 23) X fd_X4_18 (by decide +kernel)) <|
  mF (sn_iload (pc := 26) X (by decide +kernel)) <|
  mF (sn_iload_n (pc := 28) (j := 3) X (by decide +kernel) rfl) <|
  mF (sn_iastore (pc := 29) X (by decide +kernel)) <|
  mF (sn_aload_n (pc := 30) (j := 0) X (by decide +kernel) rfl) <|
  mF (sn_getR (pc := 31) X fd_X4_21 (by decide +kernel)) <|
  mF (sn_iload (pc := 34) X (by decide +kernel)) <|
  mF (sn_iload (pc := 36) X (by decide +kernel)) <|
  mF (sn_iastore (pc := 38) X (by decide +kernel)) <|
  mF (sn_aload_n (pc := 39) (j := 0) X (by decide +kernel) rfl) <|
  mF (sn_getR (pc := 40) X fd_X4_24 (by decide +kernel)) <|
  mF (sn_iload (pc := 43) X (by decide +kernel)) <|
  mF (sn_iload (pc := 45) X (by decide +kernel)) <|
  mF (sn_iastore (pc := 47) X (by decide +kernel)) <|
  mF (sn_aload_n (pc := 48) (j := 0) X (by decide +kernel) rfl) <|
  mF (sn_getR (pc := 49) X fd_X4_27 (by decide +kernel)) <|
  mF (sn_iload (pc := 52) X (by decide +kernel)) <|
  mF (sn_iconst (pc := 54) (n := 0) X (by decide +kernel) (by decide)) <|
  mF (sn_iastore (pc := 55) X (by decide +kernel)) <|
  mF (sn_aload_n (pc := 56) (j := 0) X (by decide +kernel) rfl) <|
  mF (sn_dup (pc := 57) X (by decide +kernel)) <|
  mF (sn_getI (pc := 58) X fd_X4_30 (by decide +kernel)) <|
  mF (sn_iconst (pc := 61) (n := 1) X (by decide +kernel) (by decide)) <|
  mF (sn_iadd (pc := 62) X (by decide +kernel)) <|
  mF (sn_putI (pc := 63) X fd_X4_30 ⟨tyX4_ok, nmX4⟩ rfl rfl (by decide +kernel)) <|
  mF (sn_iload (pc := 66) X (by decide +kernel)) <|
  mF (sn_iret (pc := 68) X hr hk (by decide +kernel)) <|
  mF0
theorem me_X4_add (l : Launch) (B : mBs) : mMet l B yX4_add cX4_add 7 (some .int) 0 0 0 C_X4_add := mMet_of (own := RX4) (by decide) rfl (fun p e s m args below meth c Q X hr hk hn => sd_X4_add l B p e s m args below meth c Q X hr hk hn)
/-! PuppetStage$Holds.closeGap([II)V: 19 instructions, depth 0, makes 0 cells of 0 slots -/
def tb_X4_closeGap : mTb := [(0, aLI 2 1), (1, aSI 3 2), (2, aLI 3 3), (3, aPI 1 4), (4, aB (fun x y => x + y) 5), (5, aLA 0 6), (6, aGI 4 6 9), (9, aIc (fun x y => y ≤ x) 26 12), (12, aLA 1 13), (13, aLI 3 14), (14, aLA 1 15), (15, aLI 3 16), (16, aPI 1 17), (17, aB (fun x y => x + y) 18), (18, aIA 19), (19, aIS 20), (20, aInc 3 1 23), (23, aGo 2), (26, aRV)]
theorem mt_X4_closeGap : mMT tb_X4_closeGap :=
  mF (mn_LI _ _) <|
  mF (mn_SI _ _) <|
  mF (mn_LI _ _) <|
  mF (mn_PI _ _) <|
  mF (mn_B _ _) <|
  mF (mn_LA _ _) <|
  mF (mn_GI _ _ _) <|
  mF (mn_Ic _ _ _) <|
  mF (mn_LA _ _) <|
  mF (mn_LI _ _) <|
  mF (mn_LA _ _) <|
  mF (mn_LI _ _) <|
  mF (mn_PI _ _) <|
  mF (mn_B _ _) <|
  mF (mn_IA _) <|
  mF (mn_IS _) <|
  mF (mn_Inc _ _ _) <|
  mF (mn_Go _) <|
  mF (mn_RV) <|
  mF0
def C_X4_closeGap : mCo := mRun tb_X4_closeGap 4
theorem mc_X4_closeGap : mMC C_X4_closeGap := mRun_mn mt_X4_closeGap 4
theorem yi_X4_closeGap : mYin yX4_closeGap cX4_closeGap 4 none 2 := ⟨wd_54, wd_516, by decide +kernel, by decide⟩
set_option maxRecDepth 100000 in
set_option maxHeartbeats 4000000 in
theorem sd_X4_closeGap (l : Launch) (B : mBs) (p : Program) (e : Env) (s : State) (m : MethodId) (args : Array Value) (below : List Frame) (meth : Method) (c : Code) (Q : mQo) (X : mCx l B RX4 cX4_closeGap 4 p s m args c) (hr : meth.sig.returnType = none) (hk : meth.locks = false) (hn : meth.name = "closeGap") : ∀ q ∈ tb_X4_closeGap, mSnd l B 4 p e (mRm 0 0 0) s m args below meth c (MQ below (mPo B Q) args s 0 0 (mA B)) (fun r h' => (h'.1.2.1 ≤ 0 ∧ h'.1.2.2 ≤ 0) ∧ Q r h') q.2 q.1 :=
  mF (sn_iload_n (pc := 0) (j := 2) X (by decide +kernel) rfl) <|
  mF (sn_istore_n (pc := 1) (j := 3) X (by decide +kernel) rfl (by decide)) <|
  mF (sn_iload_n (pc := 2) (j := 3) X (by decide +kernel) rfl) <|
  mF (sn_iconst (pc := 3) (n := 1) X (by decide +kernel) (by decide)) <|
  mF (sn_iadd (pc := 4) X (by decide +kernel)) <|
  mF (sn_aload_n (pc := 5) (j := 0) X (by decide +kernel) rfl) <|
  mF (sn_getI (pc := 6) X fd_X4_30 (by decide +kernel)) <|
  mF (sn_icmp_ge (pc := 9) (off := 17) X (by decide +kernel) (by decide)) <|
  mF (sn_aload_n (pc := 12) (j := 1) X (by decide +kernel) rfl) <|
  mF (sn_iload_n (pc := 13) (j := 3) X (by decide +kernel) rfl) <|
  mF (sn_aload_n (pc := 14) (j := 1) X (by decide +kernel) rfl) <|
  mF (sn_iload_n (pc := 15) (j := 3) X (by decide +kernel) rfl) <|
  mF (sn_iconst (pc := 16) (n := 1) X (by decide +kernel) (by decide)) <|
  mF (sn_iadd (pc := 17) X (by decide +kernel)) <|
  mF (sn_iaload (pc := 18) X (by decide +kernel)) <|
  mF (sn_iastore (pc := 19) X (by decide +kernel)) <|
  mF (sn_iinc (pc := 20) (n := 1) X (by decide +kernel) (by decide) (by decide)) <|
  mF (sn_goto (pc := 23) (off := (-21)) X (by decide +kernel) (by decide)) <|
  mF (sn_vret (pc := 26) X hr hk (by decide +kernel)) <|
  mF0
theorem me_X4_closeGap (l : Launch) (B : mBs) : mMet l B yX4_closeGap cX4_closeGap 4 none 0 0 0 C_X4_closeGap := mMet_of (own := RX4) (by decide) rfl (fun p e s m args below meth c Q X hr hk hn => sd_X4_closeGap l B p e s m args below meth c Q X hr hk hn)
/-! PuppetStage$Holds.remove(I)V: 37 instructions, depth 1, makes 0 cells of 0 slots -/
def tb_X4_remove : mTb := [(0, aLA 0 1), (1, aLA 0 2), (2, aGR 4 0 5), (5, aLI 1 6), (6, aCV 4 2 C_X4_closeGap 9), (9, aLA 0 10), (10, aLA 0 11), (11, aGR 4 1 14), (14, aLI 1 15), (15, aCV 4 2 C_X4_closeGap 18), (18, aLA 0 19), (19, aLA 0 20), (20, aGR 4 2 23), (23, aLI 1 24), (24, aCV 4 2 C_X4_closeGap 27), (27, aLA 0 28), (28, aLA 0 29), (29, aGR 4 3 32), (32, aLI 1 33), (33, aCV 4 2 C_X4_closeGap 36), (36, aLA 0 37), (37, aLA 0 38), (38, aGR 4 4 41), (41, aLI 1 42), (42, aCV 4 2 C_X4_closeGap 45), (45, aLA 0 46), (46, aLA 0 47), (47, aGR 4 5 50), (50, aLI 1 51), (51, aCV 4 2 C_X4_closeGap 54), (54, aLA 0 55), (55, aDup 56), (56, aGI 4 6 59), (59, aPI 1 60), (60, aB (fun x y => x - y) 61), (61, aWI 4 6 64), (64, aRV)]
theorem mt_X4_remove : mMT tb_X4_remove :=
  mF (mn_LA _ _) <|
  mF (mn_LA _ _) <|
  mF (mn_GR _ _ _) <|
  mF (mn_LI _ _) <|
  mF (mn_CV _ _ mc_X4_closeGap _) <|
  mF (mn_LA _ _) <|
  mF (mn_LA _ _) <|
  mF (mn_GR _ _ _) <|
  mF (mn_LI _ _) <|
  mF (mn_CV _ _ mc_X4_closeGap _) <|
  mF (mn_LA _ _) <|
  mF (mn_LA _ _) <|
  mF (mn_GR _ _ _) <|
  mF (mn_LI _ _) <|
  mF (mn_CV _ _ mc_X4_closeGap _) <|
  mF (mn_LA _ _) <|
  mF (mn_LA _ _) <|
  mF (mn_GR _ _ _) <|
  mF (mn_LI _ _) <|
  mF (mn_CV _ _ mc_X4_closeGap _) <|
  mF (mn_LA _ _) <|
  mF (mn_LA _ _) <|
  mF (mn_GR _ _ _) <|
  mF (mn_LI _ _) <|
  mF (mn_CV _ _ mc_X4_closeGap _) <|
  mF (mn_LA _ _) <|
  mF (mn_LA _ _) <|
  mF (mn_GR _ _ _) <|
  mF (mn_LI _ _) <|
  mF (mn_CV _ _ mc_X4_closeGap _) <|
  mF (mn_LA _ _) <|
  mF (mn_Dup _) <|
  mF (mn_GI _ _ _) <|
  mF (mn_PI _ _) <|
  mF (mn_B _ _) <|
  mF (mn_WI _ _ _) <|
  mF (mn_RV) <|
  mF0
def C_X4_remove : mCo := mRun tb_X4_remove 2
theorem mc_X4_remove : mMC C_X4_remove := mRun_mn mt_X4_remove 2
theorem yi_X4_remove : mYin yX4_remove cX4_remove 2 none 1 := ⟨wd_54, wd_512, by decide +kernel, by decide⟩
set_option maxRecDepth 100000 in
set_option maxHeartbeats 4000000 in
theorem sd_X4_remove (l : Launch) (B : mBs) (p : Program) (e : Env) (s : State) (m : MethodId) (args : Array Value) (below : List Frame) (meth : Method) (c : Code) (Q : mQo) (X : mCx l B RX4 cX4_remove 2 p s m args c) (hr : meth.sig.returnType = none) (hk : meth.locks = false) (hn : meth.name = "remove") : ∀ q ∈ tb_X4_remove, mSnd l B 2 p e (mRm 1 0 0) s m args below meth c (MQ below (mPo B Q) args s 0 0 (mA B)) (fun r h' => (h'.1.2.1 ≤ 0 ∧ h'.1.2.2 ≤ 0) ∧ Q r h') q.2 q.1 :=
  mF (sn_aload_n (pc := 0) (j := 0) X (by decide +kernel) rfl) <|
  mF (sn_aload_n (pc := 1) (j := 0) X (by decide +kernel) rfl) <|
  mF (sn_getR (pc := 2) X fd_X4_9 (by decide +kernel)) <|
  mF (sn_iload_n (pc := 5) (j := 1) X (by decide +kernel) rfl) <|
  mF (sn_callV (pc := 6) X mc_X4_closeGap (me_X4_closeGap l B) yi_X4_closeGap wd_513 wd_515 wd_1 (T := TX4) (N := 7) rfl (by decide) (by decide +kernel)) <|
  mF (sn_aload_n (pc := 9) (j := 0) X (by decide +kernel) rfl) <|
  mF (sn_aload_n (pc := 10) (j := 0) X (by decide +kernel) rfl) <|
  mF (sn_getR (pc := 11) X fd_X4_15 (by decide +kernel)) <|
  mF (sn_iload_n (pc := 14) (j := 1) X (by decide +kernel) rfl) <|
  mF (sn_callV (pc := 15) X mc_X4_closeGap (me_X4_closeGap l B) yi_X4_closeGap wd_513 wd_515 wd_1 (T := TX4) (N := 7) rfl (by decide) (by decide +kernel)) <|
  mF (sn_aload_n (pc := 18) (j := 0) X (by decide +kernel) rfl) <|
  mF (sn_aload_n (pc := 19) (j := 0) X (by decide +kernel) rfl) <|
  mF (sn_getR (pc := 20) X fd_X4_18 (by decide +kernel)) <|
  mF (sn_iload_n (pc := 23) (j := 1) X (by decide +kernel) rfl) <|
  mF (sn_callV (pc := 24) X mc_X4_closeGap (me_X4_closeGap l B) yi_X4_closeGap wd_513 wd_515 wd_1 (T := TX4) (N := 7) rfl (by decide) (by decide +kernel)) <|
  mF (sn_aload_n (pc := 27) (j := 0) X (by decide +kernel) rfl) <|
  mF (sn_aload_n (pc := 28) (j := 0) X (by decide +kernel) rfl) <|
  mF (sn_getR (pc := 29) X fd_X4_21 (by decide +kernel)) <|
  mF (sn_iload_n (pc := 32) (j := 1) X (by decide +kernel) rfl) <|
  mF (sn_callV (pc := 33) X mc_X4_closeGap (me_X4_closeGap l B) yi_X4_closeGap wd_513 wd_515 wd_1 (T := TX4) (N := 7) rfl (by decide) (by decide +kernel)) <|
  mF (sn_aload_n (pc := 36) (j := 0) X (by decide +kernel) rfl) <|
  mF (sn_aload_n (pc := 37) (j := 0) X (by decide +kernel) rfl) <|
  mF (sn_getR (pc := 38) X fd_X4_24 (by decide +kernel)) <|
  mF (sn_iload_n (pc := 41) (j := 1) X (by decide +kernel) rfl) <|
  mF (sn_callV (pc := 42) X mc_X4_closeGap (me_X4_closeGap l B) yi_X4_closeGap wd_513 wd_515 wd_1 (T := TX4) (N := 7) rfl (by decide) (by decide +kernel)) <|
  mF (sn_aload_n (pc := 45) (j := 0) X (by decide +kernel) rfl) <|
  mF (sn_aload_n (pc := 46) (j := 0) X (by decide +kernel) rfl) <|
  mF (sn_getR (pc := 47) X fd_X4_27 (by decide +kernel)) <|
  mF (sn_iload_n (pc := 50) (j := 1) X (by decide +kernel) rfl) <|
  mF (sn_callV (pc := 51) X mc_X4_closeGap (me_X4_closeGap l B) yi_X4_closeGap wd_513 wd_515 wd_1 (T := TX4) (N := 7) rfl (by decide) (by decide +kernel)) <|
  mF (sn_aload_n (pc := 54) (j := 0) X (by decide +kernel) rfl) <|
  mF (sn_dup (pc := 55) X (by decide +kernel)) <|
  mF (sn_getI (pc := 56) X fd_X4_30 (by decide +kernel)) <|
  mF (sn_iconst (pc := 59) (n := 1) X (by decide +kernel) (by decide)) <|
  mF (sn_isub (pc := 60) X (by decide +kernel)) <|
  mF (sn_putI (pc := 61) X fd_X4_30 ⟨tyX4_ok, nmX4⟩ rfl rfl (by decide +kernel)) <|
  mF (sn_vret (pc := 64) X hr hk (by decide +kernel)) <|
  mF0
theorem me_X4_remove (l : Launch) (B : mBs) : mMet l B yX4_remove cX4_remove 2 none 1 0 0 C_X4_remove := mMet_of (own := RX4) (by decide) rfl (fun p e s m args below meth c Q X hr hk hn => sd_X4_remove l B p e s m args below meth c Q X hr hk hn)
/-! PuppetStage$Holds.removeAllOn(I)V: 19 instructions, depth 2, makes 0 cells of 0 slots -/
def tb_X4_removeAllOn : mTb := [(0, aLA 0 1), (1, aGI 4 6 4), (4, aPI 1 5), (5, aB (fun x y => x - y) 6), (6, aSI 2 7), (7, aLI 2 8), (8, aIf (fun x => x < 0) 32 11), (11, aLA 0 12), (12, aGR 4 2 15), (15, aLI 2 16), (16, aIA 17), (17, aLI 1 18), (18, aIc (fun x y => x = y) 21 26), (21, aLA 0 22), (22, aLI 2 23), (23, aCV 4 1 C_X4_remove 26), (26, aInc 2 (-1) 29), (29, aGo 7), (32, aRV)]
theorem mt_X4_removeAllOn : mMT tb_X4_removeAllOn :=
  mF (mn_LA _ _) <|
  mF (mn_GI _ _ _) <|
  mF (mn_PI _ _) <|
  mF (mn_B _ _) <|
  mF (mn_SI _ _) <|
  mF (mn_LI _ _) <|
  mF (mn_If _ _ _) <|
  mF (mn_LA _ _) <|
  mF (mn_GR _ _ _) <|
  mF (mn_LI _ _) <|
  mF (mn_IA _) <|
  mF (mn_LI _ _) <|
  mF (mn_Ic _ _ _) <|
  mF (mn_LA _ _) <|
  mF (mn_LI _ _) <|
  mF (mn_CV _ _ mc_X4_remove _) <|
  mF (mn_Inc _ _ _) <|
  mF (mn_Go _) <|
  mF (mn_RV) <|
  mF0
def C_X4_removeAllOn : mCo := mRun tb_X4_removeAllOn 3
theorem mc_X4_removeAllOn : mMC C_X4_removeAllOn := mRun_mn mt_X4_removeAllOn 3
theorem yi_X4_removeAllOn : mYin yX4_removeAllOn cX4_removeAllOn 3 none 1 := ⟨wd_54, wd_508, by decide +kernel, by decide⟩
set_option maxRecDepth 100000 in
set_option maxHeartbeats 4000000 in
theorem sd_X4_removeAllOn (l : Launch) (B : mBs) (p : Program) (e : Env) (s : State) (m : MethodId) (args : Array Value) (below : List Frame) (meth : Method) (c : Code) (Q : mQo) (X : mCx l B RX4 cX4_removeAllOn 3 p s m args c) (hr : meth.sig.returnType = none) (hk : meth.locks = false) (hn : meth.name = "removeAllOn") : ∀ q ∈ tb_X4_removeAllOn, mSnd l B 3 p e (mRm 2 0 0) s m args below meth c (MQ below (mPo B Q) args s 0 0 (mA B)) (fun r h' => (h'.1.2.1 ≤ 0 ∧ h'.1.2.2 ≤ 0) ∧ Q r h') q.2 q.1 :=
  mF (sn_aload_n (pc := 0) (j := 0) X (by decide +kernel) rfl) <|
  mF (sn_getI (pc := 1) X fd_X4_30 (by decide +kernel)) <|
  mF (sn_iconst (pc := 4) (n := 1) X (by decide +kernel) (by decide)) <|
  mF (sn_isub (pc := 5) X (by decide +kernel)) <|
  mF (sn_istore_n (pc := 6) (j := 2) X (by decide +kernel) rfl (by decide)) <|
  mF (sn_iload_n (pc := 7) (j := 2) X (by decide +kernel) rfl) <|
  mF (sn_if_lt (pc := 8) (off := 24) X (by decide +kernel) (by decide)) <|
  mF (sn_aload_n (pc := 11) (j := 0) X (by decide +kernel) rfl) <|
  mF (sn_getR (pc := 12) X fd_X4_18 (by decide +kernel)) <|
  mF (sn_iload_n (pc := 15) (j := 2) X (by decide +kernel) rfl) <|
  mF (sn_iaload (pc := 16) X (by decide +kernel)) <|
  mF (sn_iload_n (pc := 17) (j := 1) X (by decide +kernel) rfl) <|
  mF (sn_icmp_ne (pc := 18) (off := 8) X (by decide +kernel) (by decide)) <|
  mF (sn_aload_n (pc := 21) (j := 0) X (by decide +kernel) rfl) <|
  mF (sn_iload_n (pc := 22) (j := 2) X (by decide +kernel) rfl) <|
  mF (sn_callV (pc := 23) X mc_X4_remove (me_X4_remove l B) yi_X4_remove wd_509 wd_510 wd_511 (T := TX4) (N := 7) rfl (by decide) (by decide +kernel)) <|
  mF (sn_iinc (pc := 26) (n := (-1)) X (by decide +kernel) (by decide) (by decide)) <|
  mF (sn_goto (pc := 29) (off := (-22)) X (by decide +kernel) (by decide)) <|
  mF (sn_vret (pc := 32) X hr hk (by decide +kernel)) <|
  mF0
theorem me_X4_removeAllOn (l : Launch) (B : mBs) : mMet l B yX4_removeAllOn cX4_removeAllOn 3 none 2 0 0 C_X4_removeAllOn := mMet_of (own := RX4) (by decide) rfl (fun p e s m args below meth c Q X hr hk hn => sd_X4_removeAllOn l B p e s m args below meth c Q X hr hk hn)
/-! PuppetStage$Holds.isTaut(IJ)Z: 19 instructions, depth 1, makes 0 cells of 0 slots -/
def tb_X4_isTaut : mTb := [(0, aLA 0 1), (1, aGR 4 0 4), (4, aLI 1 5), (5, aIA 6), (6, aPI 4 7), (7, aIc (fun x y => x = y) 29 10), (10, aLL 2 11), (11, aLA 0 12), (12, aLI 1 13), (13, aCV 4 1 C_X4_free 16), (16, aPI 512 19), (19, aB (fun x y => x - y) 20), (20, aI2L 21), (21, aCmp 22), (22, aIf (fun x => x < 0) 29 25), (25, aPI 1 26), (26, aGo 30), (29, aPI 0 30), (30, aRZ)]
theorem mt_X4_isTaut : mMT tb_X4_isTaut :=
  mF (mn_LA _ _) <|
  mF (mn_GR _ _ _) <|
  mF (mn_LI _ _) <|
  mF (mn_IA _) <|
  mF (mn_PI _ _) <|
  mF (mn_Ic _ _ _) <|
  mF (mn_LL _ _) <|
  mF (mn_LA _ _) <|
  mF (mn_LI _ _) <|
  mF (mn_CV _ _ mc_X4_free _) <|
  mF (mn_PI _ _) <|
  mF (mn_B _ _) <|
  mF (mn_I2L _) <|
  mF (mn_Cmp _) <|
  mF (mn_If _ _ _) <|
  mF (mn_PI _ _) <|
  mF (mn_Go _) <|
  mF (mn_PI _ _) <|
  mF (mn_RZ) <|
  mF0
def C_X4_isTaut : mCo := mRun tb_X4_isTaut 4
theorem mc_X4_isTaut : mMC C_X4_isTaut := mRun_mn mt_X4_isTaut 4
theorem yi_X4_isTaut : mYin yX4_isTaut cX4_isTaut 4 (some .boolean) 2 := ⟨wd_54, wd_683, by decide +kernel, by decide⟩
set_option maxRecDepth 100000 in
set_option maxHeartbeats 4000000 in
theorem sd_X4_isTaut (l : Launch) (B : mBs) (p : Program) (e : Env) (s : State) (m : MethodId) (args : Array Value) (below : List Frame) (meth : Method) (c : Code) (Q : mQo) (X : mCx l B RX4 cX4_isTaut 4 p s m args c) (hr : meth.sig.returnType = (some .boolean)) (hk : meth.locks = false) (hn : meth.name = "isTaut") : ∀ q ∈ tb_X4_isTaut, mSnd l B 4 p e (mRm 1 0 0) s m args below meth c (MQ below (mPo B Q) args s 0 0 (mA B)) (fun r h' => (h'.1.2.1 ≤ 0 ∧ h'.1.2.2 ≤ 0) ∧ Q r h') q.2 q.1 :=
  mF (sn_aload_n (pc := 0) (j := 0) X (by decide +kernel) rfl) <|
  mF (sn_getR (pc := 1) X fd_X4_9 (by decide +kernel)) <|
  mF (sn_iload_n (pc := 4) (j := 1) X (by decide +kernel) rfl) <|
  mF (sn_iaload (pc := 5) X (by decide +kernel)) <|
  mF (sn_iconst (pc := 6) (n := 4) X (by decide +kernel) (by decide)) <|
  mF (sn_icmp_eq (pc := 7) (off := 22) X (by decide +kernel) (by decide)) <|
  mF (sn_lload_n (pc := 10) (j := 2) X (by decide +kernel) rfl) <|
  mF (sn_aload_n (pc := 11) (j := 0) X (by decide +kernel) rfl) <|
  mF (sn_iload_n (pc := 12) (j := 1) X (by decide +kernel) rfl) <|
  mF (sn_callV (pc := 13) X mc_X4_free (me_X4_free l B) yi_X4_free wd_684 wd_674 wd_675 (T := TX4) (N := 7) rfl (by decide) (by decide +kernel)) <|
  mF (sn_sipush (pc := 16) (n := 512) X (by decide +kernel) (by decide)) <|
  mF (sn_isub (pc := 19) X (by decide +kernel)) <|
  mF (sn_i2l (pc := 20) X (by decide +kernel)) <|
  mF (sn_lcmp (pc := 21) X (by decide +kernel)) <|
  mF (sn_if_lt (pc := 22) (off := 7) X (by decide +kernel) (by decide)) <|
  mF (sn_iconst (pc := 25) (n := 1) X (by decide +kernel) (by decide)) <|
  mF (sn_goto (pc := 26) (off := 4) X (by decide +kernel) (by decide)) <|
  mF (sn_iconst (pc := 29) (n := 0) X (by decide +kernel) (by decide)) <|
  mF (sn_zret (pc := 30) X hr hk (by decide +kernel)) <|
  mF0
theorem me_X4_isTaut (l : Launch) (B : mBs) : mMet l B yX4_isTaut cX4_isTaut 4 (some .boolean) 1 0 0 C_X4_isTaut := mMet_of (own := RX4) (by decide) rfl (fun p e s m args below meth c Q X hr hk hn => sd_X4_isTaut l B p e s m args below meth c Q X hr hk hn)
/-! PuppetStage$Limbs.has(I)Z: 10 instructions, depth 0, makes 0 cells of 0 slots -/
def tb_X5_has : mTb := [(0, aLI 1 1), (1, aIf (fun x => x < 0) 16 4), (4, aLI 1 5), (5, aLA 0 6), (6, aGI 5 4 9), (9, aIc (fun x y => y ≤ x) 16 12), (12, aPI 1 13), (13, aGo 17), (16, aPI 0 17), (17, aRZ)]
theorem mt_X5_has : mMT tb_X5_has :=
  mF (mn_LI _ _) <|
  mF (mn_If _ _ _) <|
  mF (mn_LI _ _) <|
  mF (mn_LA _ _) <|
  mF (mn_GI _ _ _) <|
  mF (mn_Ic _ _ _) <|
  mF (mn_PI _ _) <|
  mF (mn_Go _) <|
  mF (mn_PI _ _) <|
  mF (mn_RZ) <|
  mF0
def C_X5_has : mCo := mRun tb_X5_has 2
theorem mc_X5_has : mMC C_X5_has := mRun_mn mt_X5_has 2
theorem yi_X5_has : mYin yX5_has cX5_has 2 (some .boolean) 1 := ⟨wd_51, wd_549, by decide +kernel, by decide⟩
set_option maxRecDepth 100000 in
set_option maxHeartbeats 4000000 in
theorem sd_X5_has (l : Launch) (B : mBs) (p : Program) (e : Env) (s : State) (m : MethodId) (args : Array Value) (below : List Frame) (meth : Method) (c : Code) (Q : mQo) (X : mCx l B RX5 cX5_has 2 p s m args c) (hr : meth.sig.returnType = (some .boolean)) (hk : meth.locks = false) (hn : meth.name = "has") : ∀ q ∈ tb_X5_has, mSnd l B 2 p e (mRm 0 0 0) s m args below meth c (MQ below (mPo B Q) args s 0 0 (mA B)) (fun r h' => (h'.1.2.1 ≤ 0 ∧ h'.1.2.2 ≤ 0) ∧ Q r h') q.2 q.1 :=
  mF (sn_iload_n (pc := 0) (j := 1) X (by decide +kernel) rfl) <|
  mF (sn_if_lt (pc := 1) (off := 15) X (by decide +kernel) (by decide)) <|
  mF (sn_iload_n (pc := 4) (j := 1) X (by decide +kernel) rfl) <|
  mF (sn_aload_n (pc := 5) (j := 0) X (by decide +kernel) rfl) <|
  mF (sn_getI (pc := 6) X fd_X5_24 (by decide +kernel)) <|
  mF (sn_icmp_ge (pc := 9) (off := 7) X (by decide +kernel) (by decide)) <|
  mF (sn_iconst (pc := 12) (n := 1) X (by decide +kernel) (by decide)) <|
  mF (sn_goto (pc := 13) (off := 4) X (by decide +kernel) (by decide)) <|
  mF (sn_iconst (pc := 16) (n := 0) X (by decide +kernel) (by decide)) <|
  mF (sn_zret (pc := 17) X hr hk (by decide +kernel)) <|
  mF0
theorem me_X5_has (l : Launch) (B : mBs) : mMet l B yX5_has cX5_has 2 (some .boolean) 0 0 0 C_X5_has := mMet_of (own := RX5) (by decide) rfl (fun p e s m args below meth c Q X hr hk hn => sd_X5_has l B p e s m args below meth c Q X hr hk hn)
/-! PuppetStage$Limbs.add(III)I: 31 instructions, depth 0, makes 0 cells of 0 slots -/
def tb_X5_add : mTb := [(0, aLA 0 1), (1, aGI 5 4 4), (4, aSI 4 6), (6, aLA 0 7), (7, aGR 5 2 10), (10, aLI 4 12), (12, aLI 1 13), (13, aIS 14), (14, aLA 0 15), (15, aGR 5 0 18), (18, aLI 4 20), (20, aLI 2 21), (21, aIS 22), (22, aLA 0 23), (23, aGR 5 1 26), (26, aLI 4 28), (28, aLI 3 29), (29, aIS 30), (30, aLA 0 31), (31, aGR 5 3 34), (34, aLI 4 36), (36, aPI 0 37), (37, aIS 38), (38, aLA 0 39), (39, aDup 40), (40, aGI 5 4 43), (43, aPI 1 44), (44, aB (fun x y => x + y) 45), (45, aWI 5 4 48), (48, aLI 4 50), (50, aRI)]
theorem mt_X5_add : mMT tb_X5_add :=
  mF (mn_LA _ _) <|
  mF (mn_GI _ _ _) <|
  mF (mn_SI _ _) <|
  mF (mn_LA _ _) <|
  mF (mn_GR _ _ _) <|
  mF (mn_LI _ _) <|
  mF (mn_LI _ _) <|
  mF (mn_IS _) <|
  mF (mn_LA _ _) <|
  mF (mn_GR _ _ _) <|
  mF (mn_LI _ _) <|
  mF (mn_LI _ _) <|
  mF (mn_IS _) <|
  mF (mn_LA _ _) <|
  mF (mn_GR _ _ _) <|
  mF (mn_LI _ _) <|
  mF (mn_LI _ _) <|
  mF (mn_IS _) <|
  mF (mn_LA _ _) <|
  mF (mn_GR _ _ _) <|
  mF (mn_LI _ _) <|
  mF (mn_PI _ _) <|
  mF (mn_IS _) <|
  mF (mn_LA _ _) <|
  mF (mn_Dup _) <|
  mF (mn_GI _ _ _) <|
  mF (mn_PI _ _) <|
  mF (mn_B _ _) <|
  mF (mn_WI _ _ _) <|
  mF (mn_LI _ _) <|
  mF (mn_RI) <|
  mF0
def C_X5_add : mCo := mRun tb_X5_add 5
theorem mc_X5_add : mMC C_X5_add := mRun_mn mt_X5_add 5
theorem yi_X5_add : mYin yX5_add cX5_add 5 (some .int) 3 := ⟨wd_51, wd_500, by decide +kernel, by decide⟩
set_option maxRecDepth 100000 in
set_option maxHeartbeats 4000000 in
theorem sd_X5_add (l : Launch) (B : mBs) (p : Program) (e : Env) (s : State) (m : MethodId) (args : Array Value) (below : List Frame) (meth : Method) (c : Code) (Q : mQo) (X : mCx l B RX5 cX5_add 5 p s m args c) (hr : meth.sig.returnType = (some .int)) (hk : meth.locks = false) (hn : meth.name = "add") : ∀ q ∈ tb_X5_add, mSnd l B 5 p e (mRm 0 0 0) s m args below meth c (MQ below (mPo B Q) args s 0 0 (mA B)) (fun r h' => (h'.1.2.1 ≤ 0 ∧ h'.1.2.2 ≤ 0) ∧ Q r h') q.2 q.1 :=
  mF (sn_aload_n (pc := 0) (j := 0) X (by decide +kernel) rfl) <|
  mF (sn_getI (pc := 1) X fd_X5_24 (by decide +kernel)) <|
  mF (sn_istore (pc := 4) X (by decide +kernel) (by decide)) <|
  mF (sn_aload_n (pc := 6) (j := 0) X (by decide +kernel) rfl) <|
  mF (sn_getR (pc := 7) X fd_X5_18 (by decide +kernel)) <|
  mF (sn_iload (pc := 10) X (by decide +kernel)) <|
  mF (sn_iload_n (pc := 12) (j := 1) X (by decide +kernel) rfl) <|
  mF (sn_iastore (pc := 13) X (by decide +kernel)) <|
  mF (sn_aload_n (pc := 14) (j := 0) X (by decide +kernel) rfl) <|
  mF (sn_getR (pc := 15) X fd_X5_9 (by decide +kernel)) <|
  mF (sn_iload (pc := 18) X (by decide +kernel)) <|
  mF (sn_iload_n (pc := 20) (j := 2) X (by decide +kernel) rfl) <|
  mF (sn_iastore (pc := 21) X (by decide +kernel)) <|
  mF (sn_aload_n (pc := 22) (j := 0) X (by decide +kernel) rfl) <|
  mF (sn_getR (pc := 23) X fd_X5_15 (by decide +kernel)) <|
  mF (sn_iload (pc := 26) X (by decide +kernel)) <|
  mF (sn_iload_n (pc := 28) (j := 3) X (by decide +kernel) rfl) <|
  mF (sn_iastore (pc := 29) X (by decide +kernel)) <|
  mF (sn_aload_n (pc := 30) (j := 0) X (by decide +kernel) rfl) <|
  mF (sn_getR (pc := 31) X fd_X5_21 (by decide +kernel)) <|
  mF (sn_iload (pc := 34) X (by decide +kernel)) <|
  mF (sn_iconst (pc := 36) (n := 0) X (by decide +kernel) (by decide)) <|
  mF (sn_iastore (pc := 37) X (by decide +kernel)) <|
  mF (sn_aload_n (pc := 38) (j := 0) X (by decide +kernel) rfl) <|
  mF (sn_dup (pc := 39) X (by decide +kernel)) <|
  mF (sn_getI (pc := 40) X fd_X5_24 (by decide +kernel)) <|
  mF (sn_iconst (pc := 43) (n := 1) X (by decide +kernel) (by decide)) <|
  mF (sn_iadd (pc := 44) X (by decide +kernel)) <|
  mF (sn_putI (pc := 45) X fd_X5_24 ⟨tyX5_ok, nmX5⟩ rfl rfl (by decide +kernel)) <|
  mF (sn_iload (pc := 48) X (by decide +kernel)) <|
  mF (sn_iret (pc := 50) X hr hk (by decide +kernel)) <|
  mF0
theorem me_X5_add (l : Launch) (B : mBs) : mMet l B yX5_add cX5_add 5 (some .int) 0 0 0 C_X5_add := mMet_of (own := RX5) (by decide) rfl (fun p e s m args below meth c Q X hr hk hn => sd_X5_add l B p e s m args below meth c Q X hr hk hn)
/-! PuppetStage$Limbs.removeLast()I: 12 instructions, depth 0, makes 0 cells of 0 slots -/
def tb_X5_removeLast : mTb := [(0, aLA 0 1), (1, aDup 2), (2, aGI 5 4 5), (5, aPI 1 6), (6, aB (fun x y => x - y) 7), (7, aWI 5 4 10), (10, aLA 0 11), (11, aGR 5 0 14), (14, aLA 0 15), (15, aGI 5 4 18), (18, aIA 19), (19, aRI)]
theorem mt_X5_removeLast : mMT tb_X5_removeLast :=
  mF (mn_LA _ _) <|
  mF (mn_Dup _) <|
  mF (mn_GI _ _ _) <|
  mF (mn_PI _ _) <|
  mF (mn_B _ _) <|
  mF (mn_WI _ _ _) <|
  mF (mn_LA _ _) <|
  mF (mn_GR _ _ _) <|
  mF (mn_LA _ _) <|
  mF (mn_GI _ _ _) <|
  mF (mn_IA _) <|
  mF (mn_RI) <|
  mF0
def C_X5_removeLast : mCo := mRun tb_X5_removeLast 1
theorem mc_X5_removeLast : mMC C_X5_removeLast := mRun_mn mt_X5_removeLast 1
theorem yi_X5_removeLast : mYin yX5_removeLast cX5_removeLast 1 (some .int) 0 := ⟨wd_51, wd_520, by decide +kernel, by decide⟩
set_option maxRecDepth 100000 in
set_option maxHeartbeats 4000000 in
theorem sd_X5_removeLast (l : Launch) (B : mBs) (p : Program) (e : Env) (s : State) (m : MethodId) (args : Array Value) (below : List Frame) (meth : Method) (c : Code) (Q : mQo) (X : mCx l B RX5 cX5_removeLast 1 p s m args c) (hr : meth.sig.returnType = (some .int)) (hk : meth.locks = false) (hn : meth.name = "removeLast") : ∀ q ∈ tb_X5_removeLast, mSnd l B 1 p e (mRm 0 0 0) s m args below meth c (MQ below (mPo B Q) args s 0 0 (mA B)) (fun r h' => (h'.1.2.1 ≤ 0 ∧ h'.1.2.2 ≤ 0) ∧ Q r h') q.2 q.1 :=
  mF (sn_aload_n (pc := 0) (j := 0) X (by decide +kernel) rfl) <|
  mF (sn_dup (pc := 1) X (by decide +kernel)) <|
  mF (sn_getI (pc := 2) X fd_X5_24 (by decide +kernel)) <|
  mF (sn_iconst (pc := 5) (n := 1) X (by decide +kernel) (by decide)) <|
  mF (sn_isub (pc := 6) X (by decide +kernel)) <|
  mF (sn_putI (pc := 7) X fd_X5_24 ⟨tyX5_ok, nmX5⟩ rfl rfl (by decide +kernel)) <|
  mF (sn_aload_n (pc := 10) (j := 0) X (by decide +kernel) rfl) <|
  mF (sn_getR (pc := 11) X fd_X5_9 (by decide +kernel)) <|
  mF (sn_aload_n (pc := 14) (j := 0) X (by decide +kernel) rfl) <|
  mF (sn_getI (pc := 15) X fd_X5_24 (by decide +kernel)) <|
  mF (sn_iaload (pc := 18) X (by decide +kernel)) <|
  mF (sn_iret (pc := 19) X hr hk (by decide +kernel)) <|
  mF0
theorem me_X5_removeLast (l : Launch) (B : mBs) : mMet l B yX5_removeLast cX5_removeLast 1 (some .int) 0 0 0 C_X5_removeLast := mMet_of (own := RX5) (by decide) rfl (fun p e s m args below meth c Q X hr hk hn => sd_X5_removeLast l B p e s m args below meth c Q X hr hk hn)
/-! PuppetStage$Limbs.turnOver()V: 11 instructions, depth 1, makes 0 cells of 0 slots -/
def tb_X5_turnOver : mTb := [(0, aLA 0 1), (1, aLA 0 2), (2, aGI 5 5 5), (5, aU (fun x => -x) 6), (6, aWI 5 5 9), (9, aLA 0 10), (10, aGR 5 3 13), (13, aLA 0 14), (14, aGI 5 4 17), (17, aCS 2 C_X10_turnSigns 20), (20, aRV)]
theorem mt_X5_turnOver : mMT tb_X5_turnOver :=
  mF (mn_LA _ _) <|
  mF (mn_LA _ _) <|
  mF (mn_GI _ _ _) <|
  mF (mn_U _ _) <|
  mF (mn_WI _ _ _) <|
  mF (mn_LA _ _) <|
  mF (mn_GR _ _ _) <|
  mF (mn_LA _ _) <|
  mF (mn_GI _ _ _) <|
  mF (mn_CS _ mc_X10_turnSigns _) <|
  mF (mn_RV) <|
  mF0
def C_X5_turnOver : mCo := mRun tb_X5_turnOver 1
theorem mc_X5_turnOver : mMC C_X5_turnOver := mRun_mn mt_X5_turnOver 1
theorem yi_X5_turnOver : mYin yX5_turnOver cX5_turnOver 1 none 0 := ⟨wd_51, wd_872, by decide +kernel, by decide⟩
set_option maxRecDepth 100000 in
set_option maxHeartbeats 4000000 in
theorem sd_X5_turnOver (l : Launch) (B : mBs) (p : Program) (e : Env) (s : State) (m : MethodId) (args : Array Value) (below : List Frame) (meth : Method) (c : Code) (Q : mQo) (X : mCx l B RX5 cX5_turnOver 1 p s m args c) (hr : meth.sig.returnType = none) (hk : meth.locks = false) (hn : meth.name = "turnOver") : ∀ q ∈ tb_X5_turnOver, mSnd l B 1 p e (mRm 1 0 0) s m args below meth c (MQ below (mPo B Q) args s 0 0 (mA B)) (fun r h' => (h'.1.2.1 ≤ 0 ∧ h'.1.2.2 ≤ 0) ∧ Q r h') q.2 q.1 :=
  mF (sn_aload_n (pc := 0) (j := 0) X (by decide +kernel) rfl) <|
  mF (sn_aload_n (pc := 1) (j := 0) X (by decide +kernel) rfl) <|
  mF (sn_getI (pc := 2) X fd_X5_28 (by decide +kernel)) <|
  mF (sn_ineg (pc := 5) X (by decide +kernel)) <|
  mF (sn_putI (pc := 6) X fd_X5_28 ⟨tyX5_ok, nmX5⟩ rfl rfl (by decide +kernel)) <|
  mF (sn_aload_n (pc := 9) (j := 0) X (by decide +kernel) rfl) <|
  mF (sn_getR (pc := 10) X fd_X5_21 (by decide +kernel)) <|
  mF (sn_aload_n (pc := 13) (j := 0) X (by decide +kernel) rfl) <|
  mF (sn_getI (pc := 14) X fd_X5_24 (by decide +kernel)) <|
  mF (sn_callSN (pc := 17) X mc_X10_turnSigns (me_X10_turnSigns l B) yi_X10_turnSigns wd_873 wd_874 (by decide) (by decide +kernel)) <|
  mF (sn_vret (pc := 20) X hr hk (by decide +kernel)) <|
  mF0
theorem me_X5_turnOver (l : Launch) (B : mBs) : mMet l B yX5_turnOver cX5_turnOver 1 none 1 0 0 C_X5_turnOver := mMet_of (own := RX5) (by decide) rfl (fun p e s m args below meth c Q X hr hk hn => sd_X5_turnOver l B p e s m args below meth c Q X hr hk hn)
/-! PuppetStage$Line.<init>()V: 15 instructions, depth 1, makes 0 cells of 0 slots -/
def tb_X6_init : mTb := [(0, aLA 0 1), (1, aObj 4), (4, aLA 0 5), (5, aPL 0 6), (6, aWL 6 0 9), (9, aLA 0 10), (10, aPL 0 11), (11, aWL 6 1 14), (14, aLA 0 15), (15, aPL 0 16), (16, aWL 6 2 19), (19, aLA 0 20), (20, aPL 0 21), (21, aWL 6 3 24), (24, aRV)]
theorem mt_X6_init : mMT tb_X6_init :=
  mF (mn_LA _ _) <|
  mF (mn_Obj _) <|
  mF (mn_LA _ _) <|
  mF (mn_PL _ _) <|
  mF (mn_WL _ _ _) <|
  mF (mn_LA _ _) <|
  mF (mn_PL _ _) <|
  mF (mn_WL _ _ _) <|
  mF (mn_LA _ _) <|
  mF (mn_PL _ _) <|
  mF (mn_WL _ _ _) <|
  mF (mn_LA _ _) <|
  mF (mn_PL _ _) <|
  mF (mn_WL _ _ _) <|
  mF (mn_RV) <|
  mF0
def C_X6_init : mCo := mRun tb_X6_init 1
theorem mc_X6_init : mMC C_X6_init := mRun_mn mt_X6_init 1
theorem yi_X6_init : mYin yX6_init cX6_init 1 none 0 := ⟨wd_59, wd_372, by decide +kernel, by decide⟩
set_option maxRecDepth 100000 in
set_option maxHeartbeats 4000000 in
theorem sd_X6_init (l : Launch) (B : mBs) (p : Program) (e : Env) (s : State) (m : MethodId) (args : Array Value) (below : List Frame) (meth : Method) (c : Code) (Q : mQo) (X : mCx l B RX6 cX6_init 1 p s m args c) (hr : meth.sig.returnType = none) (hk : meth.locks = false) (hn : meth.name = "<init>") : ∀ q ∈ tb_X6_init, mSnd l B 1 p e (mRm 1 0 0) s m args below meth c (MQ below (mPo B Q) args s 0 0 (mA B)) (fun r h' => (h'.1.2.1 ≤ 0 ∧ h'.1.2.2 ≤ 0) ∧ Q r h') q.2 q.1 :=
  mF (sn_aload_n (pc := 0) (j := 0) X (by decide +kernel) rfl) <|
  mF (sn_obj (pc := 1) X (by decide) wd_373 wd_70 wd_71 (by decide +kernel)) <|
  mF (sn_aload_n (pc := 4) (j := 0) X (by decide +kernel) rfl) <|
  mF (sn_lconst (pc := 5) (n := 0) X (by decide +kernel) (by decide)) <|
  mF (sn_putL (pc := 6) X fd_X6_7 ⟨tyX6_ok, nmX6⟩ rfl rfl (by decide +kernel)) <|
  mF (sn_aload_n (pc := 9) (j := 0) X (by decide +kernel) rfl) <|
  mF (sn_lconst (pc := 10) (n := 0) X (by decide +kernel) (by decide)) <|
  mF (sn_putL (pc := 11) X fd_X6_13 ⟨tyX6_ok, nmX6⟩ rfl rfl (by decide +kernel)) <|
  mF (sn_aload_n (pc := 14) (j := 0) X (by decide +kernel) rfl) <|
  mF (sn_lconst (pc := 15) (n := 0) X (by decide +kernel) (by decide)) <|
  mF (sn_putL (pc := 16) X fd_X6_16 ⟨tyX6_ok, nmX6⟩ rfl rfl (by decide +kernel)) <|
  mF (sn_aload_n (pc := 19) (j := 0) X (by decide +kernel) rfl) <|
  mF (sn_lconst (pc := 20) (n := 0) X (by decide +kernel) (by decide)) <|
  mF (sn_putL (pc := 21) X fd_X6_19 ⟨tyX6_ok, nmX6⟩ rfl rfl (by decide +kernel)) <|
  mF (sn_vret (pc := 24) X hr hk (by decide +kernel)) <|
  mF0
theorem me_X6_init (l : Launch) (B : mBs) : mMet l B yX6_init cX6_init 1 none 1 0 0 C_X6_init := mMet_of (own := RX6) (by decide) rfl (fun p e s m args below meth c Q X hr hk hn => sd_X6_init l B p e s m args below meth c Q X hr hk hn)
/-! java/lang/Long.signum(J)I: 10 instructions, depth 0, makes 0 cells of 0 slots -/
def tb_J13_signum_95d88 : mTb := [(0, aLL 0 1), (1, aPI 63 3), (3, aSh (fun x y => x >>> (y.toInt64 &&& 63)) 4), (4, aLL 0 5), (5, aUL (fun x => -x) 6), (6, aPI 63 8), (8, aSh (fun x y => (x.toUInt64 >>> (y.toInt64.toUInt64 &&& Int64.toUInt64 63)).toInt64) 9), (9, aBL (fun x y => x ||| y) 10), (10, aL2I 11), (11, aRI)]
theorem mt_J13_signum_95d88 : mMT tb_J13_signum_95d88 :=
  mF (mn_LL _ _) <|
  mF (mn_PI _ _) <|
  mF (mn_Sh _ _) <|
  mF (mn_LL _ _) <|
  mF (mn_UL _ _) <|
  mF (mn_PI _ _) <|
  mF (mn_Sh _ _) <|
  mF (mn_BL _ _) <|
  mF (mn_L2I _) <|
  mF (mn_RI) <|
  mF0
def C_J13_signum_95d88 : mCo := mRun tb_J13_signum_95d88 2
theorem mc_J13_signum_95d88 : mMC C_J13_signum_95d88 := mRun_mn mt_J13_signum_95d88 2
theorem yi_J13_signum_95d88 : mYin yJ13_signum_95d88 cJ13_signum_95d88 2 (some .int) 1 := ⟨wd_63, wd_836, by decide +kernel, by decide⟩
set_option maxRecDepth 100000 in
set_option maxHeartbeats 4000000 in
theorem sd_J13_signum_95d88 (l : Launch) (B : mBs) (p : Program) (e : Env) (s : State) (m : MethodId) (args : Array Value) (below : List Frame) (meth : Method) (c : Code) (Q : mQo) (X : mCx l B RJ13 cJ13_signum_95d88 2 p s m args c) (hr : meth.sig.returnType = (some .int)) (hk : meth.locks = false) (hn : meth.name = "signum") : ∀ q ∈ tb_J13_signum_95d88, mSnd l B 2 p e (mRm 0 0 0) s m args below meth c (MQ below (mPo B Q) args s 0 0 (mA B)) (fun r h' => (h'.1.2.1 ≤ 0 ∧ h'.1.2.2 ≤ 0) ∧ Q r h') q.2 q.1 :=
  mF (sn_lload_n (pc := 0) (j := 0) X (by decide +kernel) rfl) <|
  mF (sn_bipush (pc := 1) (n := 63) X (by decide +kernel) (by decide)) <|
  mF (sn_lshr (pc := 3) X (by decide +kernel)) <|
  mF (sn_lload_n (pc := 4) (j := 0) X (by decide +kernel) rfl) <|
  mF (sn_lneg (pc := 5) X (by decide +kernel)) <|
  mF (sn_bipush (pc := 6) (n := 63) X (by decide +kernel) (by decide)) <|
  mF (sn_lushr (pc := 8) X (by decide +kernel)) <|
  mF (sn_lor (pc := 9) X (by decide +kernel)) <|
  mF (sn_l2i (pc := 10) X (by decide +kernel)) <|
  mF (sn_iret (pc := 11) X hr hk (by decide +kernel)) <|
  mF0
theorem me_J13_signum_95d88 (l : Launch) (B : mBs) : mMet l B yJ13_signum_95d88 cJ13_signum_95d88 2 (some .int) 0 0 0 C_J13_signum_95d88 := mMet_of (own := RJ13) (by decide) rfl (fun p e s m args below meth c Q X hr hk hn => sd_J13_signum_95d88 l B p e s m args below meth c Q X hr hk hn)
/-! PuppetStage$Line.sideOf(JJ)I: 23 instructions, depth 1, makes 0 cells of 0 slots -/
def tb_X6_sideOf : mTb := [(0, aLA 0 1), (1, aGL 6 2 4), (4, aLA 0 5), (5, aGL 6 0 8), (8, aBL (fun x y => x - y) 9), (9, aLL 3 10), (10, aLA 0 11), (11, aGL 6 1 14), (14, aBL (fun x y => x - y) 15), (15, aBL (fun x y => x * y) 16), (16, aLA 0 17), (17, aGL 6 3 20), (20, aLA 0 21), (21, aGL 6 1 24), (24, aBL (fun x y => x - y) 25), (25, aLL 1 26), (26, aLA 0 27), (27, aGL 6 0 30), (30, aBL (fun x y => x - y) 31), (31, aBL (fun x y => x * y) 32), (32, aBL (fun x y => x - y) 33), (33, aCS 1 C_J13_signum_95d88 36), (36, aRI)]
theorem mt_X6_sideOf : mMT tb_X6_sideOf :=
  mF (mn_LA _ _) <|
  mF (mn_GL _ _ _) <|
  mF (mn_LA _ _) <|
  mF (mn_GL _ _ _) <|
  mF (mn_BL _ _) <|
  mF (mn_LL _ _) <|
  mF (mn_LA _ _) <|
  mF (mn_GL _ _ _) <|
  mF (mn_BL _ _) <|
  mF (mn_BL _ _) <|
  mF (mn_LA _ _) <|
  mF (mn_GL _ _ _) <|
  mF (mn_LA _ _) <|
  mF (mn_GL _ _ _) <|
  mF (mn_BL _ _) <|
  mF (mn_LL _ _) <|
  mF (mn_LA _ _) <|
  mF (mn_GL _ _ _) <|
  mF (mn_BL _ _) <|
  mF (mn_BL _ _) <|
  mF (mn_BL _ _) <|
  mF (mn_CS _ mc_J13_signum_95d88 _) <|
  mF (mn_RI) <|
  mF0
def C_X6_sideOf : mCo := mRun tb_X6_sideOf 5
theorem mc_X6_sideOf : mMC C_X6_sideOf := mRun_mn mt_X6_sideOf 5
theorem yi_X6_sideOf : mYin yX6_sideOf cX6_sideOf 5 (some .int) 2 := ⟨wd_59, wd_833, by decide +kernel, by decide⟩
set_option maxRecDepth 100000 in
set_option maxHeartbeats 4000000 in
theorem sd_X6_sideOf (l : Launch) (B : mBs) (p : Program) (e : Env) (s : State) (m : MethodId) (args : Array Value) (below : List Frame) (meth : Method) (c : Code) (Q : mQo) (X : mCx l B RX6 cX6_sideOf 5 p s m args c) (hr : meth.sig.returnType = (some .int)) (hk : meth.locks = false) (hn : meth.name = "sideOf") : ∀ q ∈ tb_X6_sideOf, mSnd l B 5 p e (mRm 1 0 0) s m args below meth c (MQ below (mPo B Q) args s 0 0 (mA B)) (fun r h' => (h'.1.2.1 ≤ 0 ∧ h'.1.2.2 ≤ 0) ∧ Q r h') q.2 q.1 :=
  mF (sn_aload_n (pc := 0) (j := 0) X (by decide +kernel) rfl) <|
  mF (sn_getL (pc := 1) X fd_X6_16 (by decide +kernel)) <|
  mF (sn_aload_n (pc := 4) (j := 0) X (by decide +kernel) rfl) <|
  mF (sn_getL (pc := 5) X fd_X6_7 (by decide +kernel)) <|
  mF (sn_lsub (pc := 8) X (by decide +kernel)) <|
  mF (sn_lload_n (pc := 9) (j := 3) X (by decide +kernel) rfl) <|
  mF (sn_aload_n (pc := 10) (j := 0) X (by decide +kernel) rfl) <|
  mF (sn_getL (pc := 11) X fd_X6_13 (by decide +kernel)) <|
  mF (sn_lsub (pc := 14) X (by decide +kernel)) <|
  mF (sn_lmul (pc := 15) X (by decide +kernel)) <|
  mF (sn_aload_n (pc := 16) (j := 0) X (by decide +kernel) rfl) <|
  mF (sn_getL (pc := 17) X fd_X6_19 (by decide +kernel)) <|
  mF (sn_aload_n (pc := 20) (j := 0) X (by decide +kernel) rfl) <|
  mF (sn_getL (pc := 21) X fd_X6_13 (by decide +kernel)) <|
  mF (sn_lsub (pc := 24) X (by decide +kernel)) <|
  mF (sn_lload_n (pc := 25) (j := 1) X (by decide +kernel) rfl) <|
  mF (sn_aload_n (pc := 26) (j := 0) X (by decide +kernel) rfl) <|
  mF (sn_getL (pc := 27) X fd_X6_7 (by decide +kernel)) <|
  mF (sn_lsub (pc := 30) X (by decide +kernel)) <|
  mF (sn_lmul (pc := 31) X (by decide +kernel)) <|
  mF (sn_lsub (pc := 32) X (by decide +kernel)) <|
  mF (sn_callS (pc := 33) X mc_J13_signum_95d88 (me_J13_signum_95d88 l B) yi_J13_signum_95d88 wd_834 wd_835 (by decide) (by decide +kernel)) <|
  mF (sn_iret (pc := 36) X hr hk (by decide +kernel)) <|
  mF0
theorem me_X6_sideOf (l : Launch) (B : mBs) : mMet l B yX6_sideOf cX6_sideOf 5 (some .int) 1 0 0 C_X6_sideOf := mMet_of (own := RX6) (by decide) rfl (fun p e s m args below meth c Q X hr hk hn => sd_X6_sideOf l B p e s m args below meth c Q X hr hk hn)
/-! PuppetStage$Line.sidesOf(LPuppetStage$Line;)I: 14 instructions, depth 2, makes 0 cells of 0 slots -/
def tb_X6_sidesOf : mTb := [(0, aLA 0 1), (1, aLA 1 2), (2, aGL 6 0 5), (5, aLA 1 6), (6, aGL 6 1 9), (9, aCV 6 2 C_X6_sideOf 12), (12, aLA 0 13), (13, aLA 1 14), (14, aGL 6 2 17), (17, aLA 1 18), (18, aGL 6 3 21), (21, aCV 6 2 C_X6_sideOf 24), (24, aB (fun x y => x * y) 25), (25, aRI)]
theorem mt_X6_sidesOf : mMT tb_X6_sidesOf :=
  mF (mn_LA _ _) <|
  mF (mn_LA _ _) <|
  mF (mn_GL _ _ _) <|
  mF (mn_LA _ _) <|
  mF (mn_GL _ _ _) <|
  mF (mn_CV _ _ mc_X6_sideOf _) <|
  mF (mn_LA _ _) <|
  mF (mn_LA _ _) <|
  mF (mn_GL _ _ _) <|
  mF (mn_LA _ _) <|
  mF (mn_GL _ _ _) <|
  mF (mn_CV _ _ mc_X6_sideOf _) <|
  mF (mn_B _ _) <|
  mF (mn_RI) <|
  mF0
def C_X6_sidesOf : mCo := mRun tb_X6_sidesOf 2
theorem mc_X6_sidesOf : mMC C_X6_sidesOf := mRun_mn mt_X6_sidesOf 2
theorem yi_X6_sidesOf : mYin yX6_sidesOf cX6_sidesOf 2 (some .int) 1 := ⟨wd_59, wd_829, by decide +kernel, by decide⟩
set_option maxRecDepth 100000 in
set_option maxHeartbeats 4000000 in
theorem sd_X6_sidesOf (l : Launch) (B : mBs) (p : Program) (e : Env) (s : State) (m : MethodId) (args : Array Value) (below : List Frame) (meth : Method) (c : Code) (Q : mQo) (X : mCx l B RX6 cX6_sidesOf 2 p s m args c) (hr : meth.sig.returnType = (some .int)) (hk : meth.locks = false) (hn : meth.name = "sidesOf") : ∀ q ∈ tb_X6_sidesOf, mSnd l B 2 p e (mRm 2 0 0) s m args below meth c (MQ below (mPo B Q) args s 0 0 (mA B)) (fun r h' => (h'.1.2.1 ≤ 0 ∧ h'.1.2.2 ≤ 0) ∧ Q r h') q.2 q.1 :=
  mF (sn_aload_n (pc := 0) (j := 0) X (by decide +kernel) rfl) <|
  mF (sn_aload_n (pc := 1) (j := 1) X (by decide +kernel) rfl) <|
  mF (sn_getL (pc := 2) X fd_X6_7 (by decide +kernel)) <|
  mF (sn_aload_n (pc := 5) (j := 1) X (by decide +kernel) rfl) <|
  mF (sn_getL (pc := 6) X fd_X6_13 (by decide +kernel)) <|
  mF (sn_callV (pc := 9) X mc_X6_sideOf (me_X6_sideOf l B) yi_X6_sideOf wd_830 wd_832 wd_10 (T := TX6) (N := 4) rfl (by decide) (by decide +kernel)) <|
  mF (sn_aload_n (pc := 12) (j := 0) X (by decide +kernel) rfl) <|
  mF (sn_aload_n (pc := 13) (j := 1) X (by decide +kernel) rfl) <|
  mF (sn_getL (pc := 14) X fd_X6_16 (by decide +kernel)) <|
  mF (sn_aload_n (pc := 17) (j := 1) X (by decide +kernel) rfl) <|
  mF (sn_getL (pc := 18) X fd_X6_19 (by decide +kernel)) <|
  mF (sn_callV (pc := 21) X mc_X6_sideOf (me_X6_sideOf l B) yi_X6_sideOf wd_830 wd_832 wd_10 (T := TX6) (N := 4) rfl (by decide) (by decide +kernel)) <|
  mF (sn_imul (pc := 24) X (by decide +kernel)) <|
  mF (sn_iret (pc := 25) X hr hk (by decide +kernel)) <|
  mF0
theorem me_X6_sidesOf (l : Launch) (B : mBs) : mMet l B yX6_sidesOf cX6_sidesOf 2 (some .int) 2 0 0 C_X6_sidesOf := mMet_of (own := RX6) (by decide) rfl (fun p e s m args below meth c Q X hr hk hn => sd_X6_sidesOf l B p e s m args below meth c Q X hr hk hn)
/-! PuppetStage$Line.goesThrough(LPuppetStage$Line;)Z: 12 instructions, depth 3, makes 0 cells of 0 slots -/
def tb_X6_goesThrough : mTb := [(0, aLA 0 1), (1, aLA 1 2), (2, aCV 6 1 C_X6_sidesOf 5), (5, aIf (fun x => 0 ≤ x) 20 8), (8, aLA 1 9), (9, aLA 0 10), (10, aCV 6 1 C_X6_sidesOf 13), (13, aIf (fun x => 0 ≤ x) 20 16), (16, aPI 1 17), (17, aGo 21), (20, aPI 0 21), (21, aRZ)]
theorem mt_X6_goesThrough : mMT tb_X6_goesThrough :=
  mF (mn_LA _ _) <|
  mF (mn_LA _ _) <|
  mF (mn_CV _ _ mc_X6_sidesOf _) <|
  mF (mn_If _ _ _) <|
  mF (mn_LA _ _) <|
  mF (mn_LA _ _) <|
  mF (mn_CV _ _ mc_X6_sidesOf _) <|
  mF (mn_If _ _ _) <|
  mF (mn_PI _ _) <|
  mF (mn_Go _) <|
  mF (mn_PI _ _) <|
  mF (mn_RZ) <|
  mF0
def C_X6_goesThrough : mCo := mRun tb_X6_goesThrough 2
theorem mc_X6_goesThrough : mMC C_X6_goesThrough := mRun_mn mt_X6_goesThrough 2
theorem yi_X6_goesThrough : mYin yX6_goesThrough cX6_goesThrough 2 (some .boolean) 1 := ⟨wd_59, wd_825, by decide +kernel, by decide⟩
set_option maxRecDepth 100000 in
set_option maxHeartbeats 4000000 in
theorem sd_X6_goesThrough (l : Launch) (B : mBs) (p : Program) (e : Env) (s : State) (m : MethodId) (args : Array Value) (below : List Frame) (meth : Method) (c : Code) (Q : mQo) (X : mCx l B RX6 cX6_goesThrough 2 p s m args c) (hr : meth.sig.returnType = (some .boolean)) (hk : meth.locks = false) (hn : meth.name = "goesThrough") : ∀ q ∈ tb_X6_goesThrough, mSnd l B 2 p e (mRm 3 0 0) s m args below meth c (MQ below (mPo B Q) args s 0 0 (mA B)) (fun r h' => (h'.1.2.1 ≤ 0 ∧ h'.1.2.2 ≤ 0) ∧ Q r h') q.2 q.1 :=
  mF (sn_aload_n (pc := 0) (j := 0) X (by decide +kernel) rfl) <|
  mF (sn_aload_n (pc := 1) (j := 1) X (by decide +kernel) rfl) <|
  mF (sn_callV (pc := 2) X mc_X6_sidesOf (me_X6_sidesOf l B) yi_X6_sidesOf wd_826 wd_828 wd_9 (T := TX6) (N := 4) rfl (by decide) (by decide +kernel)) <|
  mF (sn_if_ge (pc := 5) (off := 15) X (by decide +kernel) (by decide)) <|
  mF (sn_aload_n (pc := 8) (j := 1) X (by decide +kernel) rfl) <|
  mF (sn_aload_n (pc := 9) (j := 0) X (by decide +kernel) rfl) <|
  mF (sn_callV (pc := 10) X mc_X6_sidesOf (me_X6_sidesOf l B) yi_X6_sidesOf wd_826 wd_828 wd_9 (T := TX6) (N := 4) rfl (by decide) (by decide +kernel)) <|
  mF (sn_if_ge (pc := 13) (off := 7) X (by decide +kernel) (by decide)) <|
  mF (sn_iconst (pc := 16) (n := 1) X (by decide +kernel) (by decide)) <|
  mF (sn_goto (pc := 17) (off := 4) X (by decide +kernel) (by decide)) <|
  mF (sn_iconst (pc := 20) (n := 0) X (by decide +kernel) (by decide)) <|
  mF (sn_zret (pc := 21) X hr hk (by decide +kernel)) <|
  mF0
theorem me_X6_goesThrough (l : Launch) (B : mBs) : mMet l B yX6_goesThrough cX6_goesThrough 2 (some .boolean) 3 0 0 C_X6_goesThrough := mMet_of (own := RX6) (by decide) rfl (fun p e s m args below meth c Q X hr hk hn => sd_X6_goesThrough l B p e s m args below meth c Q X hr hk hn)
/-! PuppetStage$Line.spreadsMeet(JJJJ)Z: 20 instructions, depth 1, makes 0 cells of 0 slots -/
def tb_X6_spreadsMeet : mTb := [(0, aLL 0 1), (1, aLL 2 2), (2, aM2L (fun x y => if y < x then x else y) 5), (5, aLL 4 7), (7, aLL 6 9), (9, aM2L (fun x y => if y < x then y else x) 12), (12, aCmp 13), (13, aIf (fun x => x < 0) 36 16), (16, aLL 4 18), (18, aLL 6 20), (20, aM2L (fun x y => if y < x then x else y) 23), (23, aLL 0 24), (24, aLL 2 25), (25, aM2L (fun x y => if y < x then y else x) 28), (28, aCmp 29), (29, aIf (fun x => x < 0) 36 32), (32, aPI 1 33), (33, aGo 37), (36, aPI 0 37), (37, aRZ)]
theorem mt_X6_spreadsMeet : mMT tb_X6_spreadsMeet :=
  mF (mn_LL _ _) <|
  mF (mn_LL _ _) <|
  mF (mn_M2L _ _) <|
  mF (mn_LL _ _) <|
  mF (mn_LL _ _) <|
  mF (mn_M2L _ _) <|
  mF (mn_Cmp _) <|
  mF (mn_If _ _ _) <|
  mF (mn_LL _ _) <|
  mF (mn_LL _ _) <|
  mF (mn_M2L _ _) <|
  mF (mn_LL _ _) <|
  mF (mn_LL _ _) <|
  mF (mn_M2L _ _) <|
  mF (mn_Cmp _) <|
  mF (mn_If _ _ _) <|
  mF (mn_PI _ _) <|
  mF (mn_Go _) <|
  mF (mn_PI _ _) <|
  mF (mn_RZ) <|
  mF0
def C_X6_spreadsMeet : mCo := mRun tb_X6_spreadsMeet 8
theorem mc_X6_spreadsMeet : mMC C_X6_spreadsMeet := mRun_mn mt_X6_spreadsMeet 8
theorem yi_X6_spreadsMeet : mYin yX6_spreadsMeet cX6_spreadsMeet 8 (some .boolean) 4 := ⟨wd_59, wd_851, by decide +kernel, by decide⟩
set_option maxRecDepth 100000 in
set_option maxHeartbeats 4000000 in
theorem sd_X6_spreadsMeet (l : Launch) (B : mBs) (p : Program) (e : Env) (s : State) (m : MethodId) (args : Array Value) (below : List Frame) (meth : Method) (c : Code) (Q : mQo) (X : mCx l B RX6 cX6_spreadsMeet 8 p s m args c) (hr : meth.sig.returnType = (some .boolean)) (hk : meth.locks = false) (hn : meth.name = "spreadsMeet") : ∀ q ∈ tb_X6_spreadsMeet, mSnd l B 8 p e (mRm 1 0 0) s m args below meth c (MQ below (mPo B Q) args s 0 0 (mA B)) (fun r h' => (h'.1.2.1 ≤ 0 ∧ h'.1.2.2 ≤ 0) ∧ Q r h') q.2 q.1 :=
  mF (sn_lload_n (pc := 0) (j := 0) X (by decide +kernel) rfl) <|
  mF (sn_lload_n (pc := 1) (j := 2) X (by decide +kernel) rfl) <|
  mF (sn_maxL (pc := 2) X (by decide) wd_852 wd_660 wd_61 wd_661 (by decide +kernel)) <|
  mF (sn_lload (pc := 5) X (by decide +kernel)) <|
  mF (sn_lload (pc := 7) X (by decide +kernel)) <|
  mF (sn_minL (pc := 9) X (by decide) wd_853 wd_663 wd_61 wd_664 (by decide +kernel)) <|
  mF (sn_lcmp (pc := 12) X (by decide +kernel)) <|
  mF (sn_if_lt (pc := 13) (off := 23) X (by decide +kernel) (by decide)) <|
  mF (sn_lload (pc := 16) X (by decide +kernel)) <|
  mF (sn_lload (pc := 18) X (by decide +kernel)) <|
  mF (sn_maxL (pc := 20) X (by decide) wd_852 wd_660 wd_61 wd_661 (by decide +kernel)) <|
  mF (sn_lload_n (pc := 23) (j := 0) X (by decide +kernel) rfl) <|
  mF (sn_lload_n (pc := 24) (j := 2) X (by decide +kernel) rfl) <|
  mF (sn_minL (pc := 25) X (by decide) wd_853 wd_663 wd_61 wd_664 (by decide +kernel)) <|
  mF (sn_lcmp (pc := 28) X (by decide +kernel)) <|
  mF (sn_if_lt (pc := 29) (off := 7) X (by decide +kernel) (by decide)) <|
  mF (sn_iconst (pc := 32) (n := 1) X (by decide +kernel) (by decide)) <|
  mF (sn_goto (pc := 33) (off := 4) X (by decide +kernel) (by decide)) <|
  mF (sn_iconst (pc := 36) (n := 0) X (by decide +kernel) (by decide)) <|
  mF (sn_zret (pc := 37) X hr hk (by decide +kernel)) <|
  mF0
theorem me_X6_spreadsMeet (l : Launch) (B : mBs) : mMet l B yX6_spreadsMeet cX6_spreadsMeet 8 (some .boolean) 1 0 0 C_X6_spreadsMeet := mMet_of (own := RX6) (by decide) rfl (fun p e s m args below meth c Q X hr hk hn => sd_X6_spreadsMeet l B p e s m args below meth c Q X hr hk hn)
/-! PuppetStage$Line.touches(LPuppetStage$Line;)Z: 32 instructions, depth 3, makes 0 cells of 0 slots -/
def tb_X6_touches : mTb := [(0, aLA 0 1), (1, aGL 6 0 4), (4, aLA 0 5), (5, aGL 6 2 8), (8, aLA 1 9), (9, aGL 6 0 12), (12, aLA 1 13), (13, aGL 6 2 16), (16, aCS 4 C_X6_spreadsMeet 19), (19, aIf (fun x => x = 0) 64 22), (22, aLA 0 23), (23, aGL 6 1 26), (26, aLA 0 27), (27, aGL 6 3 30), (30, aLA 1 31), (31, aGL 6 1 34), (34, aLA 1 35), (35, aGL 6 3 38), (38, aCS 4 C_X6_spreadsMeet 41), (41, aIf (fun x => x = 0) 64 44), (44, aLA 0 45), (45, aLA 1 46), (46, aCV 6 1 C_X6_sidesOf 49), (49, aIf (fun x => 0 < x) 64 52), (52, aLA 1 53), (53, aLA 0 54), (54, aCV 6 1 C_X6_sidesOf 57), (57, aIf (fun x => 0 < x) 64 60), (60, aPI 1 61), (61, aGo 65), (64, aPI 0 65), (65, aRZ)]
theorem mt_X6_touches : mMT tb_X6_touches :=
  mF (mn_LA _ _) <|
  mF (mn_GL _ _ _) <|
  mF (mn_LA _ _) <|
  mF (mn_GL _ _ _) <|
  mF (mn_LA _ _) <|
  mF (mn_GL _ _ _) <|
  mF (mn_LA _ _) <|
  mF (mn_GL _ _ _) <|
  mF (mn_CS _ mc_X6_spreadsMeet _) <|
  mF (mn_If _ _ _) <|
  mF (mn_LA _ _) <|
  mF (mn_GL _ _ _) <|
  mF (mn_LA _ _) <|
  mF (mn_GL _ _ _) <|
  mF (mn_LA _ _) <|
  mF (mn_GL _ _ _) <|
  mF (mn_LA _ _) <|
  mF (mn_GL _ _ _) <|
  mF (mn_CS _ mc_X6_spreadsMeet _) <|
  mF (mn_If _ _ _) <|
  mF (mn_LA _ _) <|
  mF (mn_LA _ _) <|
  mF (mn_CV _ _ mc_X6_sidesOf _) <|
  mF (mn_If _ _ _) <|
  mF (mn_LA _ _) <|
  mF (mn_LA _ _) <|
  mF (mn_CV _ _ mc_X6_sidesOf _) <|
  mF (mn_If _ _ _) <|
  mF (mn_PI _ _) <|
  mF (mn_Go _) <|
  mF (mn_PI _ _) <|
  mF (mn_RZ) <|
  mF0
def C_X6_touches : mCo := mRun tb_X6_touches 2
theorem mc_X6_touches : mMC C_X6_touches := mRun_mn mt_X6_touches 2
theorem yi_X6_touches : mYin yX6_touches cX6_touches 2 (some .boolean) 1 := ⟨wd_59, wd_848, by decide +kernel, by decide⟩
set_option maxRecDepth 100000 in
set_option maxHeartbeats 4000000 in
theorem sd_X6_touches (l : Launch) (B : mBs) (p : Program) (e : Env) (s : State) (m : MethodId) (args : Array Value) (below : List Frame) (meth : Method) (c : Code) (Q : mQo) (X : mCx l B RX6 cX6_touches 2 p s m args c) (hr : meth.sig.returnType = (some .boolean)) (hk : meth.locks = false) (hn : meth.name = "touches") : ∀ q ∈ tb_X6_touches, mSnd l B 2 p e (mRm 3 0 0) s m args below meth c (MQ below (mPo B Q) args s 0 0 (mA B)) (fun r h' => (h'.1.2.1 ≤ 0 ∧ h'.1.2.2 ≤ 0) ∧ Q r h') q.2 q.1 :=
  mF (sn_aload_n (pc := 0) (j := 0) X (by decide +kernel) rfl) <|
  mF (sn_getL (pc := 1) X fd_X6_7 (by decide +kernel)) <|
  mF (sn_aload_n (pc := 4) (j := 0) X (by decide +kernel) rfl) <|
  mF (sn_getL (pc := 5) X fd_X6_16 (by decide +kernel)) <|
  mF (sn_aload_n (pc := 8) (j := 1) X (by decide +kernel) rfl) <|
  mF (sn_getL (pc := 9) X fd_X6_7 (by decide +kernel)) <|
  mF (sn_aload_n (pc := 12) (j := 1) X (by decide +kernel) rfl) <|
  mF (sn_getL (pc := 13) X fd_X6_16 (by decide +kernel)) <|
  mF (sn_callS (pc := 16) X mc_X6_spreadsMeet (me_X6_spreadsMeet l B) yi_X6_spreadsMeet wd_849 wd_850 (by decide) (by decide +kernel)) <|
  mF (sn_if_eq (pc := 19) (off := 45) X (by decide +kernel) (by decide)) <|
  mF (sn_aload_n (pc := 22) (j := 0) X (by decide +kernel) rfl) <|
  mF (sn_getL (pc := 23) X fd_X6_13 (by decide +kernel)) <|
  mF (sn_aload_n (pc := 26) (j := 0) X (by decide +kernel) rfl) <|
  mF (sn_getL (pc := 27) X fd_X6_19 (by decide +kernel)) <|
  mF (sn_aload_n (pc := 30) (j := 1) X (by decide +kernel) rfl) <|
  mF (sn_getL (pc := 31) X fd_X6_13 (by decide +kernel)) <|
  mF (sn_aload_n (pc := 34) (j := 1) X (by decide +kernel) rfl) <|
  mF (sn_getL (pc := 35) X fd_X6_19 (by decide +kernel)) <|
  mF (sn_callS (pc := 38) X mc_X6_spreadsMeet (me_X6_spreadsMeet l B) yi_X6_spreadsMeet wd_849 wd_850 (by decide) (by decide +kernel)) <|
  mF (sn_if_eq (pc := 41) (off := 23) X (by decide +kernel) (by decide)) <|
  mF (sn_aload_n (pc := 44) (j := 0) X (by decide +kernel) rfl) <|
  mF (sn_aload_n (pc := 45) (j := 1) X (by decide +kernel) rfl) <|
  mF (sn_callV (pc := 46) X mc_X6_sidesOf (me_X6_sidesOf l B) yi_X6_sidesOf wd_826 wd_828 wd_9 (T := TX6) (N := 4) rfl (by decide) (by decide +kernel)) <|
  mF (sn_if_gt (pc := 49) (off := 15) X (by decide +kernel) (by decide)) <|
  mF (sn_aload_n (pc := 52) (j := 1) X (by decide +kernel) rfl) <|
  mF (sn_aload_n (pc := 53) (j := 0) X (by decide +kernel) rfl) <|
  mF (sn_callV (pc := 54) X mc_X6_sidesOf (me_X6_sidesOf l B) yi_X6_sidesOf wd_826 wd_828 wd_9 (T := TX6) (N := 4) rfl (by decide) (by decide +kernel)) <|
  mF (sn_if_gt (pc := 57) (off := 7) X (by decide +kernel) (by decide)) <|
  mF (sn_iconst (pc := 60) (n := 1) X (by decide +kernel) (by decide)) <|
  mF (sn_goto (pc := 61) (off := 4) X (by decide +kernel) (by decide)) <|
  mF (sn_iconst (pc := 64) (n := 0) X (by decide +kernel) (by decide)) <|
  mF (sn_zret (pc := 65) X hr hk (by decide +kernel)) <|
  mF0
theorem me_X6_touches (l : Launch) (B : mBs) : mMet l B yX6_touches cX6_touches 2 (some .boolean) 3 0 0 C_X6_touches := mMet_of (own := RX6) (by decide) rfl (fun p e s m args below meth c Q X hr hk hn => sd_X6_touches l B p e s m args below meth c Q X hr hk hn)
/-! PuppetStage.isAmong(I[II)Z: 20 instructions, depth 0, makes 0 cells of 0 slots -/
def tb_X10_isAmong : mTb := [(0, aPI 0 1), (1, aSI 3 2), (2, aLI 3 3), (3, aLI 2 4), (4, aIc (fun x y => y ≤ x) 28 7), (7, aLI 3 8), (8, aLA 1 9), (9, aLen 10), (10, aIc (fun x y => y ≤ x) 28 13), (13, aLA 1 14), (14, aLI 3 15), (15, aIA 16), (16, aLI 0 17), (17, aIc (fun x y => x = y) 20 22), (20, aPI 1 21), (21, aRZ), (22, aInc 3 1 25), (25, aGo 2), (28, aPI 0 29), (29, aRZ)]
theorem mt_X10_isAmong : mMT tb_X10_isAmong :=
  mF (mn_PI _ _) <|
  mF (mn_SI _ _) <|
  mF (mn_LI _ _) <|
  mF (mn_LI _ _) <|
  mF (mn_Ic _ _ _) <|
  mF (mn_LI _ _) <|
  mF (mn_LA _ _) <|
  mF (mn_Len _) <|
  mF (mn_Ic _ _ _) <|
  mF (mn_LA _ _) <|
  mF (mn_LI _ _) <|
  mF (mn_IA _) <|
  mF (mn_LI _ _) <|
  mF (mn_Ic _ _ _) <|
  mF (mn_PI _ _) <|
  mF (mn_RZ) <|
  mF (mn_Inc _ _ _) <|
  mF (mn_Go _) <|
  mF (mn_PI _ _) <|
  mF (mn_RZ) <|
  mF0
def C_X10_isAmong : mCo := mRun tb_X10_isAmong 4
theorem mc_X10_isAmong : mMC C_X10_isAmong := mRun_mn mt_X10_isAmong 4
theorem yi_X10_isAmong : mYin yX10_isAmong cX10_isAmong 4 (some .boolean) 3 := ⟨wd_49, wd_864, by decide +kernel, by decide⟩
set_option maxRecDepth 100000 in
set_option maxHeartbeats 4000000 in
theorem sd_X10_isAmong (l : Launch) (B : mBs) (p : Program) (e : Env) (s : State) (m : MethodId) (args : Array Value) (below : List Frame) (meth : Method) (c : Code) (Q : mQo) (X : mCx l B RX10 cX10_isAmong 4 p s m args c) (hr : meth.sig.returnType = (some .boolean)) (hk : meth.locks = false) (hn : meth.name = "isAmong") : ∀ q ∈ tb_X10_isAmong, mSnd l B 4 p e (mRm 0 0 0) s m args below meth c (MQ below (mPo B Q) args s 0 0 (mA B)) (fun r h' => (h'.1.2.1 ≤ 0 ∧ h'.1.2.2 ≤ 0) ∧ Q r h') q.2 q.1 :=
  mF (sn_iconst (pc := 0) (n := 0) X (by decide +kernel) (by decide)) <|
  mF (sn_istore_n (pc := 1) (j := 3) X (by decide +kernel) rfl (by decide)) <|
  mF (sn_iload_n (pc := 2) (j := 3) X (by decide +kernel) rfl) <|
  mF (sn_iload_n (pc := 3) (j := 2) X (by decide +kernel) rfl) <|
  mF (sn_icmp_ge (pc := 4) (off := 24) X (by decide +kernel) (by decide)) <|
  mF (sn_iload_n (pc := 7) (j := 3) X (by decide +kernel) rfl) <|
  mF (sn_aload_n (pc := 8) (j := 1) X (by decide +kernel) rfl) <|
  mF (sn_alen (pc := 9) X (by decide +kernel)) <|
  mF (sn_icmp_ge (pc := 10) (off := 18) X (by decide +kernel) (by decide)) <|
  mF (sn_aload_n (pc := 13) (j := 1) X (by decide +kernel) rfl) <|
  mF (sn_iload_n (pc := 14) (j := 3) X (by decide +kernel) rfl) <|
  mF (sn_iaload (pc := 15) X (by decide +kernel)) <|
  mF (sn_iload_n (pc := 16) (j := 0) X (by decide +kernel) rfl) <|
  mF (sn_icmp_ne (pc := 17) (off := 5) X (by decide +kernel) (by decide)) <|
  mF (sn_iconst (pc := 20) (n := 1) X (by decide +kernel) (by decide)) <|
  mF (sn_zret (pc := 21) X hr hk (by decide +kernel)) <|
  mF (sn_iinc (pc := 22) (n := 1) X (by decide +kernel) (by decide) (by decide)) <|
  mF (sn_goto (pc := 25) (off := (-23)) X (by decide +kernel) (by decide)) <|
  mF (sn_iconst (pc := 28) (n := 0) X (by decide +kernel) (by decide)) <|
  mF (sn_zret (pc := 29) X hr hk (by decide +kernel)) <|
  mF0
theorem me_X10_isAmong (l : Launch) (B : mBs) : mMet l B yX10_isAmong cX10_isAmong 4 (some .boolean) 0 0 0 C_X10_isAmong := mMet_of (own := RX10) (by decide) rfl (fun p e s m args below meth c Q X hr hk hn => sd_X10_isAmong l B p e s m args below meth c Q X hr hk hn)
/-! PuppetStage$Puppet.hasMirrorImage()Z: 47 instructions, depth 1, makes 0 cells of 0 slots -/
def tb_X7_hasMirrorImage : mTb := [(0, aLA 0 1), (1, aGR 7 2 4), (4, aGI 0 4 7), (7, aPI (-32) 9), (9, aIc (fun x y => x = y) 107 12), (12, aPI (-32) 14), (14, aLA 0 15), (15, aGR 7 0 18), (18, aGR 5 3 21), (21, aLA 0 22), (22, aGR 7 0 25), (25, aGI 5 4 28), (28, aCS 3 C_X10_isAmong 31), (31, aIf (fun x => x = 0) 34 107), (34, aPI (-32) 36), (36, aLA 0 37), (37, aGR 7 1 40), (40, aGR 9 0 43), (43, aLA 0 44), (44, aGR 7 1 47), (47, aGI 9 2 50), (50, aCS 3 C_X10_isAmong 53), (53, aIf (fun x => x = 0) 56 107), (56, aPI (-32) 58), (58, aLA 0 59), (59, aGR 7 4 62), (62, aGR 2 2 65), (65, aLA 0 66), (66, aGR 7 4 69), (69, aGI 2 4 72), (72, aCS 3 C_X10_isAmong 75), (75, aIf (fun x => x = 0) 78 107), (78, aPI (-32) 80), (80, aLA 0 81), (81, aGR 7 4 84), (84, aGR 2 3 87), (87, aPI 6 89), (89, aLA 0 90), (90, aGR 7 4 93), (93, aGI 2 5 96), (96, aB (fun x y => x * y) 97), (97, aCS 3 C_X10_isAmong 100), (100, aIf (fun x => x = 0) 103 107), (103, aPI 1 104), (104, aGo 108), (107, aPI 0 108), (108, aRZ)]
theorem mt_X7_hasMirrorImage : mMT tb_X7_hasMirrorImage :=
  mF (mn_LA _ _) <|
  mF (mn_GR _ _ _) <|
  mF (mn_GI _ _ _) <|
  mF (mn_PI _ _) <|
  mF (mn_Ic _ _ _) <|
  mF (mn_PI _ _) <|
  mF (mn_LA _ _) <|
  mF (mn_GR _ _ _) <|
  mF (mn_GR _ _ _) <|
  mF (mn_LA _ _) <|
  mF (mn_GR _ _ _) <|
  mF (mn_GI _ _ _) <|
  mF (mn_CS _ mc_X10_isAmong _) <|
  mF (mn_If _ _ _) <|
  mF (mn_PI _ _) <|
  mF (mn_LA _ _) <|
  mF (mn_GR _ _ _) <|
  mF (mn_GR _ _ _) <|
  mF (mn_LA _ _) <|
  mF (mn_GR _ _ _) <|
  mF (mn_GI _ _ _) <|
  mF (mn_CS _ mc_X10_isAmong _) <|
  mF (mn_If _ _ _) <|
  mF (mn_PI _ _) <|
  mF (mn_LA _ _) <|
  mF (mn_GR _ _ _) <|
  mF (mn_GR _ _ _) <|
  mF (mn_LA _ _) <|
  mF (mn_GR _ _ _) <|
  mF (mn_GI _ _ _) <|
  mF (mn_CS _ mc_X10_isAmong _) <|
  mF (mn_If _ _ _) <|
  mF (mn_PI _ _) <|
  mF (mn_LA _ _) <|
  mF (mn_GR _ _ _) <|
  mF (mn_GR _ _ _) <|
  mF (mn_PI _ _) <|
  mF (mn_LA _ _) <|
  mF (mn_GR _ _ _) <|
  mF (mn_GI _ _ _) <|
  mF (mn_B _ _) <|
  mF (mn_CS _ mc_X10_isAmong _) <|
  mF (mn_If _ _ _) <|
  mF (mn_PI _ _) <|
  mF (mn_Go _) <|
  mF (mn_PI _ _) <|
  mF (mn_RZ) <|
  mF0
def C_X7_hasMirrorImage : mCo := mRun tb_X7_hasMirrorImage 1
theorem mc_X7_hasMirrorImage : mMC C_X7_hasMirrorImage := mRun_mn mt_X7_hasMirrorImage 1
theorem yi_X7_hasMirrorImage : mYin yX7_hasMirrorImage cX7_hasMirrorImage 1 (some .boolean) 0 := ⟨wd_50, wd_861, by decide +kernel, by decide⟩
set_option maxRecDepth 100000 in
set_option maxHeartbeats 4000000 in
theorem sd_X7_hasMirrorImage (l : Launch) (B : mBs) (p : Program) (e : Env) (s : State) (m : MethodId) (args : Array Value) (below : List Frame) (meth : Method) (c : Code) (Q : mQo) (X : mCx l B RX7 cX7_hasMirrorImage 1 p s m args c) (hr : meth.sig.returnType = (some .boolean)) (hk : meth.locks = false) (hn : meth.name = "hasMirrorImage") : ∀ q ∈ tb_X7_hasMirrorImage, mSnd l B 1 p e (mRm 1 0 0) s m args below meth c (MQ below (mPo B Q) args s 0 0 (mA B)) (fun r h' => (h'.1.2.1 ≤ 0 ∧ h'.1.2.2 ≤ 0) ∧ Q r h') q.2 q.1 :=
  mF (sn_aload_n (pc := 0) (j := 0) X (by decide +kernel) rfl) <|
  mF (sn_getR (pc := 1) X fd_X7_28 (by decide +kernel)) <|
  mF (sn_getI (pc := 4) X fd_X7_66 (by decide +kernel)) <|
  mF (sn_bipush (pc := 7) (n := (-32)) X (by decide +kernel) (by decide)) <|
  mF (sn_icmp_eq (pc := 9) (off := 98) X (by decide +kernel) (by decide)) <|
  mF (sn_bipush (pc := 12) (n := (-32)) X (by decide +kernel) (by decide)) <|
  mF (sn_aload_n (pc := 14) (j := 0) X (by decide +kernel) rfl) <|
  mF (sn_getR (pc := 15) X fd_X7_12 (by decide +kernel)) <|
  mF (sn_getR (pc := 18) X fd_X7_69 (by decide +kernel)) <|
  mF (sn_aload_n (pc := 21) (j := 0) X (by decide +kernel) rfl) <|
  mF (sn_getR (pc := 22) X fd_X7_12 (by decide +kernel)) <|
  mF (sn_getI (pc := 25) X fd_X7_73 (by decide +kernel)) <|
  mF (sn_callSN (pc := 28) X mc_X10_isAmong (me_X10_isAmong l B) yi_X10_isAmong wd_862 wd_863 (by decide) (by decide +kernel)) <|
  mF (sn_if_ne (pc := 31) (off := 76) X (by decide +kernel) (by decide)) <|
  mF (sn_bipush (pc := 34) (n := (-32)) X (by decide +kernel) (by decide)) <|
  mF (sn_aload_n (pc := 36) (j := 0) X (by decide +kernel) rfl) <|
  mF (sn_getR (pc := 37) X fd_X7_21 (by decide +kernel)) <|
  mF (sn_getR (pc := 40) X fd_X7_80 (by decide +kernel)) <|
  mF (sn_aload_n (pc := 43) (j := 0) X (by decide +kernel) rfl) <|
  mF (sn_getR (pc := 44) X fd_X7_21 (by decide +kernel)) <|
  mF (sn_getI (pc := 47) X fd_X7_83 (by decide +kernel)) <|
  mF (sn_callSN (pc := 50) X mc_X10_isAmong (me_X10_isAmong l B) yi_X10_isAmong wd_862 wd_863 (by decide) (by decide +kernel)) <|
  mF (sn_if_ne (pc := 53) (off := 54) X (by decide +kernel) (by decide)) <|
  mF (sn_bipush (pc := 56) (n := (-32)) X (by decide +kernel) (by decide)) <|
  mF (sn_aload_n (pc := 58) (j := 0) X (by decide +kernel) rfl) <|
  mF (sn_getR (pc := 59) X fd_X7_42 (by decide +kernel)) <|
  mF (sn_getR (pc := 62) X fd_X7_86 (by decide +kernel)) <|
  mF (sn_aload_n (pc := 65) (j := 0) X (by decide +kernel) rfl) <|
  mF (sn_getR (pc := 66) X fd_X7_42 (by decide +kernel)) <|
  mF (sn_getI (pc := 69) X fd_X7_88 (by decide +kernel)) <|
  mF (sn_callSN (pc := 72) X mc_X10_isAmong (me_X10_isAmong l B) yi_X10_isAmong wd_862 wd_863 (by decide) (by decide +kernel)) <|
  mF (sn_if_ne (pc := 75) (off := 32) X (by decide +kernel) (by decide)) <|
  mF (sn_bipush (pc := 78) (n := (-32)) X (by decide +kernel) (by decide)) <|
  mF (sn_aload_n (pc := 80) (j := 0) X (by decide +kernel) rfl) <|
  mF (sn_getR (pc := 81) X fd_X7_42 (by decide +kernel)) <|
  mF (sn_getR (pc := 84) X fd_X7_91 (by decide +kernel)) <|
  mF (sn_bipush (pc := 87) (n := 6) X (by decide +kernel) (by decide)) <|
  mF (sn_aload_n (pc := 89) (j := 0) X (by decide +kernel) rfl) <|
  mF (sn_getR (pc := 90) X fd_X7_42 (by decide +kernel)) <|
  mF (sn_getI (pc := 93) X fd_X7_94 (by decide +kernel)) <|
  mF (sn_imul (pc := 96) X (by decide +kernel)) <|
  mF (sn_callSN (pc := 97) X mc_X10_isAmong (me_X10_isAmong l B) yi_X10_isAmong wd_862 wd_863 (by decide) (by decide +kernel)) <|
  mF (sn_if_ne (pc := 100) (off := 7) X (by decide +kernel) (by decide)) <|
  mF (sn_iconst (pc := 103) (n := 1) X (by decide +kernel) (by decide)) <|
  mF (sn_goto (pc := 104) (off := 4) X (by decide +kernel) (by decide)) <|
  mF (sn_iconst (pc := 107) (n := 0) X (by decide +kernel) (by decide)) <|
  mF (sn_zret (pc := 108) X hr hk (by decide +kernel)) <|
  mF0
theorem me_X7_hasMirrorImage (l : Launch) (B : mBs) : mMet l B yX7_hasMirrorImage cX7_hasMirrorImage 1 (some .boolean) 1 0 0 C_X7_hasMirrorImage := mMet_of (own := RX7) (by decide) rfl (fun p e s m args below meth c Q X hr hk hn => sd_X7_hasMirrorImage l B p e s m args below meth c Q X hr hk hn)
/-! PuppetStage$Spans.turnOver()V: 29 instructions, depth 0, makes 0 cells of 0 slots -/
def tb_X9_turnOver : mTb := [(0, aPI 0 1), (1, aSI 1 2), (2, aLI 1 3), (3, aLA 0 4), (4, aGI 9 2 7), (7, aIc (fun x y => y ≤ x) 44 10), (10, aLA 0 11), (11, aGR 9 0 14), (14, aLI 1 15), (15, aIA 16), (16, aSI 2 17), (17, aLA 0 18), (18, aGR 9 0 21), (21, aLI 1 22), (22, aLA 0 23), (23, aGR 9 1 26), (26, aLI 1 27), (27, aIA 28), (28, aU (fun x => -x) 29), (29, aIS 30), (30, aLA 0 31), (31, aGR 9 1 34), (34, aLI 1 35), (35, aLI 2 36), (36, aU (fun x => -x) 37), (37, aIS 38), (38, aInc 1 1 41), (41, aGo 2), (44, aRV)]
theorem mt_X9_turnOver : mMT tb_X9_turnOver :=
  mF (mn_PI _ _) <|
  mF (mn_SI _ _) <|
  mF (mn_LI _ _) <|
  mF (mn_LA _ _) <|
  mF (mn_GI _ _ _) <|
  mF (mn_Ic _ _ _) <|
  mF (mn_LA _ _) <|
  mF (mn_GR _ _ _) <|
  mF (mn_LI _ _) <|
  mF (mn_IA _) <|
  mF (mn_SI _ _) <|
  mF (mn_LA _ _) <|
  mF (mn_GR _ _ _) <|
  mF (mn_LI _ _) <|
  mF (mn_LA _ _) <|
  mF (mn_GR _ _ _) <|
  mF (mn_LI _ _) <|
  mF (mn_IA _) <|
  mF (mn_U _ _) <|
  mF (mn_IS _) <|
  mF (mn_LA _ _) <|
  mF (mn_GR _ _ _) <|
  mF (mn_LI _ _) <|
  mF (mn_LI _ _) <|
  mF (mn_U _ _) <|
  mF (mn_IS _) <|
  mF (mn_Inc _ _ _) <|
  mF (mn_Go _) <|
  mF (mn_RV) <|
  mF0
def C_X9_turnOver : mCo := mRun tb_X9_turnOver 3
theorem mc_X9_turnOver : mMC C_X9_turnOver := mRun_mn mt_X9_turnOver 3
theorem yi_X9_turnOver : mYin yX9_turnOver cX9_turnOver 3 none 0 := ⟨wd_52, wd_879, by decide +kernel, by decide⟩
set_option maxRecDepth 100000 in
set_option maxHeartbeats 4000000 in
theorem sd_X9_turnOver (l : Launch) (B : mBs) (p : Program) (e : Env) (s : State) (m : MethodId) (args : Array Value) (below : List Frame) (meth : Method) (c : Code) (Q : mQo) (X : mCx l B RX9 cX9_turnOver 3 p s m args c) (hr : meth.sig.returnType = none) (hk : meth.locks = false) (hn : meth.name = "turnOver") : ∀ q ∈ tb_X9_turnOver, mSnd l B 3 p e (mRm 0 0 0) s m args below meth c (MQ below (mPo B Q) args s 0 0 (mA B)) (fun r h' => (h'.1.2.1 ≤ 0 ∧ h'.1.2.2 ≤ 0) ∧ Q r h') q.2 q.1 :=
  mF (sn_iconst (pc := 0) (n := 0) X (by decide +kernel) (by decide)) <|
  mF (sn_istore_n (pc := 1) (j := 1) X (by decide +kernel) rfl (by decide)) <|
  mF (sn_iload_n (pc := 2) (j := 1) X (by decide +kernel) rfl) <|
  mF (sn_aload_n (pc := 3) (j := 0) X (by decide +kernel) rfl) <|
  mF (sn_getI (pc := 4) X fd_X9_18 (by decide +kernel)) <|
  mF (sn_icmp_ge (pc := 7) (off := 37) X (by decide +kernel) (by decide)) <|
  mF (sn_aload_n (pc := 10) (j := 0) X (by decide +kernel) rfl) <|
  mF (sn_getR (pc := 11) X fd_X9_9 (by decide +kernel)) <|
  mF (sn_iload_n (pc := 14) (j := 1) X (by decide +kernel) rfl) <|
  mF (sn_iaload (pc := 15) X (by decide +kernel)) <|
  mF (sn_istore_n (pc := 16) (j := 2) X (by decide +kernel) rfl (by decide)) <|
  mF (sn_aload_n (pc := 17) (j := 0) X (by decide +kernel) rfl) <|
  mF (sn_getR (pc := 18) X fd_X9_9 (by decide +kernel)) <|
  mF (sn_iload_n (pc := 21) (j := 1) X (by decide +kernel) rfl) <|
  mF (sn_aload_n (pc := 22) (j := 0) X (by decide +kernel) rfl) <|
  mF (sn_getR (pc := 23) X fd_X9_15 (by decide +kernel)) <|
  mF (sn_iload_n (pc := 26) (j := 1) X (by decide +kernel) rfl) <|
  mF (sn_iaload (pc := 27) X (by decide +kernel)) <|
  mF (sn_ineg (pc := 28) X (by decide +kernel)) <|
  mF (sn_iastore (pc := 29) X (by decide +kernel)) <|
  mF (sn_aload_n (pc := 30) (j := 0) X (by decide +kernel) rfl) <|
  mF (sn_getR (pc := 31) X fd_X9_15 (by decide +kernel)) <|
  mF (sn_iload_n (pc := 34) (j := 1) X (by decide +kernel) rfl) <|
  mF (sn_iload_n (pc := 35) (j := 2) X (by decide +kernel) rfl) <|
  mF (sn_ineg (pc := 36) X (by decide +kernel)) <|
  mF (sn_iastore (pc := 37) X (by decide +kernel)) <|
  mF (sn_iinc (pc := 38) (n := 1) X (by decide +kernel) (by decide) (by decide)) <|
  mF (sn_goto (pc := 41) (off := (-39)) X (by decide +kernel) (by decide)) <|
  mF (sn_vret (pc := 44) X hr hk (by decide +kernel)) <|
  mF0
theorem me_X9_turnOver (l : Launch) (B : mBs) : mMet l B yX9_turnOver cX9_turnOver 3 none 0 0 0 C_X9_turnOver := mMet_of (own := RX9) (by decide) rfl (fun p e s m args below meth c Q X hr hk hn => sd_X9_turnOver l B p e s m args below meth c Q X hr hk hn)
/-! PuppetStage$Puppet.turnOver()V: 19 instructions, depth 2, makes 0 cells of 0 slots -/
def tb_X7_turnOver : mTb := [(0, aLA 0 1), (1, aGR 7 0 4), (4, aCV 5 0 C_X5_turnOver 7), (7, aLA 0 8), (8, aGR 7 1 11), (11, aCV 9 0 C_X9_turnOver 14), (14, aLA 0 15), (15, aGR 7 2 18), (18, aCV 0 0 C_X0_turnOver 21), (21, aLA 0 22), (22, aGR 7 4 25), (25, aCV 2 0 C_X2_turnOver 28), (28, aLA 0 29), (29, aPI 1 30), (30, aLA 0 31), (31, aGI 7 5 34), (34, aB (fun x y => x - y) 35), (35, aWI 7 5 38), (38, aRV)]
theorem mt_X7_turnOver : mMT tb_X7_turnOver :=
  mF (mn_LA _ _) <|
  mF (mn_GR _ _ _) <|
  mF (mn_CV _ _ mc_X5_turnOver _) <|
  mF (mn_LA _ _) <|
  mF (mn_GR _ _ _) <|
  mF (mn_CV _ _ mc_X9_turnOver _) <|
  mF (mn_LA _ _) <|
  mF (mn_GR _ _ _) <|
  mF (mn_CV _ _ mc_X0_turnOver _) <|
  mF (mn_LA _ _) <|
  mF (mn_GR _ _ _) <|
  mF (mn_CV _ _ mc_X2_turnOver _) <|
  mF (mn_LA _ _) <|
  mF (mn_PI _ _) <|
  mF (mn_LA _ _) <|
  mF (mn_GI _ _ _) <|
  mF (mn_B _ _) <|
  mF (mn_WI _ _ _) <|
  mF (mn_RV) <|
  mF0
def C_X7_turnOver : mCo := mRun tb_X7_turnOver 1
theorem mc_X7_turnOver : mMC C_X7_turnOver := mRun_mn mt_X7_turnOver 1
theorem yi_X7_turnOver : mYin yX7_turnOver cX7_turnOver 1 none 0 := ⟨wd_50, wd_868, by decide +kernel, by decide⟩
set_option maxRecDepth 100000 in
set_option maxHeartbeats 4000000 in
theorem sd_X7_turnOver (l : Launch) (B : mBs) (p : Program) (e : Env) (s : State) (m : MethodId) (args : Array Value) (below : List Frame) (meth : Method) (c : Code) (Q : mQo) (X : mCx l B RX7 cX7_turnOver 1 p s m args c) (hr : meth.sig.returnType = none) (hk : meth.locks = false) (hn : meth.name = "turnOver") : ∀ q ∈ tb_X7_turnOver, mSnd l B 1 p e (mRm 2 0 0) s m args below meth c (MQ below (mPo B Q) args s 0 0 (mA B)) (fun r h' => (h'.1.2.1 ≤ 0 ∧ h'.1.2.2 ≤ 0) ∧ Q r h') q.2 q.1 :=
  mF (sn_aload_n (pc := 0) (j := 0) X (by decide +kernel) rfl) <|
  mF (sn_getR (pc := 1) X fd_X7_12 (by decide +kernel)) <|
  mF (sn_callV (pc := 4) X mc_X5_turnOver (me_X5_turnOver l B) yi_X5_turnOver wd_869 wd_870 wd_871 (T := TX5) (N := 7) rfl (by decide) (by decide +kernel)) <|
  mF (sn_aload_n (pc := 7) (j := 0) X (by decide +kernel) rfl) <|
  mF (sn_getR (pc := 8) X fd_X7_21 (by decide +kernel)) <|
  mF (sn_callV (pc := 11) X mc_X9_turnOver (me_X9_turnOver l B) yi_X9_turnOver wd_876 wd_877 wd_878 (T := TX9) (N := 3) rfl (by decide) (by decide +kernel)) <|
  mF (sn_aload_n (pc := 14) (j := 0) X (by decide +kernel) rfl) <|
  mF (sn_getR (pc := 15) X fd_X7_28 (by decide +kernel)) <|
  mF (sn_callV (pc := 18) X mc_X0_turnOver (me_X0_turnOver l B) yi_X0_turnOver wd_880 wd_881 wd_882 (T := TX0) (N := 5) rfl (by decide) (by decide +kernel)) <|
  mF (sn_aload_n (pc := 21) (j := 0) X (by decide +kernel) rfl) <|
  mF (sn_getR (pc := 22) X fd_X7_42 (by decide +kernel)) <|
  mF (sn_callV (pc := 25) X mc_X2_turnOver (me_X2_turnOver l B) yi_X2_turnOver wd_885 wd_886 wd_887 (T := TX2) (N := 6) rfl (by decide) (by decide +kernel)) <|
  mF (sn_aload_n (pc := 28) (j := 0) X (by decide +kernel) rfl) <|
  mF (sn_iconst (pc := 29) (n := 1) X (by decide +kernel) (by decide)) <|
  mF (sn_aload_n (pc := 30) (j := 0) X (by decide +kernel) rfl) <|
  mF (sn_getI (pc := 31) X fd_X7_46 (by decide +kernel)) <|
  mF (sn_isub (pc := 34) X (by decide +kernel)) <|
  mF (sn_putI (pc := 35) X fd_X7_46 ⟨tyX7_ok, nmX7⟩ rfl rfl (by decide +kernel)) <|
  mF (sn_vret (pc := 38) X hr hk (by decide +kernel)) <|
  mF0
theorem me_X7_turnOver (l : Launch) (B : mBs) : mMet l B yX7_turnOver cX7_turnOver 1 none 2 0 0 C_X7_turnOver := mMet_of (own := RX7) (by decide) rfl (fun p e s m args below meth c Q X hr hk hn => sd_X7_turnOver l B p e s m args below meth c Q X hr hk hn)
/-! PuppetStage$Settler.<init>()V: 8 instructions, depth 2, makes 10 cells of 65 slots -/
def tb_X8_init : mTb := [(0, aLA 0 1), (1, aObj 4), (4, aLA 0 5), (5, aNew 1 11 10 65 8), (8, aDup 9), (9, aCI C_X1_init 9 54 10 65 12), (12, aWR 8 0 15), (15, aRV)]
theorem mt_X8_init : mMT tb_X8_init :=
  mF (mn_LA _ _) <|
  mF (mn_Obj _) <|
  mF (mn_LA _ _) <|
  mF (mn_New _ _ _ _ _) <|
  mF (mn_Dup _) <|
  mF (mn_CI mc_X1_init _ _ _ _ _) <|
  mF (mn_WR _ _ _) <|
  mF (mn_RV) <|
  mF0
def C_X8_init : mCo := mRun tb_X8_init 1
theorem mc_X8_init : mMC C_X8_init := mRun_mn mt_X8_init 1
theorem yi_X8_init : mYin yX8_init cX8_init 1 none 0 := ⟨wd_58, wd_360, by decide +kernel, by decide⟩
set_option maxRecDepth 100000 in
set_option maxHeartbeats 4000000 in
theorem sd_X8_init (l : Launch) (B : mBs) (p : Program) (e : Env) (s : State) (m : MethodId) (args : Array Value) (below : List Frame) (meth : Method) (c : Code) (Q : mQo) (X : mCx l B RX8 cX8_init 1 p s m args c) (hr : meth.sig.returnType = none) (hk : meth.locks = false) (hn : meth.name = "<init>") : ∀ q ∈ tb_X8_init, mSnd l B 1 p e (mRm 2 10 65) s m args below meth c (MQ below (mPo B Q) args s 10 65 (mA B)) (fun r h' => (h'.1.2.1 ≤ 10 ∧ h'.1.2.2 ≤ 65) ∧ Q r h') q.2 q.1 :=
  mF (sn_aload_n (pc := 0) (j := 0) X (by decide +kernel) rfl) <|
  mF (sn_obj (pc := 1) X (by decide) wd_361 wd_70 wd_71 (by decide +kernel)) <|
  mF (sn_aload_n (pc := 4) (j := 0) X (by decide +kernel) rfl) <|
  mF (sn_new (pc := 5) X rfl inw_1 ⟨tyX1_ok, nmX1⟩ (by decide) rfl wd_362 wd_311 wd_57 (by decide +kernel)) <|
  mF (sn_dup (pc := 8) X (by decide +kernel)) <|
  mF (sn_callIN (pc := 9) X mc_X1_init (me_X1_init l B) yi_X1_init wd_363 wd_313 rfl (by decide) (by decide +kernel)) <|
  mF (sn_putR (D' := "") (pc := 12) X hn fd_X8_10 ⟨tyX8_ok, nmX8⟩ rfl rfl rfl (fun _ => ⟨rfl, rfl⟩) (by decide +kernel)) <|
  mF (sn_vret (pc := 15) X hr hk (by decide +kernel)) <|
  mF0
theorem me_X8_init (l : Launch) (B : mBs) : mMet l B yX8_init cX8_init 1 none 2 10 65 C_X8_init := mMet_of (own := RX8) (by decide) rfl (fun p e s m args below meth c Q X hr hk hn => sd_X8_init l B p e s m args below meth c Q X hr hk hn)
/-! PuppetStage$Spans.has(I)Z: 10 instructions, depth 0, makes 0 cells of 0 slots -/
def tb_X9_has : mTb := [(0, aLI 1 1), (1, aIf (fun x => x < 0) 16 4), (4, aLI 1 5), (5, aLA 0 6), (6, aGI 9 2 9), (9, aIc (fun x y => y ≤ x) 16 12), (12, aPI 1 13), (13, aGo 17), (16, aPI 0 17), (17, aRZ)]
theorem mt_X9_has : mMT tb_X9_has :=
  mF (mn_LI _ _) <|
  mF (mn_If _ _ _) <|
  mF (mn_LI _ _) <|
  mF (mn_LA _ _) <|
  mF (mn_GI _ _ _) <|
  mF (mn_Ic _ _ _) <|
  mF (mn_PI _ _) <|
  mF (mn_Go _) <|
  mF (mn_PI _ _) <|
  mF (mn_RZ) <|
  mF0
def C_X9_has : mCo := mRun tb_X9_has 2
theorem mc_X9_has : mMC C_X9_has := mRun_mn mt_X9_has 2
theorem yi_X9_has : mYin yX9_has cX9_has 2 (some .boolean) 1 := ⟨wd_52, wd_444, by decide +kernel, by decide⟩
set_option maxRecDepth 100000 in
set_option maxHeartbeats 4000000 in
theorem sd_X9_has (l : Launch) (B : mBs) (p : Program) (e : Env) (s : State) (m : MethodId) (args : Array Value) (below : List Frame) (meth : Method) (c : Code) (Q : mQo) (X : mCx l B RX9 cX9_has 2 p s m args c) (hr : meth.sig.returnType = (some .boolean)) (hk : meth.locks = false) (hn : meth.name = "has") : ∀ q ∈ tb_X9_has, mSnd l B 2 p e (mRm 0 0 0) s m args below meth c (MQ below (mPo B Q) args s 0 0 (mA B)) (fun r h' => (h'.1.2.1 ≤ 0 ∧ h'.1.2.2 ≤ 0) ∧ Q r h') q.2 q.1 :=
  mF (sn_iload_n (pc := 0) (j := 1) X (by decide +kernel) rfl) <|
  mF (sn_if_lt (pc := 1) (off := 15) X (by decide +kernel) (by decide)) <|
  mF (sn_iload_n (pc := 4) (j := 1) X (by decide +kernel) rfl) <|
  mF (sn_aload_n (pc := 5) (j := 0) X (by decide +kernel) rfl) <|
  mF (sn_getI (pc := 6) X fd_X9_18 (by decide +kernel)) <|
  mF (sn_icmp_ge (pc := 9) (off := 7) X (by decide +kernel) (by decide)) <|
  mF (sn_iconst (pc := 12) (n := 1) X (by decide +kernel) (by decide)) <|
  mF (sn_goto (pc := 13) (off := 4) X (by decide +kernel) (by decide)) <|
  mF (sn_iconst (pc := 16) (n := 0) X (by decide +kernel) (by decide)) <|
  mF (sn_zret (pc := 17) X hr hk (by decide +kernel)) <|
  mF0
theorem me_X9_has (l : Launch) (B : mBs) : mMet l B yX9_has cX9_has 2 (some .boolean) 0 0 0 C_X9_has := mMet_of (own := RX9) (by decide) rfl (fun p e s m args below meth c Q X hr hk hn => sd_X9_has l B p e s m args below meth c Q X hr hk hn)
/-! PuppetStage$Spans.leastOf(I)I: 11 instructions, depth 1, makes 0 cells of 0 slots -/
def tb_X9_leastOf : mTb := [(0, aLA 0 1), (1, aLI 1 2), (2, aCV 9 1 C_X9_has 5), (5, aIf (fun x => x = 0) 17 8), (8, aLA 0 9), (9, aGR 9 0 12), (12, aLI 1 13), (13, aIA 14), (14, aGo 19), (17, aPI (-32) 19), (19, aRI)]
theorem mt_X9_leastOf : mMT tb_X9_leastOf :=
  mF (mn_LA _ _) <|
  mF (mn_LI _ _) <|
  mF (mn_CV _ _ mc_X9_has _) <|
  mF (mn_If _ _ _) <|
  mF (mn_LA _ _) <|
  mF (mn_GR _ _ _) <|
  mF (mn_LI _ _) <|
  mF (mn_IA _) <|
  mF (mn_Go _) <|
  mF (mn_PI _ _) <|
  mF (mn_RI) <|
  mF0
def C_X9_leastOf : mCo := mRun tb_X9_leastOf 2
theorem mc_X9_leastOf : mMC C_X9_leastOf := mRun_mn mt_X9_leastOf 2
theorem yi_X9_leastOf : mYin yX9_leastOf cX9_leastOf 2 (some .int) 1 := ⟨wd_52, wd_440, by decide +kernel, by decide⟩
set_option maxRecDepth 100000 in
set_option maxHeartbeats 4000000 in
theorem sd_X9_leastOf (l : Launch) (B : mBs) (p : Program) (e : Env) (s : State) (m : MethodId) (args : Array Value) (below : List Frame) (meth : Method) (c : Code) (Q : mQo) (X : mCx l B RX9 cX9_leastOf 2 p s m args c) (hr : meth.sig.returnType = (some .int)) (hk : meth.locks = false) (hn : meth.name = "leastOf") : ∀ q ∈ tb_X9_leastOf, mSnd l B 2 p e (mRm 1 0 0) s m args below meth c (MQ below (mPo B Q) args s 0 0 (mA B)) (fun r h' => (h'.1.2.1 ≤ 0 ∧ h'.1.2.2 ≤ 0) ∧ Q r h') q.2 q.1 :=
  mF (sn_aload_n (pc := 0) (j := 0) X (by decide +kernel) rfl) <|
  mF (sn_iload_n (pc := 1) (j := 1) X (by decide +kernel) rfl) <|
  mF (sn_callV (pc := 2) X mc_X9_has (me_X9_has l B) yi_X9_has wd_441 wd_442 wd_443 (T := TX9) (N := 3) rfl (by decide) (by decide +kernel)) <|
  mF (sn_if_eq (pc := 5) (off := 12) X (by decide +kernel) (by decide)) <|
  mF (sn_aload_n (pc := 8) (j := 0) X (by decide +kernel) rfl) <|
  mF (sn_getR (pc := 9) X fd_X9_9 (by decide +kernel)) <|
  mF (sn_iload_n (pc := 12) (j := 1) X (by decide +kernel) rfl) <|
  mF (sn_iaload (pc := 13) X (by decide +kernel)) <|
  mF (sn_goto (pc := 14) (off := 5) X (by decide +kernel) (by decide)) <|
  mF (sn_bipush (pc := 17) (n := (-32)) X (by decide +kernel) (by decide)) <|
  mF (sn_iret (pc := 19) X hr hk (by decide +kernel)) <|
  mF0
theorem me_X9_leastOf (l : Launch) (B : mBs) : mMet l B yX9_leastOf cX9_leastOf 2 (some .int) 1 0 0 C_X9_leastOf := mMet_of (own := RX9) (by decide) rfl (fun p e s m args below meth c Q X hr hk hn => sd_X9_leastOf l B p e s m args below meth c Q X hr hk hn)
/-! PuppetStage$Spans.greatestOf(I)I: 11 instructions, depth 1, makes 0 cells of 0 slots -/
def tb_X9_greatestOf : mTb := [(0, aLA 0 1), (1, aLI 1 2), (2, aCV 9 1 C_X9_has 5), (5, aIf (fun x => x = 0) 17 8), (8, aLA 0 9), (9, aGR 9 1 12), (12, aLI 1 13), (13, aIA 14), (14, aGo 19), (17, aPI 31 19), (19, aRI)]
theorem mt_X9_greatestOf : mMT tb_X9_greatestOf :=
  mF (mn_LA _ _) <|
  mF (mn_LI _ _) <|
  mF (mn_CV _ _ mc_X9_has _) <|
  mF (mn_If _ _ _) <|
  mF (mn_LA _ _) <|
  mF (mn_GR _ _ _) <|
  mF (mn_LI _ _) <|
  mF (mn_IA _) <|
  mF (mn_Go _) <|
  mF (mn_PI _ _) <|
  mF (mn_RI) <|
  mF0
def C_X9_greatestOf : mCo := mRun tb_X9_greatestOf 2
theorem mc_X9_greatestOf : mMC C_X9_greatestOf := mRun_mn mt_X9_greatestOf 2
theorem yi_X9_greatestOf : mYin yX9_greatestOf cX9_greatestOf 2 (some .int) 1 := ⟨wd_52, wd_448, by decide +kernel, by decide⟩
set_option maxRecDepth 100000 in
set_option maxHeartbeats 4000000 in
theorem sd_X9_greatestOf (l : Launch) (B : mBs) (p : Program) (e : Env) (s : State) (m : MethodId) (args : Array Value) (below : List Frame) (meth : Method) (c : Code) (Q : mQo) (X : mCx l B RX9 cX9_greatestOf 2 p s m args c) (hr : meth.sig.returnType = (some .int)) (hk : meth.locks = false) (hn : meth.name = "greatestOf") : ∀ q ∈ tb_X9_greatestOf, mSnd l B 2 p e (mRm 1 0 0) s m args below meth c (MQ below (mPo B Q) args s 0 0 (mA B)) (fun r h' => (h'.1.2.1 ≤ 0 ∧ h'.1.2.2 ≤ 0) ∧ Q r h') q.2 q.1 :=
  mF (sn_aload_n (pc := 0) (j := 0) X (by decide +kernel) rfl) <|
  mF (sn_iload_n (pc := 1) (j := 1) X (by decide +kernel) rfl) <|
  mF (sn_callV (pc := 2) X mc_X9_has (me_X9_has l B) yi_X9_has wd_441 wd_442 wd_443 (T := TX9) (N := 3) rfl (by decide) (by decide +kernel)) <|
  mF (sn_if_eq (pc := 5) (off := 12) X (by decide +kernel) (by decide)) <|
  mF (sn_aload_n (pc := 8) (j := 0) X (by decide +kernel) rfl) <|
  mF (sn_getR (pc := 9) X fd_X9_15 (by decide +kernel)) <|
  mF (sn_iload_n (pc := 12) (j := 1) X (by decide +kernel) rfl) <|
  mF (sn_iaload (pc := 13) X (by decide +kernel)) <|
  mF (sn_goto (pc := 14) (off := 5) X (by decide +kernel) (by decide)) <|
  mF (sn_bipush (pc := 17) (n := 31) X (by decide +kernel) (by decide)) <|
  mF (sn_iret (pc := 19) X hr hk (by decide +kernel)) <|
  mF0
theorem me_X9_greatestOf (l : Launch) (B : mBs) : mMet l B yX9_greatestOf cX9_greatestOf 2 (some .int) 1 0 0 C_X9_greatestOf := mMet_of (own := RX9) (by decide) rfl (fun p e s m args below meth c Q X hr hk hn => sd_X9_greatestOf l B p e s m args below meth c Q X hr hk hn)
/-! PuppetStage$Spans.allow(II)Z: 14 instructions, depth 2, makes 0 cells of 0 slots -/
def tb_X9_allow : mTb := [(0, aLI 2 1), (1, aLA 0 2), (2, aLI 1 3), (3, aCV 9 1 C_X9_leastOf 6), (6, aIc (fun x y => x < y) 22 9), (9, aLI 2 10), (10, aLA 0 11), (11, aLI 1 12), (12, aCV 9 1 C_X9_greatestOf 15), (15, aIc (fun x y => y < x) 22 18), (18, aPI 1 19), (19, aGo 23), (22, aPI 0 23), (23, aRZ)]
theorem mt_X9_allow : mMT tb_X9_allow :=
  mF (mn_LI _ _) <|
  mF (mn_LA _ _) <|
  mF (mn_LI _ _) <|
  mF (mn_CV _ _ mc_X9_leastOf _) <|
  mF (mn_Ic _ _ _) <|
  mF (mn_LI _ _) <|
  mF (mn_LA _ _) <|
  mF (mn_LI _ _) <|
  mF (mn_CV _ _ mc_X9_greatestOf _) <|
  mF (mn_Ic _ _ _) <|
  mF (mn_PI _ _) <|
  mF (mn_Go _) <|
  mF (mn_PI _ _) <|
  mF (mn_RZ) <|
  mF0
def C_X9_allow : mCo := mRun tb_X9_allow 3
theorem mc_X9_allow : mMC C_X9_allow := mRun_mn mt_X9_allow 3
theorem yi_X9_allow : mYin yX9_allow cX9_allow 3 (some .boolean) 2 := ⟨wd_52, wd_436, by decide +kernel, by decide⟩
set_option maxRecDepth 100000 in
set_option maxHeartbeats 4000000 in
theorem sd_X9_allow (l : Launch) (B : mBs) (p : Program) (e : Env) (s : State) (m : MethodId) (args : Array Value) (below : List Frame) (meth : Method) (c : Code) (Q : mQo) (X : mCx l B RX9 cX9_allow 3 p s m args c) (hr : meth.sig.returnType = (some .boolean)) (hk : meth.locks = false) (hn : meth.name = "allow") : ∀ q ∈ tb_X9_allow, mSnd l B 3 p e (mRm 2 0 0) s m args below meth c (MQ below (mPo B Q) args s 0 0 (mA B)) (fun r h' => (h'.1.2.1 ≤ 0 ∧ h'.1.2.2 ≤ 0) ∧ Q r h') q.2 q.1 :=
  mF (sn_iload_n (pc := 0) (j := 2) X (by decide +kernel) rfl) <|
  mF (sn_aload_n (pc := 1) (j := 0) X (by decide +kernel) rfl) <|
  mF (sn_iload_n (pc := 2) (j := 1) X (by decide +kernel) rfl) <|
  mF (sn_callV (pc := 3) X mc_X9_leastOf (me_X9_leastOf l B) yi_X9_leastOf wd_437 wd_438 wd_439 (T := TX9) (N := 3) rfl (by decide) (by decide +kernel)) <|
  mF (sn_icmp_lt (pc := 6) (off := 16) X (by decide +kernel) (by decide)) <|
  mF (sn_iload_n (pc := 9) (j := 2) X (by decide +kernel) rfl) <|
  mF (sn_aload_n (pc := 10) (j := 0) X (by decide +kernel) rfl) <|
  mF (sn_iload_n (pc := 11) (j := 1) X (by decide +kernel) rfl) <|
  mF (sn_callV (pc := 12) X mc_X9_greatestOf (me_X9_greatestOf l B) yi_X9_greatestOf wd_445 wd_446 wd_447 (T := TX9) (N := 3) rfl (by decide) (by decide +kernel)) <|
  mF (sn_icmp_gt (pc := 15) (off := 7) X (by decide +kernel) (by decide)) <|
  mF (sn_iconst (pc := 18) (n := 1) X (by decide +kernel) (by decide)) <|
  mF (sn_goto (pc := 19) (off := 4) X (by decide +kernel) (by decide)) <|
  mF (sn_iconst (pc := 22) (n := 0) X (by decide +kernel) (by decide)) <|
  mF (sn_zret (pc := 23) X hr hk (by decide +kernel)) <|
  mF0
theorem me_X9_allow (l : Launch) (B : mBs) : mMet l B yX9_allow cX9_allow 3 (some .boolean) 2 0 0 C_X9_allow := mMet_of (own := RX9) (by decide) rfl (fun p e s m args below meth c Q X hr hk hn => sd_X9_allow l B p e s m args below meth c Q X hr hk hn)
/-! PuppetStage$Settler.tryOne(LPuppetStage$Puppet;II)Z: 39 instructions, depth 4, makes 0 cells of 0 slots -/
def tb_X8_tryOne : mTb := [(0, aLA 1 1), (1, aGR 7 0 4), (4, aGR 5 3 7), (7, aSA 4 9), (9, aLA 1 10), (10, aGR 7 1 13), (13, aLI 2 14), (14, aLA 4 16), (16, aLI 2 17), (17, aIA 18), (18, aLI 3 19), (19, aB (fun x y => x + y) 20), (20, aCV 9 2 C_X9_allow 23), (23, aIf (fun x => x = 0) 26 28), (26, aPI 0 27), (27, aRZ), (28, aLA 4 30), (30, aLI 2 31), (31, aDup2 32), (32, aIA 33), (33, aLI 3 34), (34, aB (fun x y => x + y) 35), (35, aIS 36), (36, aLA 0 37), (37, aGR 8 0 40), (40, aLA 1 41), (41, aCV 1 1 C_X1_isBetter 44), (44, aIf (fun x => x = 0) 49 47), (47, aPI 1 48), (48, aRZ), (49, aLA 4 51), (51, aLI 2 52), (52, aDup2 53), (53, aIA 54), (54, aLI 3 55), (55, aB (fun x y => x - y) 56), (56, aIS 57), (57, aPI 0 58), (58, aRZ)]
theorem mt_X8_tryOne : mMT tb_X8_tryOne :=
  mF (mn_LA _ _) <|
  mF (mn_GR _ _ _) <|
  mF (mn_GR _ _ _) <|
  mF (mn_SA _ _) <|
  mF (mn_LA _ _) <|
  mF (mn_GR _ _ _) <|
  mF (mn_LI _ _) <|
  mF (mn_LA _ _) <|
  mF (mn_LI _ _) <|
  mF (mn_IA _) <|
  mF (mn_LI _ _) <|
  mF (mn_B _ _) <|
  mF (mn_CV _ _ mc_X9_allow _) <|
  mF (mn_If _ _ _) <|
  mF (mn_PI _ _) <|
  mF (mn_RZ) <|
  mF (mn_LA _ _) <|
  mF (mn_LI _ _) <|
  mF (mn_Dup2 _) <|
  mF (mn_IA _) <|
  mF (mn_LI _ _) <|
  mF (mn_B _ _) <|
  mF (mn_IS _) <|
  mF (mn_LA _ _) <|
  mF (mn_GR _ _ _) <|
  mF (mn_LA _ _) <|
  mF (mn_CV _ _ mc_X1_isBetter _) <|
  mF (mn_If _ _ _) <|
  mF (mn_PI _ _) <|
  mF (mn_RZ) <|
  mF (mn_LA _ _) <|
  mF (mn_LI _ _) <|
  mF (mn_Dup2 _) <|
  mF (mn_IA _) <|
  mF (mn_LI _ _) <|
  mF (mn_B _ _) <|
  mF (mn_IS _) <|
  mF (mn_PI _ _) <|
  mF (mn_RZ) <|
  mF0
def C_X8_tryOne : mCo := mRun tb_X8_tryOne 5
theorem mc_X8_tryOne : mMC C_X8_tryOne := mRun_mn mt_X8_tryOne 5
theorem yi_X8_tryOne : mYin yX8_tryOne cX8_tryOne 5 (some .boolean) 3 := ⟨wd_58, wd_739, by decide +kernel, by decide⟩
set_option maxRecDepth 100000 in
set_option maxHeartbeats 4000000 in
theorem sd_X8_tryOne (l : Launch) (B : mBs) (p : Program) (e : Env) (s : State) (m : MethodId) (args : Array Value) (below : List Frame) (meth : Method) (c : Code) (Q : mQo) (X : mCx l B RX8 cX8_tryOne 5 p s m args c) (hr : meth.sig.returnType = (some .boolean)) (hk : meth.locks = false) (hn : meth.name = "tryOne") : ∀ q ∈ tb_X8_tryOne, mSnd l B 5 p e (mRm 4 0 0) s m args below meth c (MQ below (mPo B Q) args s 0 0 (mA B)) (fun r h' => (h'.1.2.1 ≤ 0 ∧ h'.1.2.2 ≤ 0) ∧ Q r h') q.2 q.1 :=
  mF (sn_aload_n (pc := 0) (j := 1) X (by decide +kernel) rfl) <|
  mF (sn_getR (pc := 1) X fd_X8_37 (by decide +kernel)) <|
  mF (sn_getR (pc := 4) X fd_X8_54 (by decide +kernel)) <|
  mF (sn_astore (pc := 7) X (by decide +kernel) (by decide)) <|
  mF (sn_aload_n (pc := 9) (j := 1) X (by decide +kernel) rfl) <|
  mF (sn_getR (pc := 10) X fd_X8_58 (by decide +kernel)) <|
  mF (sn_iload_n (pc := 13) (j := 2) X (by decide +kernel) rfl) <|
  mF (sn_aload (pc := 14) X (by decide +kernel)) <|
  mF (sn_iload_n (pc := 16) (j := 2) X (by decide +kernel) rfl) <|
  mF (sn_iaload (pc := 17) X (by decide +kernel)) <|
  mF (sn_iload_n (pc := 18) (j := 3) X (by decide +kernel) rfl) <|
  mF (sn_iadd (pc := 19) X (by decide +kernel)) <|
  mF (sn_callV (pc := 20) X mc_X9_allow (me_X9_allow l B) yi_X9_allow wd_740 wd_434 wd_435 (T := TX9) (N := 3) rfl (by decide) (by decide +kernel)) <|
  mF (sn_if_ne (pc := 23) (off := 5) X (by decide +kernel) (by decide)) <|
  mF (sn_iconst (pc := 26) (n := 0) X (by decide +kernel) (by decide)) <|
  mF (sn_zret (pc := 27) X hr hk (by decide +kernel)) <|
  mF (sn_aload (pc := 28) X (by decide +kernel)) <|
  mF (sn_iload_n (pc := 30) (j := 2) X (by decide +kernel) rfl) <|
  mF (sn_dup2 (pc := 31) X (by decide +kernel)) <|
  mF (sn_iaload (pc := 32) X (by decide +kernel)) <|
  mF (sn_iload_n (pc := 33) (j := 3) X (by decide +kernel) rfl) <|
  mF (sn_iadd (pc := 34) X (by decide +kernel)) <|
  mF (sn_iastore (pc := 35) X (by decide +kernel)) <|
  mF (sn_aload_n (pc := 36) (j := 0) X (by decide +kernel) rfl) <|
  mF (sn_getR (pc := 37) X fd_X8_10 (by decide +kernel)) <|
  mF (sn_aload_n (pc := 40) (j := 1) X (by decide +kernel) rfl) <|
  mF (sn_callV (pc := 41) X mc_X1_isBetter (me_X1_isBetter l B) yi_X1_isBetter wd_725 wd_726 wd_727 (T := TX1) (N := 11) rfl (by decide) (by decide +kernel)) <|
  mF (sn_if_eq (pc := 44) (off := 5) X (by decide +kernel) (by decide)) <|
  mF (sn_iconst (pc := 47) (n := 1) X (by decide +kernel) (by decide)) <|
  mF (sn_zret (pc := 48) X hr hk (by decide +kernel)) <|
  mF (sn_aload (pc := 49) X (by decide +kernel)) <|
  mF (sn_iload_n (pc := 51) (j := 2) X (by decide +kernel) rfl) <|
  mF (sn_dup2 (pc := 52) X (by decide +kernel)) <|
  mF (sn_iaload (pc := 53) X (by decide +kernel)) <|
  mF (sn_iload_n (pc := 54) (j := 3) X (by decide +kernel) rfl) <|
  mF (sn_isub (pc := 55) X (by decide +kernel)) <|
  mF (sn_iastore (pc := 56) X (by decide +kernel)) <|
  mF (sn_iconst (pc := 57) (n := 0) X (by decide +kernel) (by decide)) <|
  mF (sn_zret (pc := 58) X hr hk (by decide +kernel)) <|
  mF0
theorem me_X8_tryOne (l : Launch) (B : mBs) : mMet l B yX8_tryOne cX8_tryOne 5 (some .boolean) 4 0 0 C_X8_tryOne := mMet_of (own := RX8) (by decide) rfl (fun p e s m args below meth c Q X hr hk hn => sd_X8_tryOne l B p e s m args below meth c Q X hr hk hn)
