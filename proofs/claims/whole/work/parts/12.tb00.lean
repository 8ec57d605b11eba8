/-! PuppetStage$Cross.<init>()V: 20 instructions, depth 1, makes 2 cells of 12 slots -/
def tb_X0_init : mTb := [(0, aLA 0 1), (1, aObj 4), (4, aLA 0 5), (5, aPI 6 7), (7, aNI 0 2 12 9), (9, aWR 0 0 12), (12, aLA 0 13), (13, aPI 6 15), (15, aNI 0 2 12 17), (17, aWR 0 1 20), (20, aLA 0 21), (21, aPI 0 22), (22, aWI 0 2 25), (25, aLA 0 26), (26, aPI 100 28), (28, aWI 0 3 31), (31, aLA 0 32), (32, aPI 0 33), (33, aWI 0 4 36), (36, aRV)]
theorem mt_X0_init : mMT tb_X0_init :=
  mF (mn_LA _ _) <|
  mF (mn_Obj _) <|
  mF (mn_LA _ _) <|
  mF (mn_PI _ _) <|
  mF (mn_NI _ _ _ _) <|
  mF (mn_WR _ _ _) <|
  mF (mn_LA _ _) <|
  mF (mn_PI _ _) <|
  mF (mn_NI _ _ _ _) <|
  mF (mn_WR _ _ _) <|
  mF (mn_LA _ _) <|
  mF (mn_PI _ _) <|
  mF (mn_WI _ _ _) <|
  mF (mn_LA _ _) <|
  mF (mn_PI _ _) <|
  mF (mn_WI _ _ _) <|
  mF (mn_LA _ _) <|
  mF (mn_PI _ _) <|
  mF (mn_WI _ _ _) <|
  mF (mn_RV) <|
  mF0
def C_X0_init : mCo := mRun tb_X0_init 1
theorem mc_X0_init : mMC C_X0_init := mRun_mn mt_X0_init 1
theorem yi_X0_init : mYin yX0_init cX0_init 1 none 0 := ⟨wd_53, wd_152, by decide +kernel, by decide⟩
set_option maxRecDepth 100000 in
set_option maxHeartbeats 4000000 in
theorem sd_X0_init (l : Launch) (B : mBs) (p : Program) (e : Env) (s : State) (m : MethodId) (args : Array Value) (below : List Frame) (meth : Method) (c : Code) (Q : mQo) (X : mCx l B RX0 cX0_init 1 p s m args c) (hr : meth.sig.returnType = none) (hk : meth.locks = false) (hn : meth.name = "<init>") : ∀ q ∈ tb_X0_init, mSnd l B 1 p e (mRm 1 2 12) s m args below meth c (MQ below (mPo B Q) args s 2 12 (mA B)) (fun r h' => (h'.1.2.1 ≤ 2 ∧ h'.1.2.2 ≤ 12) ∧ Q r h') q.2 q.1 :=
  mF (sn_aload_n (pc := 0) (j := 0) X (by decide +kernel) rfl) <|
  mF (sn_obj (pc := 1) X (by decide) wd_153 wd_70 wd_71 (by decide +kernel)) <|
  mF (sn_aload_n (pc := 4) (j := 0) X (by decide +kernel) rfl) <|
  mF (sn_bipush (pc := 5) (n := 6) X (by decide +kernel) (by decide)) <|
  mF (sn_newI (pc := 7) X wd_126 (by decide +kernel)) <|
  mF (sn_putR (D' := "") (pc := 9) X hn fd_X0_9 ⟨tyX0_ok, nmX0⟩ rfl rfl rfl (fun _ => ⟨rfl, rfl⟩) (by decide +kernel)) <|
  mF (sn_aload_n (pc := 12) (j := 0) X (by decide +kernel) rfl) <|
  mF (sn_bipush (pc := 13) (n := 6) X (by decide +kernel) (by decide)) <|
  mF (sn_newI (pc := 15) X wd_126 (by decide +kernel)) <|
  mF (sn_putR (D' := "") (pc := 17) X hn fd_X0_15 ⟨tyX0_ok, nmX0⟩ rfl rfl rfl (fun _ => ⟨rfl, rfl⟩) (by decide +kernel)) <|
  mF (sn_aload_n (pc := 20) (j := 0) X (by decide +kernel) rfl) <|
  mF (sn_iconst (pc := 21) (n := 0) X (by decide +kernel) (by decide)) <|
  mF (sn_putI (pc := 22) X fd_X0_18 ⟨tyX0_ok, nmX0⟩ rfl rfl (by decide +kernel)) <|
  mF (sn_aload_n (pc := 25) (j := 0) X (by decide +kernel) rfl) <|
  mF (sn_bipush (pc := 26) (n := 100) X (by decide +kernel) (by decide)) <|
  mF (sn_putI (pc := 28) X fd_X0_22 ⟨tyX0_ok, nmX0⟩ rfl rfl (by decide +kernel)) <|
  mF (sn_aload_n (pc := 31) (j := 0) X (by decide +kernel) rfl) <|
  mF (sn_iconst (pc := 32) (n := 0) X (by decide +kernel) (by decide)) <|
  mF (sn_putI (pc := 33) X fd_X0_25 ⟨tyX0_ok, nmX0⟩ rfl rfl (by decide +kernel)) <|
  mF (sn_vret (pc := 36) X hr hk (by decide +kernel)) <|
  mF0
theorem me_X0_init (l : Launch) (B : mBs) : mMet l B yX0_init cX0_init 1 none 1 2 12 C_X0_init := mMet_of (own := RX0) (by decide) rfl (fun p e s m args below meth c Q X hr hk hn => sd_X0_init l B p e s m args below meth c Q X hr hk hn)
/-! PuppetStage$Cross.put(III)V: 10 instructions, depth 0, makes 0 cells of 0 slots -/
def tb_X0_put : mTb := [(0, aLA 0 1), (1, aLI 1 2), (2, aWI 0 2 5), (5, aLA 0 6), (6, aLI 2 7), (7, aWI 0 3 10), (10, aLA 0 11), (11, aLI 3 12), (12, aWI 0 4 15), (15, aRV)]
theorem mt_X0_put : mMT tb_X0_put :=
  mF (mn_LA _ _) <|
  mF (mn_LI _ _) <|
  mF (mn_WI _ _ _) <|
  mF (mn_LA _ _) <|
  mF (mn_LI _ _) <|
  mF (mn_WI _ _ _) <|
  mF (mn_LA _ _) <|
  mF (mn_LI _ _) <|
  mF (mn_WI _ _ _) <|
  mF (mn_RV) <|
  mF0
def C_X0_put : mCo := mRun tb_X0_put 4
theorem mc_X0_put : mMC C_X0_put := mRun_mn mt_X0_put 4
theorem yi_X0_put : mYin yX0_put cX0_put 4 none 3 := ⟨wd_53, wd_485, by decide +kernel, by decide⟩
set_option maxRecDepth 100000 in
set_option maxHeartbeats 4000000 in
theorem sd_X0_put (l : Launch) (B : mBs) (p : Program) (e : Env) (s : State) (m : MethodId) (args : Array Value) (below : List Frame) (meth : Method) (c : Code) (Q : mQo) (X : mCx l B RX0 cX0_put 4 p s m args c) (hr : meth.sig.returnType = none) (hk : meth.locks = false) (hn : meth.name = "put") : ∀ q ∈ tb_X0_put, mSnd l B 4 p e (mRm 0 0 0) s m args below meth c (MQ below (mPo B Q) args s 0 0 (mA B)) (fun r h' => (h'.1.2.1 ≤ 0 ∧ h'.1.2.2 ≤ 0) ∧ Q r h') q.2 q.1 :=
  mF (sn_aload_n (pc := 0) (j := 0) X (by decide +kernel) rfl) <|
  mF (sn_iload_n (pc := 1) (j := 1) X (by decide +kernel) rfl) <|
  mF (sn_putI (pc := 2) X fd_X0_18 ⟨tyX0_ok, nmX0⟩ rfl rfl (by decide +kernel)) <|
  mF (sn_aload_n (pc := 5) (j := 0) X (by decide +kernel) rfl) <|
  mF (sn_iload_n (pc := 6) (j := 2) X (by decide +kernel) rfl) <|
  mF (sn_putI (pc := 7) X fd_X0_22 ⟨tyX0_ok, nmX0⟩ rfl rfl (by decide +kernel)) <|
  mF (sn_aload_n (pc := 10) (j := 0) X (by decide +kernel) rfl) <|
  mF (sn_iload_n (pc := 11) (j := 3) X (by decide +kernel) rfl) <|
  mF (sn_putI (pc := 12) X fd_X0_25 ⟨tyX0_ok, nmX0⟩ rfl rfl (by decide +kernel)) <|
  mF (sn_vret (pc := 15) X hr hk (by decide +kernel)) <|
  mF0
theorem me_X0_put (l : Launch) (B : mBs) : mMet l B yX0_put cX0_put 4 none 0 0 0 C_X0_put := mMet_of (own := RX0) (by decide) rfl (fun p e s m args below meth c Q X hr hk hn => sd_X0_put l B p e s m args below meth c Q X hr hk hn)
/-! PuppetStage.copyRow([I[I)V: 11 instructions, depth 1, makes 0 cells of 0 slots -/
def tb_X10_copyRow : mTb := [(0, aLA 0 1), (1, aPI 0 2), (2, aLA 1 3), (3, aPI 0 4), (4, aLA 0 5), (5, aLen 6), (6, aLA 1 7), (7, aLen 8), (8, aM2 (fun x y => if y < x then y else x) 11), (11, aCp 14), (14, aRV)]
theorem mt_X10_copyRow : mMT tb_X10_copyRow :=
  mF (mn_LA _ _) <|
  mF (mn_PI _ _) <|
  mF (mn_LA _ _) <|
  mF (mn_PI _ _) <|
  mF (mn_LA _ _) <|
  mF (mn_Len _) <|
  mF (mn_LA _ _) <|
  mF (mn_Len _) <|
  mF (mn_M2 _ _) <|
  mF (mn_Cp _) <|
  mF (mn_RV) <|
  mF0
def C_X10_copyRow : mCo := mRun tb_X10_copyRow 2
theorem mc_X10_copyRow : mMC C_X10_copyRow := mRun_mn mt_X10_copyRow 2
theorem yi_X10_copyRow : mYin yX10_copyRow cX10_copyRow 2 none 2 := ⟨wd_49, wd_465, by decide +kernel, by decide⟩
set_option maxRecDepth 100000 in
set_option maxHeartbeats 4000000 in
theorem sd_X10_copyRow (l : Launch) (B : mBs) (p : Program) (e : Env) (s : State) (m : MethodId) (args : Array Value) (below : List Frame) (meth : Method) (c : Code) (Q : mQo) (X : mCx l B RX10 cX10_copyRow 2 p s m args c) (hr : meth.sig.returnType = none) (hk : meth.locks = false) (hn : meth.name = "copyRow") : ∀ q ∈ tb_X10_copyRow, mSnd l B 2 p e (mRm 1 0 0) s m args below meth c (MQ below (mPo B Q) args s 0 0 (mA B)) (fun r h' => (h'.1.2.1 ≤ 0 ∧ h'.1.2.2 ≤ 0) ∧ Q r h') q.2 q.1 :=
  mF (sn_aload_n (pc := 0) (j := 0) X (by decide +kernel) rfl) <|
  mF (sn_iconst (pc := 1) (n := 0) X (by decide +kernel) (by decide)) <|
  mF (sn_aload_n (pc := 2) (j := 1) X (by decide +kernel) rfl) <|
  mF (sn_iconst (pc := 3) (n := 0) X (by decide +kernel) (by decide)) <|
  mF (sn_aload_n (pc := 4) (j := 0) X (by decide +kernel) rfl) <|
  mF (sn_alen (pc := 5) X (by decide +kernel)) <|
  mF (sn_aload_n (pc := 6) (j := 1) X (by decide +kernel) rfl) <|
  mF (sn_alen (pc := 7) X (by decide +kernel)) <|
  mF (sn_min (pc := 8) X (by decide) wd_466 wd_467 wd_61 wd_468 (by decide +kernel)) <|
  mF (sn_copy (pc := 11) X (by decide) wd_469 wd_471 wd_470 wd_62 (by decide +kernel)) <|
  mF (sn_vret (pc := 14) X hr hk (by decide +kernel)) <|
  mF0
theorem me_X10_copyRow (l : Launch) (B : mBs) : mMet l B yX10_copyRow cX10_copyRow 2 none 1 0 0 C_X10_copyRow := mMet_of (own := RX10) (by decide) rfl (fun p e s m args below meth c Q X hr hk hn => sd_X10_copyRow l B p e s m args below meth c Q X hr hk hn)
/-! PuppetStage$Cross.become(LPuppetStage$Cross;)V: 19 instructions, depth 2, makes 0 cells of 0 slots -/
def tb_X0_become : mTb := [(0, aLA 1 1), (1, aGR 0 0 4), (4, aLA 0 5), (5, aGR 0 0 8), (8, aCS 2 C_X10_copyRow 11), (11, aLA 1 12), (12, aGR 0 1 15), (15, aLA 0 16), (16, aGR 0 1 19), (19, aCS 2 C_X10_copyRow 22), (22, aLA 0 23), (23, aLA 1 24), (24, aGI 0 2 27), (27, aLA 1 28), (28, aGI 0 3 31), (31, aLA 1 32), (32, aGI 0 4 35), (35, aCV 0 3 C_X0_put 38), (38, aRV)]
theorem mt_X0_become : mMT tb_X0_become :=
  mF (mn_LA _ _) <|
  mF (mn_GR _ _ _) <|
  mF (mn_LA _ _) <|
  mF (mn_GR _ _ _) <|
  mF (mn_CS _ mc_X10_copyRow _) <|
  mF (mn_LA _ _) <|
  mF (mn_GR _ _ _) <|
  mF (mn_LA _ _) <|
  mF (mn_GR _ _ _) <|
  mF (mn_CS _ mc_X10_copyRow _) <|
  mF (mn_LA _ _) <|
  mF (mn_LA _ _) <|
  mF (mn_GI _ _ _) <|
  mF (mn_LA _ _) <|
  mF (mn_GI _ _ _) <|
  mF (mn_LA _ _) <|
  mF (mn_GI _ _ _) <|
  mF (mn_CV _ _ mc_X0_put _) <|
  mF (mn_RV) <|
  mF0
def C_X0_become : mCo := mRun tb_X0_become 2
theorem mc_X0_become : mMC C_X0_become := mRun_mn mt_X0_become 2
theorem yi_X0_become : mYin yX0_become cX0_become 2 none 1 := ⟨wd_53, wd_480, by decide +kernel, by decide⟩
set_option maxRecDepth 100000 in
set_option maxHeartbeats 4000000 in
theorem sd_X0_become (l : Launch) (B : mBs) (p : Program) (e : Env) (s : State) (m : MethodId) (args : Array Value) (below : List Frame) (meth : Method) (c : Code) (Q : mQo) (X : mCx l B RX0 cX0_become 2 p s m args c) (hr : meth.sig.returnType = none) (hk : meth.locks = false) (hn : meth.name = "become") : ∀ q ∈ tb_X0_become, mSnd l B 2 p e (mRm 2 0 0) s m args below meth c (MQ below (mPo B Q) args s 0 0 (mA B)) (fun r h' => (h'.1.2.1 ≤ 0 ∧ h'.1.2.2 ≤ 0) ∧ Q r h') q.2 q.1 :=
  mF (sn_aload_n (pc := 0) (j := 1) X (by decide +kernel) rfl) <|
  mF (sn_getR (pc := 1) X fd_X0_9 (by decide +kernel)) <|
  mF (sn_aload_n (pc := 4) (j := 0) X (by decide +kernel) rfl) <|
  mF (sn_getR (pc := 5) X fd_X0_9 (by decide +kernel)) <|
  mF (sn_callSN (pc := 8) X mc_X10_copyRow (me_X10_copyRow l B) yi_X10_copyRow wd_481 wd_464 (by decide) (by decide +kernel)) <|
  mF (sn_aload_n (pc := 11) (j := 1) X (by decide +kernel) rfl) <|
  mF (sn_getR (pc := 12) X fd_X0_15 (by decide +kernel)) <|
  mF (sn_aload_n (pc := 15) (j := 0) X (by decide +kernel) rfl) <|
  mF (sn_getR (pc := 16) X fd_X0_15 (by decide +kernel)) <|
  mF (sn_callSN (pc := 19) X mc_X10_copyRow (me_X10_copyRow l B) yi_X10_copyRow wd_481 wd_464 (by decide) (by decide +kernel)) <|
  mF (sn_aload_n (pc := 22) (j := 0) X (by decide +kernel) rfl) <|
  mF (sn_aload_n (pc := 23) (j := 1) X (by decide +kernel) rfl) <|
  mF (sn_getI (pc := 24) X fd_X0_18 (by decide +kernel)) <|
  mF (sn_aload_n (pc := 27) (j := 1) X (by decide +kernel) rfl) <|
  mF (sn_getI (pc := 28) X fd_X0_22 (by decide +kernel)) <|
  mF (sn_aload_n (pc := 31) (j := 1) X (by decide +kernel) rfl) <|
  mF (sn_getI (pc := 32) X fd_X0_25 (by decide +kernel)) <|
  mF (sn_callV (pc := 35) X mc_X0_put (me_X0_put l B) yi_X0_put wd_482 wd_483 wd_484 (T := TX0) (N := 5) rfl (by decide) (by decide +kernel)) <|
  mF (sn_vret (pc := 38) X hr hk (by decide +kernel)) <|
  mF0
theorem me_X0_become (l : Launch) (B : mBs) : mMet l B yX0_become cX0_become 2 none 2 0 0 C_X0_become := mMet_of (own := RX0) (by decide) rfl (fun p e s m args below meth c Q X hr hk hn => sd_X0_become l B p e s m args below meth c Q X hr hk hn)
/-! PuppetStage.turnSigns([II)V: 19 instructions, depth 0, makes 0 cells of 0 slots -/
def tb_X10_turnSigns : mTb := [(0, aPI 0 1), (1, aSI 2 2), (2, aLI 2 3), (3, aLI 1 4), (4, aIc (fun x y => y ≤ x) 26 7), (7, aLI 2 8), (8, aLA 0 9), (9, aLen 10), (10, aIc (fun x y => y ≤ x) 26 13), (13, aLA 0 14), (14, aLI 2 15), (15, aLA 0 16), (16, aLI 2 17), (17, aIA 18), (18, aU (fun x => -x) 19), (19, aIS 20), (20, aInc 2 1 23), (23, aGo 2), (26, aRV)]
theorem mt_X10_turnSigns : mMT tb_X10_turnSigns :=
  mF (mn_PI _ _) <|
  mF (mn_SI _ _) <|
  mF (mn_LI _ _) <|
  mF (mn_LI _ _) <|
  mF (mn_Ic _ _ _) <|
  mF (mn_LI _ _) <|
  mF (mn_LA _ _) <|
  mF (mn_Len _) <|
  mF (mn_Ic _ _ _) <|
  mF (mn_LA _ _) <|
  mF (mn_LI _ _) <|
  mF (mn_LA _ _) <|
  mF (mn_LI _ _) <|
  mF (mn_IA _) <|
  mF (mn_U _ _) <|
  mF (mn_IS _) <|
  mF (mn_Inc _ _ _) <|
  mF (mn_Go _) <|
  mF (mn_RV) <|
  mF0
def C_X10_turnSigns : mCo := mRun tb_X10_turnSigns 3
theorem mc_X10_turnSigns : mMC C_X10_turnSigns := mRun_mn mt_X10_turnSigns 3
theorem yi_X10_turnSigns : mYin yX10_turnSigns cX10_turnSigns 3 none 2 := ⟨wd_49, wd_875, by decide +kernel, by decide⟩
set_option maxRecDepth 100000 in
set_option maxHeartbeats 4000000 in
theorem sd_X10_turnSigns (l : Launch) (B : mBs) (p : Program) (e : Env) (s : State) (m : MethodId) (args : Array Value) (below : List Frame) (meth : Method) (c : Code) (Q : mQo) (X : mCx l B RX10 cX10_turnSigns 3 p s m args c) (hr : meth.sig.returnType = none) (hk : meth.locks = false) (hn : meth.name = "turnSigns") : ∀ q ∈ tb_X10_turnSigns, mSnd l B 3 p e (mRm 0 0 0) s m args below meth c (MQ below (mPo B Q) args s 0 0 (mA B)) (fun r h' => (h'.1.2.1 ≤ 0 ∧ h'.1.2.2 ≤ 0) ∧ Q r h') q.2 q.1 :=
  mF (sn_iconst (pc := 0) (n := 0) X (by decide +kernel) (by decide)) <|
  mF (sn_istore_n (pc := 1) (j := 2) X (by decide +kernel) rfl (by decide)) <|
  mF (sn_iload_n (pc := 2) (j := 2) X (by decide +kernel) rfl) <|
  mF (sn_iload_n (pc := 3) (j := 1) X (by decide +kernel) rfl) <|
  mF (sn_icmp_ge (pc := 4) (off := 22) X (by decide +kernel) (by decide)) <|
  mF (sn_iload_n (pc := 7) (j := 2) X (by decide +kernel) rfl) <|
  mF (sn_aload_n (pc := 8) (j := 0) X (by decide +kernel) rfl) <|
  mF (sn_alen (pc := 9) X (by decide +kernel)) <|
  mF (sn_icmp_ge (pc := 10) (off := 16) X (by decide +kernel) (by decide)) <|
  mF (sn_aload_n (pc := 13) (j := 0) X (by decide +kernel) rfl) <|
  mF (sn_iload_n (pc := 14) (j := 2) X (by decide +kernel) rfl) <|
  mF (sn_aload_n (pc := 15) (j := 0) X (by decide +kernel) rfl) <|
  mF (sn_iload_n (pc := 16) (j := 2) X (by decide +kernel) rfl) <|
  mF (sn_iaload (pc := 17) X (by decide +kernel)) <|
  mF (sn_ineg (pc := 18) X (by decide +kernel)) <|
  mF (sn_iastore (pc := 19) X (by decide +kernel)) <|
  mF (sn_iinc (pc := 20) (n := 1) X (by decide +kernel) (by decide) (by decide)) <|
  mF (sn_goto (pc := 23) (off := (-21)) X (by decide +kernel) (by decide)) <|
  mF (sn_vret (pc := 26) X hr hk (by decide +kernel)) <|
  mF0
theorem me_X10_turnSigns (l : Launch) (B : mBs) : mMet l B yX10_turnSigns cX10_turnSigns 3 none 0 0 0 C_X10_turnSigns := mMet_of (own := RX10) (by decide) rfl (fun p e s m args below meth c Q X hr hk hn => sd_X10_turnSigns l B p e s m args below meth c Q X hr hk hn)
/-! PuppetStage$Cross.turnOver()V: 15 instructions, depth 1, makes 0 cells of 0 slots -/
def tb_X0_turnOver : mTb := [(0, aLA 0 1), (1, aLA 0 2), (2, aGI 0 2 5), (5, aU (fun x => -x) 6), (6, aWI 0 2 9), (9, aLA 0 10), (10, aLA 0 11), (11, aGI 0 4 14), (14, aU (fun x => -x) 15), (15, aWI 0 4 18), (18, aLA 0 19), (19, aGR 0 0 22), (22, aPI 6 24), (24, aCS 2 C_X10_turnSigns 27), (27, aRV)]
theorem mt_X0_turnOver : mMT tb_X0_turnOver :=
  mF (mn_LA _ _) <|
  mF (mn_LA _ _) <|
  mF (mn_GI _ _ _) <|
  mF (mn_U _ _) <|
  mF (mn_WI _ _ _) <|
  mF (mn_LA _ _) <|
  mF (mn_LA _ _) <|
  mF (mn_GI _ _ _) <|
  mF (mn_U _ _) <|
  mF (mn_WI _ _ _) <|
  mF (mn_LA _ _) <|
  mF (mn_GR _ _ _) <|
  mF (mn_PI _ _) <|
  mF (mn_CS _ mc_X10_turnSigns _) <|
  mF (mn_RV) <|
  mF0
def C_X0_turnOver : mCo := mRun tb_X0_turnOver 1
theorem mc_X0_turnOver : mMC C_X0_turnOver := mRun_mn mt_X0_turnOver 1
theorem yi_X0_turnOver : mYin yX0_turnOver cX0_turnOver 1 none 0 := ⟨wd_53, wd_883, by decide +kernel, by decide⟩
set_option maxRecDepth 100000 in
set_option maxHeartbeats 4000000 in
theorem sd_X0_turnOver (l : Launch) (B : mBs) (p : Program) (e : Env) (s : State) (m : MethodId) (args : Array Value) (below : List Frame) (meth : Method) (c : Code) (Q : mQo) (X : mCx l B RX0 cX0_turnOver 1 p s m args c) (hr : meth.sig.returnType = none) (hk : meth.locks = false) (hn : meth.name = "turnOver") : ∀ q ∈ tb_X0_turnOver, mSnd l B 1 p e (mRm 1 0 0) s m args below meth c (MQ below (mPo B Q) args s 0 0 (mA B)) (fun r h' => (h'.1.2.1 ≤ 0 ∧ h'.1.2.2 ≤ 0) ∧ Q r h') q.2 q.1 :=
  mF (sn_aload_n (pc := 0) (j := 0) X (by decide +kernel) rfl) <|
  mF (sn_aload_n (pc := 1) (j := 0) X (by decide +kernel) rfl) <|
  mF (sn_getI (pc := 2) X fd_X0_18 (by decide +kernel)) <|
  mF (sn_ineg (pc := 5) X (by decide +kernel)) <|
  mF (sn_putI (pc := 6) X fd_X0_18 ⟨tyX0_ok, nmX0⟩ rfl rfl (by decide +kernel)) <|
  mF (sn_aload_n (pc := 9) (j := 0) X (by decide +kernel) rfl) <|
  mF (sn_aload_n (pc := 10) (j := 0) X (by decide +kernel) rfl) <|
  mF (sn_getI (pc := 11) X fd_X0_25 (by decide +kernel)) <|
  mF (sn_ineg (pc := 14) X (by decide +kernel)) <|
  mF (sn_putI (pc := 15) X fd_X0_25 ⟨tyX0_ok, nmX0⟩ rfl rfl (by decide +kernel)) <|
  mF (sn_aload_n (pc := 18) (j := 0) X (by decide +kernel) rfl) <|
  mF (sn_getR (pc := 19) X fd_X0_9 (by decide +kernel)) <|
  mF (sn_bipush (pc := 22) (n := 6) X (by decide +kernel) (by decide)) <|
  mF (sn_callSN (pc := 24) X mc_X10_turnSigns (me_X10_turnSigns l B) yi_X10_turnSigns wd_884 wd_874 (by decide) (by decide +kernel)) <|
  mF (sn_vret (pc := 27) X hr hk (by decide +kernel)) <|
  mF0
theorem me_X0_turnOver (l : Launch) (B : mBs) : mMet l B yX0_turnOver cX0_turnOver 1 none 1 0 0 C_X0_turnOver := mMet_of (own := RX0) (by decide) rfl (fun p e s m args below meth c Q X hr hk hn => sd_X0_turnOver l B p e s m args below meth c Q X hr hk hn)
/-! PuppetStage$Figure.<init>()V: 45 instructions, depth 1, makes 9 cells of 54 slots -/
def tb_X1_init : mTb := [(0, aLA 0 1), (1, aObj 4), (4, aLA 0 5), (5, aPI 6 7), (7, aNI 0 9 54 9), (9, aWR 1 0 12), (12, aLA 0 13), (13, aPI 6 15), (15, aNI 0 9 54 17), (17, aWR 1 1 20), (20, aLA 0 21), (21, aPI 6 23), (23, aNI 0 9 54 25), (25, aWR 1 2 28), (28, aLA 0 29), (29, aPI 6 31), (31, aNI 0 9 54 33), (33, aWR 1 3 36), (36, aLA 0 37), (37, aPI 6 39), (39, aNI 0 9 54 41), (41, aWR 1 4 44), (44, aLA 0 45), (45, aPI 6 47), (47, aNI 0 9 54 49), (49, aWR 1 5 52), (52, aLA 0 53), (53, aPI 6 55), (55, aNI 0 9 54 57), (57, aWR 1 6 60), (60, aLA 0 61), (61, aPI 6 63), (63, aNI 0 9 54 65), (65, aWR 1 7 68), (68, aLA 0 69), (69, aPI 6 71), (71, aNI 0 9 54 73), (73, aWR 1 8 76), (76, aLA 0 77), (77, aPL 1000000000000000000 80), (80, aWL 1 9 83), (83, aLA 0 84), (84, aPL 0 85), (85, aWL 1 10 88), (88, aRV)]
theorem mt_X1_init : mMT tb_X1_init :=
  mF (mn_LA _ _) <|
  mF (mn_Obj _) <|
  mF (mn_LA _ _) <|
  mF (mn_PI _ _) <|
  mF (mn_NI _ _ _ _) <|
  mF (mn_WR _ _ _) <|
  mF (mn_LA _ _) <|
  mF (mn_PI _ _) <|
  mF (mn_NI _ _ _ _) <|
  mF (mn_WR _ _ _) <|
  mF (mn_LA _ _) <|
  mF (mn_PI _ _) <|
  mF (mn_NI _ _ _ _) <|
  mF (mn_WR _ _ _) <|
  mF (mn_LA _ _) <|
  mF (mn_PI _ _) <|
  mF (mn_NI _ _ _ _) <|
  mF (mn_WR _ _ _) <|
  mF (mn_LA _ _) <|
  mF (mn_PI _ _) <|
  mF (mn_NI _ _ _ _) <|
  mF (mn_WR _ _ _) <|
  mF (mn_LA _ _) <|
  mF (mn_PI _ _) <|
  mF (mn_NI _ _ _ _) <|
  mF (mn_WR _ _ _) <|
  mF (mn_LA _ _) <|
  mF (mn_PI _ _) <|
  mF (mn_NI _ _ _ _) <|
  mF (mn_WR _ _ _) <|
  mF (mn_LA _ _) <|
  mF (mn_PI _ _) <|
  mF (mn_NI _ _ _ _) <|
  mF (mn_WR _ _ _) <|
  mF (mn_LA _ _) <|
  mF (mn_PI _ _) <|
  mF (mn_NI _ _ _ _) <|
  mF (mn_WR _ _ _) <|
  mF (mn_LA _ _) <|
  mF (mn_PL _ _) <|
  mF (mn_WL _ _ _) <|
  mF (mn_LA _ _) <|
  mF (mn_PL _ _) <|
  mF (mn_WL _ _ _) <|
  mF (mn_RV) <|
  mF0
def C_X1_init : mCo := mRun tb_X1_init 1
theorem mc_X1_init : mMC C_X1_init := mRun_mn mt_X1_init 1
theorem yi_X1_init : mYin yX1_init cX1_init 1 none 0 := ⟨wd_57, wd_314, by decide +kernel, by decide⟩
set_option maxRecDepth 100000 in
set_option maxHeartbeats 4000000 in
theorem sd_X1_init (l : Launch) (B : mBs) (p : Program) (e : Env) (s : State) (m : MethodId) (args : Array Value) (below : List Frame) (meth : Method) (c : Code) (Q : mQo) (X : mCx l B RX1 cX1_init 1 p s m args c) (hr : meth.sig.returnType = none) (hk : meth.locks = false) (hn : meth.name = "<init>") : ∀ q ∈ tb_X1_init, mSnd l B 1 p e (mRm 1 9 54) s m args below meth c (MQ below (mPo B Q) args s 9 54 (mA B)) (fun r h' => (h'.1.2.1 ≤ 9 ∧ h'.1.2.2 ≤ 54) ∧ Q r h') q.2 q.1 :=
  mF (sn_aload_n (pc := 0) (j := 0) X (by decide +kernel) rfl) <|
  mF (sn_obj (pc := 1) X (by decide) wd_315 wd_70 wd_71 (by decide +kernel)) <|
  mF (sn_aload_n (pc := 4) (j := 0) X (by decide +kernel) rfl) <|
  mF (sn_bipush (pc := 5) (n := 6) X (by decide +kernel) (by decide)) <|
  mF (sn_newI (pc := 7) X wd_126 (by decide +kernel)) <|
  mF (sn_putR (D' := "") (pc := 9) X hn fd_X1_9 ⟨tyX1_ok, nmX1⟩ rfl rfl rfl (fun _ => ⟨rfl, rfl⟩) (by decide +kernel)) <|
  mF (sn_aload_n (pc := 12) (j := 0) X (by decide +kernel) rfl) <|
  mF (sn_bipush (pc := 13) (n := 6) X (by decide +kernel) (by decide)) <|
  mF (sn_newI (pc := 15) X wd_126 (by decide +kernel)) <|
  mF (sn_putR (D' := "") (pc := 17) X hn fd_X1_15 ⟨tyX1_ok, nmX1⟩ rfl rfl rfl (fun _ => ⟨rfl, rfl⟩) (by decide +kernel)) <|
  mF (sn_aload_n (pc := 20) (j := 0) X (by decide +kernel) rfl) <|
  mF (sn_bipush (pc := 21) (n := 6) X (by decide +kernel) (by decide)) <|
  mF (sn_newI (pc := 23) X wd_126 (by decide +kernel)) <|
  mF (sn_putR (D' := "") (pc := 25) X hn fd_X1_18 ⟨tyX1_ok, nmX1⟩ rfl rfl rfl (fun _ => ⟨rfl, rfl⟩) (by decide +kernel)) <|
  mF (sn_aload_n (pc := 28) (j := 0) X (by decide +kernel) rfl) <|
  mF (sn_bipush (pc := 29) (n := 6) X (by decide +kernel) (by decide)) <|
  mF (sn_newI (pc := 31) X wd_126 (by decide +kernel)) <|
  mF (sn_putR (D' := "") (pc := 33) X hn fd_X1_21 ⟨tyX1_ok, nmX1⟩ rfl rfl rfl (fun _ => ⟨rfl, rfl⟩) (by decide +kernel)) <|
  mF (sn_aload_n (pc := 36) (j := 0) X (by decide +kernel) rfl) <|
  mF (sn_bipush (pc := 37) (n := 6) X (by decide +kernel) (by decide)) <|
  mF (sn_newI (pc := 39) X wd_126 (by decide +kernel)) <|
  mF (sn_putR (D' := "") (pc := 41) X hn fd_X1_24 ⟨tyX1_ok, nmX1⟩ rfl rfl rfl (fun _ => ⟨rfl, rfl⟩) (by decide +kernel)) <|
  mF (sn_aload_n (pc := 44) (j := 0) X (by decide +kernel) rfl) <|
  mF (sn_bipush (pc := 45) (n := 6) X (by decide +kernel) (by decide)) <|
  mF (sn_newI (pc := 47) X wd_126 (by decide +kernel)) <|
  mF (sn_putR (D' := "") (pc := 49) X hn fd_X1_27 ⟨tyX1_ok, nmX1⟩ rfl rfl rfl (fun _ => ⟨rfl, rfl⟩) (by decide +kernel)) <|
  mF (sn_aload_n (pc := 52) (j := 0) X (by decide +kernel) rfl) <|
  mF (sn_bipush (pc := 53) (n := 6) X (by decide +kernel) (by decide)) <|
  mF (sn_newI (pc := 55) X wd_126 (by decide +kernel)) <|
  mF (sn_putR (D' := "") (pc := 57) X hn fd_X1_30 ⟨tyX1_ok, nmX1⟩ rfl rfl rfl (fun _ => ⟨rfl, rfl⟩) (by decide +kernel)) <|
  mF (sn_aload_n (pc := 60) (j := 0) X (by decide +kernel) rfl) <|
  mF (sn_bipush (pc := 61) (n := 6) X (by decide +kernel) (by decide)) <|
  mF (sn_newI (pc := 63) X wd_126 (by decide +kernel)) <|
  mF (sn_putR (D' := "") (pc := 65) X hn fd_X1_33 ⟨tyX1_ok, nmX1⟩ rfl rfl rfl (fun _ => ⟨rfl, rfl⟩) (by decide +kernel)) <|
  mF (sn_aload_n (pc := 68) (j := 0) X (by decide +kernel) rfl) <|
  mF (sn_bipush (pc := 69) (n := 6) X (by decide +kernel) (by decide)) <|
  mF (sn_newI (pc := 71) X wd_126 (by decide +kernel)) <|
  mF (sn_putR (D' := "") (pc := 73) X hn fd_X1_36 ⟨tyX1_ok, nmX1⟩ rfl rfl rfl (fun _ => ⟨rfl, rfl⟩) (by decide +kernel)) <|
  mF (sn_aload_n (pc := 76) (j := 0) X (by decide +kernel) rfl) <|
  mF (sn_ldc2 (pc := 77) X (by decide +kernel) wd_316) <|
  mF (sn_putL (pc := 80) X fd_X1_41 ⟨tyX1_ok, nmX1⟩ rfl rfl (by decide +kernel)) <|
  mF (sn_aload_n (pc := 83) (j := 0) X (by decide +kernel) rfl) <|
  mF (sn_lconst (pc := 84) (n := 0) X (by decide +kernel) (by decide)) <|
  mF (sn_putL (pc := 85) X fd_X1_45 ⟨tyX1_ok, nmX1⟩ rfl rfl (by decide +kernel)) <|
  mF (sn_vret (pc := 88) X hr hk (by decide +kernel)) <|
  mF0
theorem me_X1_init (l : Launch) (B : mBs) : mMet l B yX1_init cX1_init 1 none 1 9 54 C_X1_init := mMet_of (own := RX1) (by decide) rfl (fun p e s m args below meth c Q X hr hk hn => sd_X1_init l B p e s m args below meth c Q X hr hk hn)
/-! PuppetStage.sine(I)I: 6 instructions, depth 0, makes 0 cells of 0 slots -/
def tb_X10_sine : mTb := [(0, aGS 3), (3, aLI 0 4), (4, aPI 63 6), (6, aB (fun x y => x &&& y) 7), (7, aIA 8), (8, aRI)]
theorem mt_X10_sine : mMT tb_X10_sine :=
  mF (mn_GS _) <|
  mF (mn_LI _ _) <|
  mF (mn_PI _ _) <|
  mF (mn_B _ _) <|
  mF (mn_IA _) <|
  mF (mn_RI) <|
  mF0
def C_X10_sine : mCo := mRun tb_X10_sine 1
theorem mc_X10_sine : mMC C_X10_sine := mRun_mn mt_X10_sine 1
theorem yi_X10_sine : mYin yX10_sine cX10_sine 1 (some .int) 1 := ⟨wd_49, wd_585, by decide +kernel, by decide⟩
set_option maxRecDepth 100000 in
set_option maxHeartbeats 4000000 in
theorem sd_X10_sine (l : Launch) (B : mBs) (p : Program) (e : Env) (s : State) (m : MethodId) (args : Array Value) (below : List Frame) (meth : Method) (c : Code) (Q : mQo) (X : mCx l B RX10 cX10_sine 1 p s m args c) (hr : meth.sig.returnType = (some .int)) (hk : meth.locks = false) (hn : meth.name = "sine") : ∀ q ∈ tb_X10_sine, mSnd l B 1 p e (mRm 0 0 0) s m args below meth c (MQ below (mPo B Q) args s 0 0 (mA B)) (fun r h' => (h'.1.2.1 ≤ 0 ∧ h'.1.2.2 ≤ 0) ∧ Q r h') q.2 q.1 :=
  mF (sn_gets (pc := 0) X wd_586 (by decide +kernel)) <|
  mF (sn_iload_n (pc := 3) (j := 0) X (by decide +kernel) rfl) <|
  mF (sn_bipush (pc := 4) (n := 63) X (by decide +kernel) (by decide)) <|
  mF (sn_iand (pc := 6) X (by decide +kernel)) <|
  mF (sn_iaload (pc := 7) X (by decide +kernel)) <|
  mF (sn_iret (pc := 8) X hr hk (by decide +kernel)) <|
  mF0
theorem me_X10_sine (l : Launch) (B : mBs) : mMet l B yX10_sine cX10_sine 1 (some .int) 0 0 0 C_X10_sine := mMet_of (own := RX10) (by decide) rfl (fun p e s m args below meth c Q X hr hk hn => sd_X10_sine l B p e s m args below meth c Q X hr hk hn)
/-! PuppetStage.cosine(I)I: 8 instructions, depth 0, makes 0 cells of 0 slots -/
def tb_X10_cosine : mTb := [(0, aGS 3), (3, aLI 0 4), (4, aPI 16 6), (6, aB (fun x y => x + y) 7), (7, aPI 63 9), (9, aB (fun x y => x &&& y) 10), (10, aIA 11), (11, aRI)]
theorem mt_X10_cosine : mMT tb_X10_cosine :=
  mF (mn_GS _) <|
  mF (mn_LI _ _) <|
  mF (mn_PI _ _) <|
  mF (mn_B _ _) <|
  mF (mn_PI _ _) <|
  mF (mn_B _ _) <|
  mF (mn_IA _) <|
  mF (mn_RI) <|
  mF0
def C_X10_cosine : mCo := mRun tb_X10_cosine 1
theorem mc_X10_cosine : mMC C_X10_cosine := mRun_mn mt_X10_cosine 1
theorem yi_X10_cosine : mYin yX10_cosine cX10_cosine 1 (some .int) 1 := ⟨wd_49, wd_590, by decide +kernel, by decide⟩
set_option maxRecDepth 100000 in
set_option maxHeartbeats 4000000 in
theorem sd_X10_cosine (l : Launch) (B : mBs) (p : Program) (e : Env) (s : State) (m : MethodId) (args : Array Value) (below : List Frame) (meth : Method) (c : Code) (Q : mQo) (X : mCx l B RX10 cX10_cosine 1 p s m args c) (hr : meth.sig.returnType = (some .int)) (hk : meth.locks = false) (hn : meth.name = "cosine") : ∀ q ∈ tb_X10_cosine, mSnd l B 1 p e (mRm 0 0 0) s m args below meth c (MQ below (mPo B Q) args s 0 0 (mA B)) (fun r h' => (h'.1.2.1 ≤ 0 ∧ h'.1.2.2 ≤ 0) ∧ Q r h') q.2 q.1 :=
  mF (sn_gets (pc := 0) X wd_586 (by decide +kernel)) <|
  mF (sn_iload_n (pc := 3) (j := 0) X (by decide +kernel) rfl) <|
  mF (sn_bipush (pc := 4) (n := 16) X (by decide +kernel) (by decide)) <|
  mF (sn_iadd (pc := 6) X (by decide +kernel)) <|
  mF (sn_bipush (pc := 7) (n := 63) X (by decide +kernel) (by decide)) <|
  mF (sn_iand (pc := 9) X (by decide +kernel)) <|
  mF (sn_iaload (pc := 10) X (by decide +kernel)) <|
  mF (sn_iret (pc := 11) X hr hk (by decide +kernel)) <|
  mF0
theorem me_X10_cosine (l : Launch) (B : mBs) : mMet l B yX10_cosine cX10_cosine 1 (some .int) 0 0 0 C_X10_cosine := mMet_of (own := RX10) (by decide) rfl (fun p e s m args below meth c Q X hr hk hn => sd_X10_cosine l B p e s m args below meth c Q X hr hk hn)
/-! PuppetStage$Figure.layBars(LPuppetStage$Cross;)V: 66 instructions, depth 1, makes 0 cells of 0 slots -/
def tb_X1_layBars : mTb := [(0, aLA 1 1), (1, aGI 0 4 4), (4, aPI 16 6), (6, aB (fun x y => x + y) 7), (7, aSI 2 8), (8, aLA 1 9), (9, aGI 0 4 12), (12, aPI 32 14), (14, aB (fun x y => x + y) 15), (15, aSI 3 16), (16, aPI 0 17), (17, aSI 4 19), (19, aLI 4 21), (21, aPI 6 23), (23, aIc (fun x y => y ≤ x) 114 26), (26, aLA 0 27), (27, aGR 1 7 30), (30, aLI 4 32), (32, aPI 1024 35), (35, aLA 1 36), (36, aGI 0 2 39), (39, aB (fun x y => x * y) 40), (40, aLA 1 41), (41, aGR 0 0 44), (44, aLI 4 46), (46, aIA 47), (47, aLI 2 48), (48, aCS 1 C_X10_sine 51), (51, aB (fun x y => x * y) 52), (52, aB (fun x y => x + y) 53), (53, aLA 1 54), (54, aGR 0 1 57), (57, aLI 4 59), (59, aIA 60), (60, aLI 3 61), (61, aCS 1 C_X10_sine 64), (64, aB (fun x y => x * y) 65), (65, aB (fun x y => x + y) 66), (66, aIS 67), (67, aLA 0 68), (68, aGR 1 8 71), (71, aLI 4 73), (73, aPI 1024 76), (76, aLA 1 77), (77, aGI 0 3 80), (80, aB (fun x y => x * y) 81), (81, aLA 1 82), (82, aGR 0 0 85), (85, aLI 4 87), (87, aIA 88), (88, aLI 2 89), (89, aCS 1 C_X10_cosine 92), (92, aB (fun x y => x * y) 93), (93, aB (fun x y => x - y) 94), (94, aLA 1 95), (95, aGR 0 1 98), (98, aLI 4 100), (100, aIA 101), (101, aLI 3 102), (102, aCS 1 C_X10_cosine 105), (105, aB (fun x y => x * y) 106), (106, aB (fun x y => x - y) 107), (107, aIS 108), (108, aInc 4 1 111), (111, aGo 19), (114, aRV)]
theorem mt_X1_layBars : mMT tb_X1_layBars :=
  mF (mn_LA _ _) <|
  mF (mn_GI _ _ _) <|
  mF (mn_PI _ _) <|
  mF (mn_B _ _) <|
  mF (mn_SI _ _) <|
  mF (mn_LA _ _) <|
  mF (mn_GI _ _ _) <|
  mF (mn_PI _ _) <|
  mF (mn_B _ _) <|
  mF (mn_SI _ _) <|
  mF (mn_PI _ _) <|
  mF (mn_SI _ _) <|
  mF (mn_LI _ _) <|
  mF (mn_PI _ _) <|
  mF (mn_Ic _ _ _) <|
  mF (mn_LA _ _) <|
  mF (mn_GR _ _ _) <|
  mF (mn_LI _ _) <|
  mF (mn_PI _ _) <|
  mF (mn_LA _ _) <|
  mF (mn_GI _ _ _) <|
  mF (mn_B _ _) <|
  mF (mn_LA _ _) <|
  mF (mn_GR _ _ _) <|
  mF (mn_LI _ _) <|
  mF (mn_IA _) <|
  mF (mn_LI _ _) <|
  mF (mn_CS _ mc_X10_sine _) <|
  mF (mn_B _ _) <|
  mF (mn_B _ _) <|
  mF (mn_LA _ _) <|
  mF (mn_GR _ _ _) <|
  mF (mn_LI _ _) <|
  mF (mn_IA _) <|
  mF (mn_LI _ _) <|
  mF (mn_CS _ mc_X10_sine _) <|
  mF (mn_B _ _) <|
  mF (mn_B _ _) <|
  mF (mn_IS _) <|
  mF (mn_LA _ _) <|
  mF (mn_GR _ _ _) <|
  mF (mn_LI _ _) <|
  mF (mn_PI _ _) <|
  mF (mn_LA _ _) <|
  mF (mn_GI _ _ _) <|
  mF (mn_B _ _) <|
  mF (mn_LA _ _) <|
  mF (mn_GR _ _ _) <|
  mF (mn_LI _ _) <|
  mF (mn_IA _) <|
  mF (mn_LI _ _) <|
  mF (mn_CS _ mc_X10_cosine _) <|
  mF (mn_B _ _) <|
  mF (mn_B _ _) <|
  mF (mn_LA _ _) <|
  mF (mn_GR _ _ _) <|
  mF (mn_LI _ _) <|
  mF (mn_IA _) <|
  mF (mn_LI _ _) <|
  mF (mn_CS _ mc_X10_cosine _) <|
  mF (mn_B _ _) <|
  mF (mn_B _ _) <|
  mF (mn_IS _) <|
  mF (mn_Inc _ _ _) <|
  mF (mn_Go _) <|
  mF (mn_RV) <|
  mF0
def C_X1_layBars : mCo := mRun tb_X1_layBars 5
theorem mc_X1_layBars : mMC C_X1_layBars := mRun_mn mt_X1_layBars 5
theorem yi_X1_layBars : mYin yX1_layBars cX1_layBars 5 none 1 := ⟨wd_57, wd_614, by decide +kernel, by decide⟩
set_option maxRecDepth 100000 in
set_option maxHeartbeats 4000000 in
theorem sd_X1_layBars (l : Launch) (B : mBs) (p : Program) (e : Env) (s : State) (m : MethodId) (args : Array Value) (below : List Frame) (meth : Method) (c : Code) (Q : mQo) (X : mCx l B RX1 cX1_layBars 5 p s m args c) (hr : meth.sig.returnType = none) (hk : meth.locks = false) (hn : meth.name = "layBars") : ∀ q ∈ tb_X1_layBars, mSnd l B 5 p e (mRm 1 0 0) s m args below meth c (MQ below (mPo B Q) args s 0 0 (mA B)) (fun r h' => (h'.1.2.1 ≤ 0 ∧ h'.1.2.2 ≤ 0) ∧ Q r h') q.2 q.1 :=
  mF (sn_aload_n (pc := 0) (j := 1) X (by decide +kernel) rfl) <|
  mF (sn_getI (pc := 1) X fd_X1_66 (by decide +kernel)) <|
  mF (sn_bipush (pc := 4) (n := 16) X (by decide +kernel) (by decide)) <|
  mF (sn_iadd (pc := 6) X (by decide +kernel)) <|
  mF (sn_istore_n (pc := 7) (j := 2) X (by decide +kernel) rfl (by decide)) <|
  mF (sn_aload_n (pc := 8) (j := 1) X (by decide +kernel) rfl) <|
  mF (sn_getI (pc := 9) X fd_X1_66 (by decide +kernel)) <|
  mF (sn_bipush (pc := 12) (n := 32) X (by decide +kernel) (by decide)) <|
  mF (sn_iadd (pc := 14) X (by decide +kernel)) <|
  mF (sn_istore_n (pc := 15) (j := 3) X (by decide +kernel) rfl (by decide)) <|
  mF (sn_iconst (pc := 16) (n := 0) X (by decide +kernel) (by decide)) <|
  mF (sn_istore (pc := 17) X (by decide +kernel) (by decide)) <|
  mF (sn_iload (pc := 19) X (by decide +kernel)) <|
  mF (sn_bipush (pc := 21) (n := 6) X (by decide +kernel) (by decide)) <|
  mF (sn_icmp_ge (pc := 23) (off := 91) X (by decide +kernel) (by decide)) <|
  mF (sn_aload_n (pc := 26) (j := 0) X (by decide +kernel) rfl) <|
  mF (sn_getR (pc := 27) X fd_X1_33 (by decide +kernel)) <|
  mF (sn_iload (pc := 30) X (by decide +kernel)) <|
  mF (sn_sipush (pc := 32) (n := 1024) X (by decide +kernel) (by decide)) <|
  mF (sn_aload_n (pc := 35) (j := 1) X (by decide +kernel) rfl) <|
  mF (sn_getI (pc := 36) X fd_X1_72 (by decide +kernel)) <|
  mF (sn_imul (pc := 39) X (by decide +kernel)) <|
  mF (sn_aload_n (pc := 40) (j := 1) X (by decide +kernel) rfl) <|
  mF (sn_getR (pc := 41) X fd_X1_75 (by decide +kernel)) <|
  mF (sn_iload (pc := 44) X (by decide +kernel)) <|
  mF (sn_iaload (pc := 46) X (by decide +kernel)) <|
  mF (sn_iload_n (pc := 47) (j := 2) X (by decide +kernel) rfl) <|
  mF (sn_callSN (pc := 48) X mc_X10_sine (me_X10_sine l B) yi_X10_sine wd_583 wd_584 (by decide) (by decide +kernel)) <|
  mF (sn_imul (pc := 51) X (by decide +kernel)) <|
  mF (sn_iadd (pc := 52) X (by decide +kernel)) <|
  mF (sn_aload_n (pc := 53) (j := 1) X (by decide +kernel) rfl) <|
  mF (sn_getR (pc := 54) X fd_X1_82 (by decide +kernel)) <|
  mF (sn_iload (pc := 57) X (by decide +kernel)) <|
  mF (sn_iaload (pc := 59) X (by decide +kernel)) <|
  mF (sn_iload_n (pc := 60) (j := 3) X (by decide +kernel) rfl) <|
  mF (sn_callSN (pc := 61) X mc_X10_sine (me_X10_sine l B) yi_X10_sine wd_583 wd_584 (by decide) (by decide +kernel)) <|
  mF (sn_imul (pc := 64) X (by decide +kernel)) <|
  mF (sn_iadd (pc := 65) X (by decide +kernel)) <|
  mF (sn_iastore (pc := 66) X (by decide +kernel)) <|
  mF (sn_aload_n (pc := 67) (j := 0) X (by decide +kernel) rfl) <|
  mF (sn_getR (pc := 68) X fd_X1_36 (by decide +kernel)) <|
  mF (sn_iload (pc := 71) X (by decide +kernel)) <|
  mF (sn_sipush (pc := 73) (n := 1024) X (by decide +kernel) (by decide)) <|
  mF (sn_aload_n (pc := 76) (j := 1) X (by decide +kernel) rfl) <|
  mF (sn_getI (pc := 77) X fd_X1_85 (by decide +kernel)) <|
  mF (sn_imul (pc := 80) X (by decide +kernel)) <|
  mF (sn_aload_n (pc := 81) (j := 1) X (by decide +kernel) rfl) <|
  mF (sn_getR (pc := 82) X fd_X1_75 (by decide +kernel)) <|
  mF (sn_iload (pc := 85) X (by decide +kernel)) <|
  mF (sn_iaload (pc := 87) X (by decide +kernel)) <|
  mF (sn_iload_n (pc := 88) (j := 2) X (by decide +kernel) rfl) <|
  mF (sn_callSN (pc := 89) X mc_X10_cosine (me_X10_cosine l B) yi_X10_cosine wd_588 wd_589 (by decide) (by decide +kernel)) <|
  mF (sn_imul (pc := 92) X (by decide +kernel)) <|
  mF (sn_isub (pc := 93) X (by decide +kernel)) <|
  mF (sn_aload_n (pc := 94) (j := 1) X (by decide +kernel) rfl) <|
  mF (sn_getR (pc := 95) X fd_X1_82 (by decide +kernel)) <|
  mF (sn_iload (pc := 98) X (by decide +kernel)) <|
  mF (sn_iaload (pc := 100) X (by decide +kernel)) <|
  mF (sn_iload_n (pc := 101) (j := 3) X (by decide +kernel) rfl) <|
  mF (sn_callSN (pc := 102) X mc_X10_cosine (me_X10_cosine l B) yi_X10_cosine wd_588 wd_589 (by decide) (by decide +kernel)) <|
  mF (sn_imul (pc := 105) X (by decide +kernel)) <|
  mF (sn_isub (pc := 106) X (by decide +kernel)) <|
  mF (sn_iastore (pc := 107) X (by decide +kernel)) <|
  mF (sn_iinc (pc := 108) (n := 1) X (by decide +kernel) (by decide) (by decide)) <|
  mF (sn_goto (pc := 111) (off := (-92)) X (by decide +kernel) (by decide)) <|
  mF (sn_vret (pc := 114) X hr hk (by decide +kernel)) <|
  mF0
theorem me_X1_layBars (l : Launch) (B : mBs) : mMet l B yX1_layBars cX1_layBars 5 none 1 0 0 C_X1_layBars := mMet_of (own := RX1) (by decide) rfl (fun p e s m args below meth c Q X hr hk hn => sd_X1_layBars l B p e s m args below meth c Q X hr hk hn)
/-! PuppetStage$Figure.spotX(II)I: 12 instructions, depth 0, makes 0 cells of 0 slots -/
def tb_X1_spotX : mTb := [(0, aLA 0 1), (1, aGR 1 3 4), (4, aLI 1 5), (5, aIA 6), (6, aLI 2 7), (7, aLA 0 8), (8, aGR 1 1 11), (11, aLI 1 12), (12, aIA 13), (13, aB (fun x y => x * y) 14), (14, aB (fun x y => x + y) 15), (15, aRI)]
theorem mt_X1_spotX : mMT tb_X1_spotX :=
  mF (mn_LA _ _) <|
  mF (mn_GR _ _ _) <|
  mF (mn_LI _ _) <|
  mF (mn_IA _) <|
  mF (mn_LI _ _) <|
  mF (mn_LA _ _) <|
  mF (mn_GR _ _ _) <|
  mF (mn_LI _ _) <|
  mF (mn_IA _) <|
  mF (mn_B _ _) <|
  mF (mn_B _ _) <|
  mF (mn_RI) <|
  mF0
def C_X1_spotX : mCo := mRun tb_X1_spotX 3
theorem mc_X1_spotX : mMC C_X1_spotX := mRun_mn mt_X1_spotX 3
theorem yi_X1_spotX : mYin yX1_spotX cX1_spotX 3 (some .int) 2 := ⟨wd_57, wd_594, by decide +kernel, by decide⟩
set_option maxRecDepth 100000 in
set_option maxHeartbeats 4000000 in
theorem sd_X1_spotX (l : Launch) (B : mBs) (p : Program) (e : Env) (s : State) (m : MethodId) (args : Array Value) (below : List Frame) (meth : Method) (c : Code) (Q : mQo) (X : mCx l B RX1 cX1_spotX 3 p s m args c) (hr : meth.sig.returnType = (some .int)) (hk : meth.locks = false) (hn : meth.name = "spotX") : ∀ q ∈ tb_X1_spotX, mSnd l B 3 p e (mRm 0 0 0) s m args below meth c (MQ below (mPo B Q) args s 0 0 (mA B)) (fun r h' => (h'.1.2.1 ≤ 0 ∧ h'.1.2.2 ≤ 0) ∧ Q r h') q.2 q.1 :=
  mF (sn_aload_n (pc := 0) (j := 0) X (by decide +kernel) rfl) <|
  mF (sn_getR (pc := 1) X fd_X1_21 (by decide +kernel)) <|
  mF (sn_iload_n (pc := 4) (j := 1) X (by decide +kernel) rfl) <|
  mF (sn_iaload (pc := 5) X (by decide +kernel)) <|
  mF (sn_iload_n (pc := 6) (j := 2) X (by decide +kernel) rfl) <|
  mF (sn_aload_n (pc := 7) (j := 0) X (by decide +kernel) rfl) <|
  mF (sn_getR (pc := 8) X fd_X1_15 (by decide +kernel)) <|
  mF (sn_iload_n (pc := 11) (j := 1) X (by decide +kernel) rfl) <|
  mF (sn_iaload (pc := 12) X (by decide +kernel)) <|
  mF (sn_imul (pc := 13) X (by decide +kernel)) <|
  mF (sn_iadd (pc := 14) X (by decide +kernel)) <|
  mF (sn_iret (pc := 15) X hr hk (by decide +kernel)) <|
  mF0
theorem me_X1_spotX (l : Launch) (B : mBs) : mMet l B yX1_spotX cX1_spotX 3 (some .int) 0 0 0 C_X1_spotX := mMet_of (own := RX1) (by decide) rfl (fun p e s m args below meth c Q X hr hk hn => sd_X1_spotX l B p e s m args below meth c Q X hr hk hn)
/-! PuppetStage$Figure.spotY(II)I: 12 instructions, depth 0, makes 0 cells of 0 slots -/
def tb_X1_spotY : mTb := [(0, aLA 0 1), (1, aGR 1 4 4), (4, aLI 1 5), (5, aIA 6), (6, aLI 2 7), (7, aLA 0 8), (8, aGR 1 2 11), (11, aLI 1 12), (12, aIA 13), (13, aB (fun x y => x * y) 14), (14, aB (fun x y => x + y) 15), (15, aRI)]
theorem mt_X1_spotY : mMT tb_X1_spotY :=
  mF (mn_LA _ _) <|
  mF (mn_GR _ _ _) <|
  mF (mn_LI _ _) <|
  mF (mn_IA _) <|
  mF (mn_LI _ _) <|
  mF (mn_LA _ _) <|
  mF (mn_GR _ _ _) <|
  mF (mn_LI _ _) <|
  mF (mn_IA _) <|
  mF (mn_B _ _) <|
  mF (mn_B _ _) <|
  mF (mn_RI) <|
  mF0
def C_X1_spotY : mCo := mRun tb_X1_spotY 3
theorem mc_X1_spotY : mMC C_X1_spotY := mRun_mn mt_X1_spotY 3
theorem yi_X1_spotY : mYin yX1_spotY cX1_spotY 3 (some .int) 2 := ⟨wd_57, wd_598, by decide +kernel, by decide⟩
set_option maxRecDepth 100000 in
set_option maxHeartbeats 4000000 in
theorem sd_X1_spotY (l : Launch) (B : mBs) (p : Program) (e : Env) (s : State) (m : MethodId) (args : Array Value) (below : List Frame) (meth : Method) (c : Code) (Q : mQo) (X : mCx l B RX1 cX1_spotY 3 p s m args c) (hr : meth.sig.returnType = (some .int)) (hk : meth.locks = false) (hn : meth.name = "spotY") : ∀ q ∈ tb_X1_spotY, mSnd l B 3 p e (mRm 0 0 0) s m args below meth c (MQ below (mPo B Q) args s 0 0 (mA B)) (fun r h' => (h'.1.2.1 ≤ 0 ∧ h'.1.2.2 ≤ 0) ∧ Q r h') q.2 q.1 :=
  mF (sn_aload_n (pc := 0) (j := 0) X (by decide +kernel) rfl) <|
  mF (sn_getR (pc := 1) X fd_X1_24 (by decide +kernel)) <|
  mF (sn_iload_n (pc := 4) (j := 1) X (by decide +kernel) rfl) <|
  mF (sn_iaload (pc := 5) X (by decide +kernel)) <|
  mF (sn_iload_n (pc := 6) (j := 2) X (by decide +kernel) rfl) <|
  mF (sn_aload_n (pc := 7) (j := 0) X (by decide +kernel) rfl) <|
  mF (sn_getR (pc := 8) X fd_X1_18 (by decide +kernel)) <|
  mF (sn_iload_n (pc := 11) (j := 1) X (by decide +kernel) rfl) <|
  mF (sn_iaload (pc := 12) X (by decide +kernel)) <|
  mF (sn_imul (pc := 13) X (by decide +kernel)) <|
  mF (sn_iadd (pc := 14) X (by decide +kernel)) <|
  mF (sn_iret (pc := 15) X hr hk (by decide +kernel)) <|
  mF0
theorem me_X1_spotY (l : Launch) (B : mBs) : mMet l B yX1_spotY cX1_spotY 3 (some .int) 0 0 0 C_X1_spotY := mMet_of (own := RX1) (by decide) rfl (fun p e s m args below meth c Q X hr hk hn => sd_X1_spotY l B p e s m args below meth c Q X hr hk hn)
/-! PuppetStage$Figure.layLimbs(LPuppetStage$Limbs;)V: 113 instructions, depth 1, makes 0 cells of 0 slots -/
def tb_X1_layLimbs_c0 : mTb := [(0, aPI 0 1), (1, aSI 2 2), (2, aLI 2 3), (3, aLA 1 4), (4, aGI 5 4 7), (7, aIc (fun x y => y ≤ x) 191 10), (10, aLA 1 11), (11, aGR 5 2 14), (14, aLI 2 15), (15, aIA 16), (16, aSI 3 17), (17, aLI 3 18), (18, aIf (fun x => x < 0) 30 21), (21, aLI 3 22), (22, aLI 2 23), (23, aIc (fun x y => y ≤ x) 30 26), (26, aPI 1 27), (27, aGo 31), (30, aPI 0 31), (31, aSI 4 33), (33, aLA 0 34), (34, aGR 1 0 37), (37, aLI 2 38), (38, aLI 4 40), (40, aIf (fun x => x = 0) 52 43), (43, aLA 0 44), (44, aGR 1 0 47), (47, aLI 3 48), (48, aIA 49), (49, aGo 53), (52, aPI 0 53), (53, aLA 1 54), (54, aGR 5 3 57), (57, aLI 2 58), (58, aIA 59), (59, aB (fun x y => x + y) 60), (60, aPI 63 62), (62, aB (fun x y => x &&& y) 63), (63, aIS 64), (64, aLA 0 65), (65, aGR 1 1 68), (68, aLI 2 69), (69, aLA 0 70), (70, aGR 1 0 73), (73, aLI 2 74), (74, aIA 75), (75, aCS 1 C_X10_sine 78), (78, aIS 79), (79, aLA 0 80), (80, aGR 1 2 83), (83, aLI 2 84), (84, aLA 0 85), (85, aGR 1 0 88), (88, aLI 2 89), (89, aIA 90), (90, aCS 1 C_X10_cosine 93), (93, aU (fun x => -x) 94), (94, aIS 95), (95, aLA 0 96), (96, aGR 1 3 99), (99, aLI 2 100), (100, aLI 4 102), (102, aIf (fun x => x = 0) 114 105), (105, aLA 0 106), (106, aGR 1 5 109), (109, aLI 3 110), (110, aIA 111), (111, aGo 122), (114, aPI 1024 117), (117, aLA 1 118)]
theorem mt_X1_layLimbs_c0 : mMT tb_X1_layLimbs_c0 :=
  mF (mn_PI _ _) <|
  mF (mn_SI _ _) <|
  mF (mn_LI _ _) <|
  mF (mn_LA _ _) <|
  mF (mn_GI _ _ _) <|
  mF (mn_Ic _ _ _) <|
  mF (mn_LA _ _) <|
  mF (mn_GR _ _ _) <|
  mF (mn_LI _ _) <|
  mF (mn_IA _) <|
  mF (mn_SI _ _) <|
  mF (mn_LI _ _) <|
  mF (mn_If _ _ _) <|
  mF (mn_LI _ _) <|
  mF (mn_LI _ _) <|
  mF (mn_Ic _ _ _) <|
  mF (mn_PI _ _) <|
  mF (mn_Go _) <|
  mF (mn_PI _ _) <|
  mF (mn_SI _ _) <|
  mF (mn_LA _ _) <|
  mF (mn_GR _ _ _) <|
  mF (mn_LI _ _) <|
  mF (mn_LI _ _) <|
  mF (mn_If _ _ _) <|
  mF (mn_LA _ _) <|
  mF (mn_GR _ _ _) <|
  mF (mn_LI _ _) <|
  mF (mn_IA _) <|
  mF (mn_Go _) <|
  mF (mn_PI _ _) <|
  mF (mn_LA _ _) <|
  mF (mn_GR _ _ _) <|
  mF (mn_LI _ _) <|
  mF (mn_IA _) <|
  mF (mn_B _ _) <|
  mF (mn_PI _ _) <|
  mF (mn_B _ _) <|
  mF (mn_IS _) <|
  mF (mn_LA _ _) <|
  mF (mn_GR _ _ _) <|
  mF (mn_LI _ _) <|
  mF (mn_LA _ _) <|
  mF (mn_GR _ _ _) <|
  mF (mn_LI _ _) <|
  mF (mn_IA _) <|
  mF (mn_CS _ mc_X10_sine _) <|
  mF (mn_IS _) <|
  mF (mn_LA _ _) <|
  mF (mn_GR _ _ _) <|
  mF (mn_LI _ _) <|
  mF (mn_LA _ _) <|
  mF (mn_GR _ _ _) <|
  mF (mn_LI _ _) <|
  mF (mn_IA _) <|
  mF (mn_CS _ mc_X10_cosine _) <|
  mF (mn_U _ _) <|
  mF (mn_IS _) <|
  mF (mn_LA _ _) <|
  mF (mn_GR _ _ _) <|
  mF (mn_LI _ _) <|
  mF (mn_LI _ _) <|
  mF (mn_If _ _ _) <|
  mF (mn_LA _ _) <|
  mF (mn_GR _ _ _) <|
  mF (mn_LI _ _) <|
  mF (mn_IA _) <|
  mF (mn_Go _) <|
  mF (mn_PI _ _) <|
  mF (mn_LA _ _) <|
  mF0
def tb_X1_layLimbs_c1 : mTb := [(118, aGI 5 5 121), (121, aB (fun x y => x * y) 122), (122, aIS 123), (123, aLA 0 124), (124, aGR 1 4 127), (127, aLI 2 128), (128, aLI 4 130), (130, aIf (fun x => x = 0) 142 133), (133, aLA 0 134), (134, aGR 1 6 137), (137, aLI 3 138), (138, aIA 139), (139, aGo 150), (142, aPI 1024 145), (145, aLA 1 146), (146, aGI 5 6 149), (149, aB (fun x y => x * y) 150), (150, aIS 151), (151, aLA 0 152), (152, aGR 1 5 155), (155, aLI 2 156), (156, aLA 0 157), (157, aLI 2 158), (158, aLA 1 159), (159, aGR 5 0 162), (162, aLI 2 163), (163, aIA 164), (164, aCV 1 2 C_X1_spotX 167), (167, aIS 168), (168, aLA 0 169), (169, aGR 1 6 172), (172, aLI 2 173), (173, aLA 0 174), (174, aLI 2 175), (175, aLA 1 176), (176, aGR 5 0 179), (179, aLI 2 180), (180, aIA 181), (181, aCV 1 2 C_X1_spotY 184), (184, aIS 185), (185, aInc 2 1 188), (188, aGo 2), (191, aRV)]
theorem mt_X1_layLimbs_c1 : mMT tb_X1_layLimbs_c1 :=
  mF (mn_GI _ _ _) <|
  mF (mn_B _ _) <|
  mF (mn_IS _) <|
  mF (mn_LA _ _) <|
  mF (mn_GR _ _ _) <|
  mF (mn_LI _ _) <|
  mF (mn_LI _ _) <|
  mF (mn_If _ _ _) <|
  mF (mn_LA _ _) <|
  mF (mn_GR _ _ _) <|
  mF (mn_LI _ _) <|
  mF (mn_IA _) <|
  mF (mn_Go _) <|
  mF (mn_PI _ _) <|
  mF (mn_LA _ _) <|
  mF (mn_GI _ _ _) <|
  mF (mn_B _ _) <|
  mF (mn_IS _) <|
  mF (mn_LA _ _) <|
  mF (mn_GR _ _ _) <|
  mF (mn_LI _ _) <|
  mF (mn_LA _ _) <|
  mF (mn_LI _ _) <|
  mF (mn_LA _ _) <|
  mF (mn_GR _ _ _) <|
  mF (mn_LI _ _) <|
  mF (mn_IA _) <|
  mF (mn_CV _ _ mc_X1_spotX _) <|
  mF (mn_IS _) <|
  mF (mn_LA _ _) <|
  mF (mn_GR _ _ _) <|
  mF (mn_LI _ _) <|
  mF (mn_LA _ _) <|
  mF (mn_LI _ _) <|
  mF (mn_LA _ _) <|
  mF (mn_GR _ _ _) <|
  mF (mn_LI _ _) <|
  mF (mn_IA _) <|
  mF (mn_CV _ _ mc_X1_spotY _) <|
  mF (mn_IS _) <|
  mF (mn_Inc _ _ _) <|
  mF (mn_Go _) <|
  mF (mn_RV) <|
  mF0
def tb_X1_layLimbs : mTb := tb_X1_layLimbs_c0 ++ (tb_X1_layLimbs_c1)
theorem mt_X1_layLimbs : mMT tb_X1_layLimbs := mFA mt_X1_layLimbs_c0 mt_X1_layLimbs_c1
def C_X1_layLimbs : mCo := mRun tb_X1_layLimbs 5
theorem mc_X1_layLimbs : mMC C_X1_layLimbs := mRun_mn mt_X1_layLimbs 5
theorem yi_X1_layLimbs : mYin yX1_layLimbs cX1_layLimbs 5 none 1 := ⟨wd_57, wd_582, by decide +kernel, by decide⟩
set_option maxRecDepth 100000 in
set_option maxHeartbeats 4000000 in
theorem sd_X1_layLimbs_c0 (l : Launch) (B : mBs) (p : Program) (e : Env) (s : State) (m : MethodId) (args : Array Value) (below : List Frame) (meth : Method) (c : Code) (Q : mQo) (X : mCx l B RX1 cX1_layLimbs 5 p s m args c) (hr : meth.sig.returnType = none) (hk : meth.locks = false) (hn : meth.name = "layLimbs") : ∀ q ∈ tb_X1_layLimbs_c0, mSnd l B 5 p e (mRm 1 0 0) s m args below meth c (MQ below (mPo B Q) args s 0 0 (mA B)) (fun r h' => (h'.1.2.1 ≤ 0 ∧ h'.1.2.2 ≤ 0) ∧ Q r h') q.2 q.1 :=
  mF (sn_iconst (pc := 0) (n := 0) X (by decide +kernel) (by decide)) <|
  mF (sn_istore_n (pc := 1) (j := 2) X (by decide +kernel) rfl (by decide)) <|
  mF (sn_iload_n (pc := 2) (j := 2) X (by decide +kernel) rfl) <|
  mF (sn_aload_n (pc := 3) (j := 1) X (by decide +kernel) rfl) <|
  mF (sn_getI (pc := 4) X fd_X1_91 (by decide +kernel)) <|
  mF (sn_icmp_ge (pc := 7) (off := 184) X (by decide +kernel) (by decide)) <|
  mF (sn_aload_n (pc := 10) (j := 1) X (by decide +kernel) rfl) <|
  mF (sn_getR (pc := 11) X fd_X1_96 (by decide +kernel)) <|
  mF (sn_iload_n (pc := 14) (j := 2) X (by decide +kernel) rfl) <|
  mF (sn_iaload (pc := 15) X (by decide +kernel)) <|
  mF (sn_istore_n (pc := 16) (j := 3) X (by decide +kernel) rfl (by decide)) <|
  mF (sn_iload_n (pc := 17) (j := 3) X (by decide +kernel) rfl) <|
  mF (sn_if_lt (pc := 18) (off := 12) X (by decide +kernel) (by decide)) <|
  mF (sn_iload_n (pc := 21) (j := 3) X (by decide +kernel) rfl) <|
  mF (sn_iload_n (pc := 22) (j := 2) X (by decide +kernel) rfl) <|
  mF (sn_icmp_ge (pc := 23) (off := 7) X (by decide +kernel) (by decide)) <|
  mF (sn_iconst (pc := 26) (n := 1) X (by decide +kernel) (by decide)) <|
  mF (sn_goto (pc := 27) (off := 4) X (by decide +kernel) (by decide)) <|
  mF (sn_iconst (pc := 30) (n := 0) X (by decide +kernel) (by decide)) <|
  mF (sn_istore (pc := 31) X (by decide +kernel) (by decide)) <|
  mF (sn_aload_n (pc := 33) (j := 0) X (by decide +kernel) rfl) <|
  mF (sn_getR (pc := 34) X fd_X1_9 (by decide +kernel)) <|
  mF (sn_iload_n (pc := 37) (j := 2) X (by decide +kernel) rfl) <|
  mF (sn_iload (pc := 38) X (by decide +kernel)) <|
  mF (sn_if_eq (pc := 40) (off := 12) X (by decide +kernel) (by decide)) <|
  mF (sn_aload_n (pc := 43) (j := 0) X (by decide +kernel) rfl) <|
  mF (sn_getR (pc := 44) X fd_X1_9 (by decide +kernel)) <|
  mF (sn_iload_n (pc := 47) (j := 3) X (by decide +kernel) rfl) <|
  mF (sn_iaload (pc := 48) X (by decide +kernel)) <|
  mF (sn_goto (pc := 49) (off := 4) X (by decide +kernel) (by decide)) <|
  mF (sn_iconst (pc := 52) (n := 0) X (by decide +kernel) (by decide)) <|
  mF (sn_aload_n (pc := 53) (j := 1) X (by decide +kernel) rfl) <|
  mF (sn_getR (pc := 54) X fd_X1_99 (by decide +kernel)) <|
  mF (sn_iload_n (pc := 57) (j := 2) X (by decide +kernel) rfl) <|
  mF (sn_iaload (pc := 58) X (by decide +kernel)) <|
  mF (sn_iadd (pc := 59) X (by decide +kernel)) <|
  mF (sn_bipush (pc := 60) (n := 63) X (by decide +kernel) (by decide)) <|
  mF (sn_iand (pc := 62) X (by decide +kernel)) <|
  mF (sn_iastore (pc := 63) X (by decide +kernel)) <|
  mF (sn_aload_n (pc := 64) (j := 0) X (by decide +kernel) rfl) <|
  mF (sn_getR (pc := 65) X fd_X1_15 (by decide +kernel)) <|
  mF (sn_iload_n (pc := 68) (j := 2) X (by decide +kernel) rfl) <|
  mF (sn_aload_n (pc := 69) (j := 0) X (by decide +kernel) rfl) <|
  mF (sn_getR (pc := 70) X fd_X1_9 (by decide +kernel)) <|
  mF (sn_iload_n (pc := 73) (j := 2) X (by decide +kernel) rfl) <|
  mF (sn_iaload (pc := 74) X (by decide +kernel)) <|
  mF (sn_callSN (pc := 75) X mc_X10_sine (me_X10_sine l B) yi_X10_sine wd_583 wd_584 (by decide) (by decide +kernel)) <|
  mF (sn_iastore (pc := 78) X (by decide +kernel)) <|
  mF (sn_aload_n (pc := 79) (j := 0) X (by decide +kernel) rfl) <|
  mF (sn_getR (pc := 80) X fd_X1_18 (by decide +kernel)) <|
  mF (sn_iload_n (pc := 83) (j := 2) X (by decide +kernel) rfl) <|
  mF (sn_aload_n (pc := 84) (j := 0) X (by decide +kernel) rfl) <|
  mF (sn_getR (pc := 85) X fd_X1_9 (by decide +kernel)) <|
  mF (sn_iload_n (pc := 88) (j := 2) X (by decide +kernel) rfl) <|
  mF (sn_iaload (pc := 89) X (by decide +kernel)) <|
  mF (sn_callSN (pc := 90) X mc_X10_cosine (me_X10_cosine l B) yi_X10_cosine wd_588 wd_589 (by decide) (by decide +kernel)) <|
  mF (sn_ineg (pc := 93) X (by decide +kernel)) <|
  mF (sn_iastore (pc := 94) X (by decide +kernel)) <|
  mF (sn_aload_n (pc := 95) (j := 0) X (by decide +kernel) rfl) <|
  mF (sn_getR (pc := 96) X fd_X1_21 (by decide +kernel)) <|
  mF (sn_iload_n (pc := 99) (j := 2) X (by decide +kernel) rfl) <|
  mF (sn_iload (pc := 100) X (by decide +kernel)) <|
  mF (sn_if_eq (pc := 102) (off := 12) X (by decide +kernel) (by decide)) <|
  mF (sn_aload_n (pc := 105) (j := 0) X (by decide +kernel) rfl) <|
  mF (sn_getR (pc := 106) X fd_X1_27 (by decide +kernel)) <|
  mF (sn_iload_n (pc := 109) (j := 3) X (by decide +kernel) rfl) <|
  mF (sn_iaload (pc := 110) X (by decide +kernel)) <|
  mF (sn_goto (pc := 111) (off := 11) X (by decide +kernel) (by decide)) <|
  mF (sn_sipush (pc := 114) (n := 1024) X (by decide +kernel) (by decide)) <|
  mF (sn_aload_n (pc := 117) (j := 1) X (by decide +kernel) rfl) <|
  mF0
set_option maxRecDepth 100000 in
set_option maxHeartbeats 4000000 in
theorem sd_X1_layLimbs_c1 (l : Launch) (B : mBs) (p : Program) (e : Env) (s : State) (m : MethodId) (args : Array Value) (below : List Frame) (meth : Method) (c : Code) (Q : mQo) (X : mCx l B RX1 cX1_layLimbs 5 p s m args c) (hr : meth.sig.returnType = none) (hk : meth.locks = false) (hn : meth.name = "layLimbs") : ∀ q ∈ tb_X1_layLimbs_c1, mSnd l B 5 p e (mRm 1 0 0) s m args below meth c (MQ below (mPo B Q) args s 0 0 (mA B)) (fun r h' => (h'.1.2.1 ≤ 0 ∧ h'.1.2.2 ≤ 0) ∧ Q r h') q.2 q.1 :=
  mF (sn_getI (pc := 118) X fd_X1_102 (by decide +kernel)) <|
  mF (sn_imul (pc := 121) X (by decide +kernel)) <|
  mF (sn_iastore (pc := 122) X (by decide +kernel)) <|
  mF (sn_aload_n (pc := 123) (j := 0) X (by decide +kernel) rfl) <|
  mF (sn_getR (pc := 124) X fd_X1_24 (by decide +kernel)) <|
  mF (sn_iload_n (pc := 127) (j := 2) X (by decide +kernel) rfl) <|
  mF (sn_iload (pc := 128) X (by decide +kernel)) <|
  mF (sn_if_eq (pc := 130) (off := 12) X (by decide +kernel) (by decide)) <|
  mF (sn_aload_n (pc := 133) (j := 0) X (by decide +kernel) rfl) <|
  mF (sn_getR (pc := 134) X fd_X1_30 (by decide +kernel)) <|
  mF (sn_iload_n (pc := 137) (j := 3) X (by decide +kernel) rfl) <|
  mF (sn_iaload (pc := 138) X (by decide +kernel)) <|
  mF (sn_goto (pc := 139) (off := 11) X (by decide +kernel) (by decide)) <|
  mF (sn_sipush (pc := 142) (n := 1024) X (by decide +kernel) (by decide)) <|
  mF (sn_aload_n (pc := 145) (j := 1) X (by decide +kernel) rfl) <|
  mF (sn_getI (pc := 146) X fd_X1_105 (by decide +kernel)) <|
  mF (sn_imul (pc := 149) X (by decide +kernel)) <|
  mF (sn_iastore (pc := 150) X (by decide +kernel)) <|
  mF (sn_aload_n (pc := 151) (j := 0) X (by decide +kernel) rfl) <|
  mF (sn_getR (pc := 152) X fd_X1_27 (by decide +kernel)) <|
  mF (sn_iload_n (pc := 155) (j := 2) X (by decide +kernel) rfl) <|
  mF (sn_aload_n (pc := 156) (j := 0) X (by decide +kernel) rfl) <|
  mF (sn_iload_n (pc := 157) (j := 2) X (by decide +kernel) rfl) <|
  mF (sn_aload_n (pc := 158) (j := 1) X (by decide +kernel) rfl) <|
  mF (sn_getR (pc := 159) X fd_X1_108 (by decide +kernel)) <|
  mF (sn_iload_n (pc := 162) (j := 2) X (by decide +kernel) rfl) <|
  mF (sn_iaload (pc := 163) X (by decide +kernel)) <|
  mF (sn_callV (pc := 164) X mc_X1_spotX (me_X1_spotX l B) yi_X1_spotX wd_591 wd_592 wd_593 (T := TX1) (N := 11) rfl (by decide) (by decide +kernel)) <|
  mF (sn_iastore (pc := 167) X (by decide +kernel)) <|
  mF (sn_aload_n (pc := 168) (j := 0) X (by decide +kernel) rfl) <|
  mF (sn_getR (pc := 169) X fd_X1_30 (by decide +kernel)) <|
  mF (sn_iload_n (pc := 172) (j := 2) X (by decide +kernel) rfl) <|
  mF (sn_aload_n (pc := 173) (j := 0) X (by decide +kernel) rfl) <|
  mF (sn_iload_n (pc := 174) (j := 2) X (by decide +kernel) rfl) <|
  mF (sn_aload_n (pc := 175) (j := 1) X (by decide +kernel) rfl) <|
  mF (sn_getR (pc := 176) X fd_X1_108 (by decide +kernel)) <|
  mF (sn_iload_n (pc := 179) (j := 2) X (by decide +kernel) rfl) <|
  mF (sn_iaload (pc := 180) X (by decide +kernel)) <|
  mF (sn_callV (pc := 181) X mc_X1_spotY (me_X1_spotY l B) yi_X1_spotY wd_595 wd_596 wd_597 (T := TX1) (N := 11) rfl (by decide) (by decide +kernel)) <|
  mF (sn_iastore (pc := 184) X (by decide +kernel)) <|
  mF (sn_iinc (pc := 185) (n := 1) X (by decide +kernel) (by decide) (by decide)) <|
  mF (sn_goto (pc := 188) (off := (-186)) X (by decide +kernel) (by decide)) <|
  mF (sn_vret (pc := 191) X hr hk (by decide +kernel)) <|
  mF0
theorem sd_X1_layLimbs (l : Launch) (B : mBs) (p : Program) (e : Env) (s : State) (m : MethodId) (args : Array Value) (below : List Frame) (meth : Method) (c : Code) (Q : mQo) (X : mCx l B RX1 cX1_layLimbs 5 p s m args c) (hr : meth.sig.returnType = none) (hk : meth.locks = false) (hn : meth.name = "layLimbs") : ∀ q ∈ tb_X1_layLimbs, mSnd l B 5 p e (mRm 1 0 0) s m args below meth c (MQ below (mPo B Q) args s 0 0 (mA B)) (fun r h' => (h'.1.2.1 ≤ 0 ∧ h'.1.2.2 ≤ 0) ∧ Q r h') q.2 q.1 := mFA (sd_X1_layLimbs_c0 l B p e s m args below meth c Q X hr hk hn) (sd_X1_layLimbs_c1 l B p e s m args below meth c Q X hr hk hn)
theorem me_X1_layLimbs (l : Launch) (B : mBs) : mMet l B yX1_layLimbs cX1_layLimbs 5 none 1 0 0 C_X1_layLimbs := mMet_of (own := RX1) (by decide) rfl (fun p e s m args below meth c Q X hr hk hn => sd_X1_layLimbs l B p e s m args below meth c Q X hr hk hn)
/-! PuppetStage$Figure.lay(LPuppetStage$Puppet;)V: 9 instructions, depth 2, makes 0 cells of 0 slots -/
def tb_X1_lay : mTb := [(0, aLA 0 1), (1, aLA 1 2), (2, aGR 7 2 5), (5, aCV 1 1 C_X1_layBars 8), (8, aLA 0 9), (9, aLA 1 10), (10, aGR 7 0 13), (13, aCV 1 1 C_X1_layLimbs 16), (16, aRV)]
theorem mt_X1_lay : mMT tb_X1_lay :=
  mF (mn_LA _ _) <|
  mF (mn_LA _ _) <|
  mF (mn_GR _ _ _) <|
  mF (mn_CV _ _ mc_X1_layBars _) <|
  mF (mn_LA _ _) <|
  mF (mn_LA _ _) <|
  mF (mn_GR _ _ _) <|
  mF (mn_CV _ _ mc_X1_layLimbs _) <|
  mF (mn_RV) <|
  mF0
def C_X1_lay : mCo := mRun tb_X1_lay 2
theorem mc_X1_lay : mMC C_X1_lay := mRun_mn mt_X1_lay 2
theorem yi_X1_lay : mYin yX1_lay cX1_lay 2 none 1 := ⟨wd_57, wd_646, by decide +kernel, by decide⟩
set_option maxRecDepth 100000 in
set_option maxHeartbeats 4000000 in
theorem sd_X1_lay (l : Launch) (B : mBs) (p : Program) (e : Env) (s : State) (m : MethodId) (args : Array Value) (below : List Frame) (meth : Method) (c : Code) (Q : mQo) (X : mCx l B RX1 cX1_lay 2 p s m args c) (hr : meth.sig.returnType = none) (hk : meth.locks = false) (hn : meth.name = "lay") : ∀ q ∈ tb_X1_lay, mSnd l B 2 p e (mRm 2 0 0) s m args below meth c (MQ below (mPo B Q) args s 0 0 (mA B)) (fun r h' => (h'.1.2.1 ≤ 0 ∧ h'.1.2.2 ≤ 0) ∧ Q r h') q.2 q.1 :=
  mF (sn_aload_n (pc := 0) (j := 0) X (by decide +kernel) rfl) <|
  mF (sn_aload_n (pc := 1) (j := 1) X (by decide +kernel) rfl) <|
  mF (sn_getR (pc := 2) X fd_X1_48 (by decide +kernel)) <|
  mF (sn_callV (pc := 5) X mc_X1_layBars (me_X1_layBars l B) yi_X1_layBars wd_647 wd_612 wd_613 (T := TX1) (N := 11) rfl (by decide) (by decide +kernel)) <|
  mF (sn_aload_n (pc := 8) (j := 0) X (by decide +kernel) rfl) <|
  mF (sn_aload_n (pc := 9) (j := 1) X (by decide +kernel) rfl) <|
  mF (sn_getR (pc := 10) X fd_X1_58 (by decide +kernel)) <|
  mF (sn_callV (pc := 13) X mc_X1_layLimbs (me_X1_layLimbs l B) yi_X1_layLimbs wd_648 wd_580 wd_581 (T := TX1) (N := 11) rfl (by decide) (by decide +kernel)) <|
  mF (sn_vret (pc := 16) X hr hk (by decide +kernel)) <|
  mF0
theorem me_X1_lay (l : Launch) (B : mBs) : mMet l B yX1_lay cX1_lay 2 none 2 0 0 C_X1_lay := mMet_of (own := RX1) (by decide) rfl (fun p e s m args below meth c Q X hr hk hn => sd_X1_lay l B p e s m args below meth c Q X hr hk hn)
/-! PuppetStage.squareOf(JJ)J: 8 instructions, depth 0, makes 0 cells of 0 slots -/
def tb_X10_squareOf : mTb := [(0, aLL 0 1), (1, aLL 0 2), (2, aBL (fun x y => x * y) 3), (3, aLL 2 4), (4, aLL 2 5), (5, aBL (fun x y => x * y) 6), (6, aBL (fun x y => x + y) 7), (7, aRL)]
theorem mt_X10_squareOf : mMT tb_X10_squareOf :=
  mF (mn_LL _ _) <|
  mF (mn_LL _ _) <|
  mF (mn_BL _ _) <|
  mF (mn_LL _ _) <|
  mF (mn_LL _ _) <|
  mF (mn_BL _ _) <|
  mF (mn_BL _ _) <|
  mF (mn_RL) <|
  mF0
def C_X10_squareOf : mCo := mRun tb_X10_squareOf 4
theorem mc_X10_squareOf : mMC C_X10_squareOf := mRun_mn mt_X10_squareOf 4
theorem yi_X10_squareOf : mYin yX10_squareOf cX10_squareOf 4 (some .long) 2 := ⟨wd_49, wd_667, by decide +kernel, by decide⟩
set_option maxRecDepth 100000 in
set_option maxHeartbeats 4000000 in
theorem sd_X10_squareOf (l : Launch) (B : mBs) (p : Program) (e : Env) (s : State) (m : MethodId) (args : Array Value) (below : List Frame) (meth : Method) (c : Code) (Q : mQo) (X : mCx l B RX10 cX10_squareOf 4 p s m args c) (hr : meth.sig.returnType = (some .long)) (hk : meth.locks = false) (hn : meth.name = "squareOf") : ∀ q ∈ tb_X10_squareOf, mSnd l B 4 p e (mRm 0 0 0) s m args below meth c (MQ below (mPo B Q) args s 0 0 (mA B)) (fun r h' => (h'.1.2.1 ≤ 0 ∧ h'.1.2.2 ≤ 0) ∧ Q r h') q.2 q.1 :=
  mF (sn_lload_n (pc := 0) (j := 0) X (by decide +kernel) rfl) <|
  mF (sn_lload_n (pc := 1) (j := 0) X (by decide +kernel) rfl) <|
  mF (sn_lmul (pc := 2) X (by decide +kernel)) <|
  mF (sn_lload_n (pc := 3) (j := 2) X (by decide +kernel) rfl) <|
  mF (sn_lload_n (pc := 4) (j := 2) X (by decide +kernel) rfl) <|
  mF (sn_lmul (pc := 5) X (by decide +kernel)) <|
  mF (sn_ladd (pc := 6) X (by decide +kernel)) <|
  mF (sn_lret (pc := 7) X hr hk (by decide +kernel)) <|
  mF0
theorem me_X10_squareOf (l : Launch) (B : mBs) : mMet l B yX10_squareOf cX10_squareOf 4 (some .long) 0 0 0 C_X10_squareOf := mMet_of (own := RX10) (by decide) rfl (fun p e s m args below meth c Q X hr hk hn => sd_X10_squareOf l B p e s m args below meth c Q X hr hk hn)
/-! PuppetStage.distance(JJ)J: 62 instructions, depth 1, makes 0 cells of 0 slots -/
def tb_X10_distance : mTb := [(0, aLL 0 1), (1, aM1L (fun x => if 0 < x then x else -x) 4), (4, aLL 2 5), (5, aM1L (fun x => if 0 < x then x else -x) 8), (8, aM2L (fun x y => if y < x then x else y) 11), (11, aSL 4 13), (13, aLL 0 14), (14, aM1L (fun x => if 0 < x then x else -x) 17), (17, aLL 2 18), (18, aM1L (fun x => if 0 < x then x else -x) 21), (21, aM2L (fun x y => if y < x then y else x) 24), (24, aSL 6 26), (26, aLL 0 27), (27, aLL 2 28), (28, aCS 2 C_X10_squareOf 31), (31, aSL 8 33), (33, aLL 4 35), (35, aLL 6 37), (37, aPL 1 38), (38, aBL (fun x y => x + y) 39), (39, aPL 2 42), (42, aDL (fun x y => x / y) 43), (43, aBL (fun x y => x + y) 44), (44, aSL 10 46), (46, aPI 0 47), (47, aSI 12 49), (49, aLI 12 51), (51, aPI 64 53), (53, aIc (fun x y => y ≤ x) 98 56), (56, aLL 10 58), (58, aPL 0 59), (59, aCmp 60), (60, aIf (fun x => x ≤ 0) 98 63), (63, aLL 10 65), (65, aLL 8 67), (67, aLL 10 69), (69, aDL (fun x y => x / y) 70), (70, aBL (fun x y => x + y) 71), (71, aPL 2 74), (74, aDL (fun x y => x / y) 75), (75, aSL 13 77), (77, aLL 13 79), (79, aLL 10 81), (81, aCmp 82), (82, aIf (fun x => x < 0) 88 85), (85, aGo 98), (88, aLL 13 90), (90, aSL 10 92), (92, aInc 12 1 95), (95, aGo 49), (98, aLL 10 100), (100, aLL 10 102), (102, aBL (fun x y => x * y) 103), (103, aLL 8 105), (105, aCmp 106), (106, aIf (fun x => 0 ≤ x) 116 109), (109, aLL 10 111), (111, aPL 1 112), (112, aBL (fun x y => x + y) 113), (113, aGo 118), (116, aLL 10 118), (118, aRL)]
theorem mt_X10_distance : mMT tb_X10_distance :=
  mF (mn_LL _ _) <|
  mF (mn_M1L _ _) <|
  mF (mn_LL _ _) <|
  mF (mn_M1L _ _) <|
  mF (mn_M2L _ _) <|
  mF (mn_SL _ _) <|
  mF (mn_LL _ _) <|
  mF (mn_M1L _ _) <|
  mF (mn_LL _ _) <|
  mF (mn_M1L _ _) <|
  mF (mn_M2L _ _) <|
  mF (mn_SL _ _) <|
  mF (mn_LL _ _) <|
  mF (mn_LL _ _) <|
  mF (mn_CS _ mc_X10_squareOf _) <|
  mF (mn_SL _ _) <|
  mF (mn_LL _ _) <|
  mF (mn_LL _ _) <|
  mF (mn_PL _ _) <|
  mF (mn_BL _ _) <|
  mF (mn_PL _ _) <|
  mF (mn_DL _ _) <|
  mF (mn_BL _ _) <|
  mF (mn_SL _ _) <|
  mF (mn_PI _ _) <|
  mF (mn_SI _ _) <|
  mF (mn_LI _ _) <|
  mF (mn_PI _ _) <|
  mF (mn_Ic _ _ _) <|
  mF (mn_LL _ _) <|
  mF (mn_PL _ _) <|
  mF (mn_Cmp _) <|
  mF (mn_If _ _ _) <|
  mF (mn_LL _ _) <|
  mF (mn_LL _ _) <|
  mF (mn_LL _ _) <|
  mF (mn_DL _ _) <|
  mF (mn_BL _ _) <|
  mF (mn_PL _ _) <|
  mF (mn_DL _ _) <|
  mF (mn_SL _ _) <|
  mF (mn_LL _ _) <|
  mF (mn_LL _ _) <|
  mF (mn_Cmp _) <|
  mF (mn_If _ _ _) <|
  mF (mn_Go _) <|
  mF (mn_LL _ _) <|
  mF (mn_SL _ _) <|
  mF (mn_Inc _ _ _) <|
  mF (mn_Go _) <|
  mF (mn_LL _ _) <|
  mF (mn_LL _ _) <|
  mF (mn_BL _ _) <|
  mF (mn_LL _ _) <|
  mF (mn_Cmp _) <|
  mF (mn_If _ _ _) <|
  mF (mn_LL _ _) <|
  mF (mn_PL _ _) <|
  mF (mn_BL _ _) <|
  mF (mn_Go _) <|
  mF (mn_LL _ _) <|
  mF (mn_RL) <|
  mF0
def C_X10_distance : mCo := mRun tb_X10_distance 15
theorem mc_X10_distance : mMC C_X10_distance := mRun_mn mt_X10_distance 15
theorem yi_X10_distance : mYin yX10_distance cX10_distance 15 (some .long) 2 := ⟨wd_49, wd_655, by decide +kernel, by decide⟩
set_option maxRecDepth 100000 in
set_option maxHeartbeats 4000000 in
theorem sd_X10_distance (l : Launch) (B : mBs) (p : Program) (e : Env) (s : State) (m : MethodId) (args : Array Value) (below : List Frame) (meth : Method) (c : Code) (Q : mQo) (X : mCx l B RX10 cX10_distance 15 p s m args c) (hr : meth.sig.returnType = (some .long)) (hk : meth.locks = false) (hn : meth.name = "distance") : ∀ q ∈ tb_X10_distance, mSnd l B 15 p e (mRm 1 0 0) s m args below meth c (MQ below (mPo B Q) args s 0 0 (mA B)) (fun r h' => (h'.1.2.1 ≤ 0 ∧ h'.1.2.2 ≤ 0) ∧ Q r h') q.2 q.1 :=
  mF (sn_lload_n (pc := 0) (j := 0) X (by decide +kernel) rfl) <|
  mF (sn_absL (pc := 1) X (by decide) wd_656 wd_657 wd_61 wd_658 (by decide +kernel)) <|
  mF (sn_lload_n (pc := 4) (j := 2) X (by decide +kernel) rfl) <|
  mF (sn_absL (pc := 5) X (by decide) wd_656 wd_657 wd_61 wd_658 (by decide +kernel)) <|
  mF (sn_maxL (pc := 8) X (by decide) wd_659 wd_660 wd_61 wd_661 (by decide +kernel)) <|
  mF (sn_lstore (pc := 11) X (by decide +kernel) (by decide)) <|
  mF (sn_lload_n (pc := 13) (j := 0) X (by decide +kernel) rfl) <|
  mF (sn_absL (pc := 14) X (by decide) wd_656 wd_657 wd_61 wd_658 (by decide +kernel)) <|
  mF (sn_lload_n (pc := 17) (j := 2) X (by decide +kernel) rfl) <|
  mF (sn_absL (pc := 18) X (by decide) wd_656 wd_657 wd_61 wd_658 (by decide +kernel)) <|
  mF (sn_minL (pc := 21) X (by decide) wd_662 wd_663 wd_61 wd_664 (by decide +kernel)) <|
  mF (sn_lstore (pc := 24) X (by decide +kernel) (by decide)) <|
  mF (sn_lload_n (pc := 26) (j := 0) X (by decide +kernel) rfl) <|
  mF (sn_lload_n (pc := 27) (j := 2) X (by decide +kernel) rfl) <|
  mF (sn_callS (pc := 28) X mc_X10_squareOf (me_X10_squareOf l B) yi_X10_squareOf wd_665 wd_666 (by decide) (by decide +kernel)) <|
  mF (sn_lstore (pc := 31) X (by decide +kernel) (by decide)) <|
  mF (sn_lload (pc := 33) X (by decide +kernel)) <|
  mF (sn_lload (pc := 35) X (by decide +kernel)) <|
  mF (sn_lconst (pc := 37) (n := 1) X (by decide +kernel) (by decide)) <|
  mF (sn_ladd (pc := 38) X (by decide +kernel)) <|
  mF (sn_ldc2 (pc := 39) X (by decide +kernel) wd_668) <|
  mF (sn_ldiv (pc := 42) X (by decide +kernel)) <|
  mF (sn_ladd (pc := 43) X (by decide +kernel)) <|
  mF (sn_lstore (pc := 44) X (by decide +kernel) (by decide)) <|
  mF (sn_iconst (pc := 46) (n := 0) X (by decide +kernel) (by decide)) <|
  mF (sn_istore (pc := 47) X (by decide +kernel) (by decide)) <|
  mF (sn_iload (pc := 49) X (by decide +kernel)) <|
  mF (sn_bipush (pc := 51) (n := 64) X (by decide +kernel) (by decide)) <|
  mF (sn_icmp_ge (pc := 53) (off := 45) X (by decide +kernel) (by decide)) <|
  mF (sn_lload (pc := 56) X (by decide +kernel)) <|
  mF (sn_lconst (pc := 58) (n := 0) X (by decide +kernel) (by decide)) <|
  mF (sn_lcmp (pc := 59) X (by decide +kernel)) <|
  mF (sn_if_le (pc := 60) (off := 38) X (by decide +kernel) (by decide)) <|
  mF (sn_lload (pc := 63) X (by decide +kernel)) <|
  mF (sn_lload (pc := 65) X (by decide +kernel)) <|
  mF (sn_lload (pc := 67) X (by decide +kernel)) <|
  mF (sn_ldiv (pc := 69) X (by decide +kernel)) <|
  mF (sn_ladd (pc := 70) X (by decide +kernel)) <|
  mF (sn_ldc2 (pc := 71) X (by decide +kernel) wd_668) <|
  mF (sn_ldiv (pc := 74) X (by decide +kernel)) <|
  mF (sn_lstore (pc := 75) X (by decide +kernel) (by decide)) <|
  mF (sn_lload (pc := 77) X (by decide +kernel)) <|
  mF (sn_lload (pc := 79) X (by decide +kernel)) <|
  mF (sn_lcmp (pc := 81) X (by decide +kernel)) <|
  mF (sn_if_lt (pc := 82) (off := 6) X (by decide +kernel) (by decide)) <|
  mF (sn_goto (pc := 85) (off := 13) X (by decide +kernel) (by decide)) <|
  mF (sn_lload (pc := 88) X (by decide +kernel)) <|
  mF (sn_lstore (pc := 90) X (by decide +kernel) (by decide)) <|
  mF (sn_iinc (pc := 92) (n := 1) X (by decide +kernel) (by decide) (by decide)) <|
  mF (sn_goto (pc := 95) (off := (-46)) X (by decide +kernel) (by decide)) <|
  mF (sn_lload (pc := 98) X (by decide +kernel)) <|
  mF (sn_lload (pc := 100) X (by decide +kernel)) <|
  mF (sn_lmul (pc := 102) X (by decide +kernel)) <|
  mF (sn_lload (pc := 103) X (by decide +kernel)) <|
  mF (sn_lcmp (pc := 105) X (by decide +kernel)) <|
  mF (sn_if_ge (pc := 106) (off := 10) X (by decide +kernel) (by decide)) <|
  mF (sn_lload (pc := 109) X (by decide +kernel)) <|
  mF (sn_lconst (pc := 111) (n := 1) X (by decide +kernel) (by decide)) <|
  mF (sn_ladd (pc := 112) X (by decide +kernel)) <|
  mF (sn_goto (pc := 113) (off := 5) X (by decide +kernel) (by decide)) <|
  mF (sn_lload (pc := 116) X (by decide +kernel)) <|
  mF (sn_lret (pc := 118) X hr hk (by decide +kernel)) <|
  mF0
theorem me_X10_distance (l : Launch) (B : mBs) : mMet l B yX10_distance cX10_distance 15 (some .long) 1 0 0 C_X10_distance := mMet_of (own := RX10) (by decide) rfl (fun p e s m args below meth c Q X hr hk hn => sd_X10_distance l B p e s m args below meth c Q X hr hk hn)
/-! PuppetStage$Figure.far(LPuppetStage$Holds;I)J: 77 instructions, depth 2, makes 0 cells of 0 slots -/
def tb_X1_far_c0 : mTb := [(0, aLA 1 1), (1, aGR 4 0 4), (4, aLI 2 5), (5, aIA 6), (6, aPI 4 7), (7, aIc (fun x y => x = y) 10 12), (10, aPL 0 11), (11, aRL), (12, aLA 1 13), (13, aGR 4 1 16), (16, aLI 2 17), (17, aIA 18), (18, aSI 3 19), (19, aLA 1 20), (20, aGR 4 2 23), (23, aLI 2 24), (24, aIA 25), (25, aSI 4 27), (27, aLA 1 28), (28, aGR 4 3 31), (31, aLI 2 32), (32, aIA 33), (33, aSI 5 35), (35, aLA 0 36), (36, aLI 4 38), (38, aLI 5 40), (40, aCV 1 2 C_X1_spotX 43), (43, aLA 0 44), (44, aGR 1 7 47), (47, aLI 3 48), (48, aIA 49), (49, aB (fun x y => x - y) 50), (50, aI2L 51), (51, aLA 0 52), (52, aLI 4 54), (54, aLI 5 56), (56, aCV 1 2 C_X1_spotY 59), (59, aLA 0 60), (60, aGR 1 8 63), (63, aLI 3 64), (64, aIA 65), (65, aB (fun x y => x - y) 66), (66, aI2L 67), (67, aCS 2 C_X10_distance 70), (70, aSL 6 72), (72, aLA 1 73), (73, aGR 4 0 76), (76, aLI 2 77), (77, aIA 78), (78, aPI 1 79), (79, aIc (fun x y => x = y) 82 118), (82, aLL 6 84), (84, aLA 0 85), (85, aGR 1 5 88), (88, aPI 0 89), (89, aIA 90), (90, aLA 0 91), (91, aGR 1 7 94), (94, aLI 3 95), (95, aIA 96), (96, aB (fun x y => x - y) 97), (97, aI2L 98), (98, aLA 0 99), (99, aGR 1 6 102), (102, aPI 0 103), (103, aIA 104), (104, aLA 0 105), (105, aGR 1 8 108), (108, aLI 3 109), (109, aIA 110)]
theorem mt_X1_far_c0 : mMT tb_X1_far_c0 :=
  mF (mn_LA _ _) <|
  mF (mn_GR _ _ _) <|
  mF (mn_LI _ _) <|
  mF (mn_IA _) <|
  mF (mn_PI _ _) <|
  mF (mn_Ic _ _ _) <|
  mF (mn_PL _ _) <|
  mF (mn_RL) <|
  mF (mn_LA _ _) <|
  mF (mn_GR _ _ _) <|
  mF (mn_LI _ _) <|
  mF (mn_IA _) <|
  mF (mn_SI _ _) <|
  mF (mn_LA _ _) <|
  mF (mn_GR _ _ _) <|
  mF (mn_LI _ _) <|
  mF (mn_IA _) <|
  mF (mn_SI _ _) <|
  mF (mn_LA _ _) <|
  mF (mn_GR _ _ _) <|
  mF (mn_LI _ _) <|
  mF (mn_IA _) <|
  mF (mn_SI _ _) <|
  mF (mn_LA _ _) <|
  mF (mn_LI _ _) <|
  mF (mn_LI _ _) <|
  mF (mn_CV _ _ mc_X1_spotX _) <|
  mF (mn_LA _ _) <|
  mF (mn_GR _ _ _) <|
  mF (mn_LI _ _) <|
  mF (mn_IA _) <|
  mF (mn_B _ _) <|
  mF (mn_I2L _) <|
  mF (mn_LA _ _) <|
  mF (mn_LI _ _) <|
  mF (mn_LI _ _) <|
  mF (mn_CV _ _ mc_X1_spotY _) <|
  mF (mn_LA _ _) <|
  mF (mn_GR _ _ _) <|
  mF (mn_LI _ _) <|
  mF (mn_IA _) <|
  mF (mn_B _ _) <|
  mF (mn_I2L _) <|
  mF (mn_CS _ mc_X10_distance _) <|
  mF (mn_SL _ _) <|
  mF (mn_LA _ _) <|
  mF (mn_GR _ _ _) <|
  mF (mn_LI _ _) <|
  mF (mn_IA _) <|
  mF (mn_PI _ _) <|
  mF (mn_Ic _ _ _) <|
  mF (mn_LL _ _) <|
  mF (mn_LA _ _) <|
  mF (mn_GR _ _ _) <|
  mF (mn_PI _ _) <|
  mF (mn_IA _) <|
  mF (mn_LA _ _) <|
  mF (mn_GR _ _ _) <|
  mF (mn_LI _ _) <|
  mF (mn_IA _) <|
  mF (mn_B _ _) <|
  mF (mn_I2L _) <|
  mF (mn_LA _ _) <|
  mF (mn_GR _ _ _) <|
  mF (mn_PI _ _) <|
  mF (mn_IA _) <|
  mF (mn_LA _ _) <|
  mF (mn_GR _ _ _) <|
  mF (mn_LI _ _) <|
  mF (mn_IA _) <|
  mF0
def tb_X1_far_c1 : mTb := [(110, aB (fun x y => x - y) 111), (111, aI2L 112), (112, aCS 2 C_X10_distance 115), (115, aBL (fun x y => x + y) 116), (116, aSL 6 118), (118, aLL 6 120), (120, aRL)]
theorem mt_X1_far_c1 : mMT tb_X1_far_c1 :=
  mF (mn_B _ _) <|
  mF (mn_I2L _) <|
  mF (mn_CS _ mc_X10_distance _) <|
  mF (mn_BL _ _) <|
  mF (mn_SL _ _) <|
  mF (mn_LL _ _) <|
  mF (mn_RL) <|
  mF0
def tb_X1_far : mTb := tb_X1_far_c0 ++ (tb_X1_far_c1)
theorem mt_X1_far : mMT tb_X1_far := mFA mt_X1_far_c0 mt_X1_far_c1
def C_X1_far : mCo := mRun tb_X1_far 8
theorem mc_X1_far : mMC C_X1_far := mRun_mn mt_X1_far 8
theorem yi_X1_far : mYin yX1_far cX1_far 8 (some .long) 2 := ⟨wd_57, wd_652, by decide +kernel, by decide⟩
set_option maxRecDepth 100000 in
set_option maxHeartbeats 4000000 in
theorem sd_X1_far_c0 (l : Launch) (B : mBs) (p : Program) (e : Env) (s : State) (m : MethodId) (args : Array Value) (below : List Frame) (meth : Method) (c : Code) (Q : mQo) (X : mCx l B RX1 cX1_far 8 p s m args c) (hr : meth.sig.returnType = (some .long)) (hk : meth.locks = false) (hn : meth.name = "far") : ∀ q ∈ tb_X1_far_c0, mSnd l B 8 p e (mRm 2 0 0) s m args below meth c (MQ below (mPo B Q) args s 0 0 (mA B)) (fun r h' => (h'.1.2.1 ≤ 0 ∧ h'.1.2.2 ≤ 0) ∧ Q r h') q.2 q.1 :=
  mF (sn_aload_n (pc := 0) (j := 1) X (by decide +kernel) rfl) <|
  mF (sn_getR (pc := 1) X fd_X1_118 (by decide +kernel)) <|
  mF (sn_iload_n (pc := 4) (j := 2) X (by decide +kernel) rfl) <|
  mF (sn_iaload (pc := 5) X (by decide +kernel)) <|
  mF (sn_iconst (pc := 6) (n := 4) X (by decide +kernel) (by decide)) <|
  mF (sn_icmp_ne (pc := 7) (off := 5) X (by decide +kernel) (by decide)) <|
  mF (sn_lconst (pc := 10) (n := 0) X (by decide +kernel) (by decide)) <|
  mF (sn_lret (pc := 11) X hr hk (by decide +kernel)) <|
  mF (sn_aload_n (pc := 12) (j := 1) X (by decide +kernel) rfl) <|
  mF (sn_getR (pc := 13) X fd_X1_123 (by decide +kernel)) <|
  mF (sn_iload_n (pc := 16) (j := 2) X (by decide +kernel) rfl) <|
  mF (sn_iaload (pc := 17) X (by decide +kernel)) <|
  mF (sn_istore_n (pc := 18) (j := 3) X (by decide +kernel) rfl (by decide)) <|
  mF (sn_aload_n (pc := 19) (j := 1) X (by decide +kernel) rfl) <|
  mF (sn_getR (pc := 20) X fd_X1_126 (by decide +kernel)) <|
  mF (sn_iload_n (pc := 23) (j := 2) X (by decide +kernel) rfl) <|
  mF (sn_iaload (pc := 24) X (by decide +kernel)) <|
  mF (sn_istore (pc := 25) X (by decide +kernel) (by decide)) <|
  mF (sn_aload_n (pc := 27) (j := 1) X (by decide +kernel) rfl) <|
  mF (sn_getR (pc := 28) X fd_X1_129 (by decide +kernel)) <|
  mF (sn_iload_n (pc := 31) (j := 2) X (by decide +kernel) rfl) <|
  mF (sn_iaload (pc := 32) X (by decide +kernel)) <|
  mF (sn_istore (pc := 33) X (by decide +kernel) (by decide)) <|
  mF (sn_aload_n (pc := 35) (j := 0) X (by decide +kernel) rfl) <|
  mF (sn_iload (pc := 36) X (by decide +kernel)) <|
  mF (sn_iload (pc := 38) X (by decide +kernel)) <|
  mF (sn_callV (pc := 40) X mc_X1_spotX (me_X1_spotX l B) yi_X1_spotX wd_591 wd_592 wd_593 (T := TX1) (N := 11) rfl (by decide) (by decide +kernel)) <|
  mF (sn_aload_n (pc := 43) (j := 0) X (by decide +kernel) rfl) <|
  mF (sn_getR (pc := 44) X fd_X1_33 (by decide +kernel)) <|
  mF (sn_iload_n (pc := 47) (j := 3) X (by decide +kernel) rfl) <|
  mF (sn_iaload (pc := 48) X (by decide +kernel)) <|
  mF (sn_isub (pc := 49) X (by decide +kernel)) <|
  mF (sn_i2l (pc := 50) X (by decide +kernel)) <|
  mF (sn_aload_n (pc := 51) (j := 0) X (by decide +kernel) rfl) <|
  mF (sn_iload (pc := 52) X (by decide +kernel)) <|
  mF (sn_iload (pc := 54) X (by decide +kernel)) <|
  mF (sn_callV (pc := 56) X mc_X1_spotY (me_X1_spotY l B) yi_X1_spotY wd_595 wd_596 wd_597 (T := TX1) (N := 11) rfl (by decide) (by decide +kernel)) <|
  mF (sn_aload_n (pc := 59) (j := 0) X (by decide +kernel) rfl) <|
  mF (sn_getR (pc := 60) X fd_X1_36 (by decide +kernel)) <|
  mF (sn_iload_n (pc := 63) (j := 3) X (by decide +kernel) rfl) <|
  mF (sn_iaload (pc := 64) X (by decide +kernel)) <|
  mF (sn_isub (pc := 65) X (by decide +kernel)) <|
  mF (sn_i2l (pc := 66) X (by decide +kernel)) <|
  mF (sn_callSN (pc := 67) X mc_X10_distance (me_X10_distance l B) yi_X10_distance wd_653 wd_654 (by decide) (by decide +kernel)) <|
  mF (sn_lstore (pc := 70) X (by decide +kernel) (by decide)) <|
  mF (sn_aload_n (pc := 72) (j := 1) X (by decide +kernel) rfl) <|
  mF (sn_getR (pc := 73) X fd_X1_118 (by decide +kernel)) <|
  mF (sn_iload_n (pc := 76) (j := 2) X (by decide +kernel) rfl) <|
  mF (sn_iaload (pc := 77) X (by decide +kernel)) <|
  mF (sn_iconst (pc := 78) (n := 1) X (by decide +kernel) (by decide)) <|
  mF (sn_icmp_ne (pc := 79) (off := 39) X (by decide +kernel) (by decide)) <|
  mF (sn_lload (pc := 82) X (by decide +kernel)) <|
  mF (sn_aload_n (pc := 84) (j := 0) X (by decide +kernel) rfl) <|
  mF (sn_getR (pc := 85) X fd_X1_27 (by decide +kernel)) <|
  mF (sn_iconst (pc := 88) (n := 0) X (by decide +kernel) (by decide)) <|
  mF (sn_iaload (pc := 89) X (by decide +kernel)) <|
  mF (sn_aload_n (pc := 90) (j := 0) X (by decide +kernel) rfl) <|
  mF (sn_getR (pc := 91) X fd_X1_33 (by decide +kernel)) <|
  mF (sn_iload_n (pc := 94) (j := 3) X (by decide +kernel) rfl) <|
  mF (sn_iaload (pc := 95) X (by decide +kernel)) <|
  mF (sn_isub (pc := 96) X (by decide +kernel)) <|
  mF (sn_i2l (pc := 97) X (by decide +kernel)) <|
  mF (sn_aload_n (pc := 98) (j := 0) X (by decide +kernel) rfl) <|
  mF (sn_getR (pc := 99) X fd_X1_30 (by decide +kernel)) <|
  mF (sn_iconst (pc := 102) (n := 0) X (by decide +kernel) (by decide)) <|
  mF (sn_iaload (pc := 103) X (by decide +kernel)) <|
  mF (sn_aload_n (pc := 104) (j := 0) X (by decide +kernel) rfl) <|
  mF (sn_getR (pc := 105) X fd_X1_36 (by decide +kernel)) <|
  mF (sn_iload_n (pc := 108) (j := 3) X (by decide +kernel) rfl) <|
  mF (sn_iaload (pc := 109) X (by decide +kernel)) <|
  mF0
set_option maxRecDepth 100000 in
set_option maxHeartbeats 4000000 in
theorem sd_X1_far_c1 (l : Launch) (B : mBs) (p : Program) (e : Env) (s : State) (m : MethodId) (args : Array Value) (below : List Frame) (meth : Method) (c : Code) (Q : mQo) (X : mCx l B RX1 cX1_far 8 p s m args c) (hr : meth.sig.returnType = (some .long)) (hk : meth.locks = false) (hn : meth.name = "far") : ∀ q ∈ tb_X1_far_c1, mSnd l B 8 p e (mRm 2 0 0) s m args below meth c (MQ below (mPo B Q) args s 0 0 (mA B)) (fun r h' => (h'.1.2.1 ≤ 0 ∧ h'.1.2.2 ≤ 0) ∧ Q r h') q.2 q.1 :=
  mF (sn_isub (pc := 110) X (by decide +kernel)) <|
  mF (sn_i2l (pc := 111) X (by decide +kernel)) <|
  mF (sn_callSN (pc := 112) X mc_X10_distance (me_X10_distance l B) yi_X10_distance wd_653 wd_654 (by decide) (by decide +kernel)) <|
  mF (sn_ladd (pc := 115) X (by decide +kernel)) <|
  mF (sn_lstore (pc := 116) X (by decide +kernel) (by decide)) <|
  mF (sn_lload (pc := 118) X (by decide +kernel)) <|
  mF (sn_lret (pc := 120) X hr hk (by decide +kernel)) <|
  mF0
theorem sd_X1_far (l : Launch) (B : mBs) (p : Program) (e : Env) (s : State) (m : MethodId) (args : Array Value) (below : List Frame) (meth : Method) (c : Code) (Q : mQo) (X : mCx l B RX1 cX1_far 8 p s m args c) (hr : meth.sig.returnType = (some .long)) (hk : meth.locks = false) (hn : meth.name = "far") : ∀ q ∈ tb_X1_far, mSnd l B 8 p e (mRm 2 0 0) s m args below meth c (MQ below (mPo B Q) args s 0 0 (mA B)) (fun r h' => (h'.1.2.1 ≤ 0 ∧ h'.1.2.2 ≤ 0) ∧ Q r h') q.2 q.1 := mFA (sd_X1_far_c0 l B p e s m args below meth c Q X hr hk hn) (sd_X1_far_c1 l B p e s m args below meth c Q X hr hk hn)
theorem me_X1_far (l : Launch) (B : mBs) : mMet l B yX1_far cX1_far 8 (some .long) 2 0 0 C_X1_far := mMet_of (own := RX1) (by decide) rfl (fun p e s m args below meth c Q X hr hk hn => sd_X1_far l B p e s m args below meth c Q X hr hk hn)
/-! PuppetStage$Holds.free(I)I: 12 instructions, depth 0, makes 0 cells of 0 slots -/
def tb_X4_free : mTb := [(0, aPI 1024 3), (3, aLA 0 4), (4, aGR 4 4 7), (7, aLI 1 8), (8, aIA 9), (9, aLA 0 10), (10, aGR 4 5 13), (13, aLI 1 14), (14, aIA 15), (15, aB (fun x y => x - y) 16), (16, aB (fun x y => x * y) 17), (17, aRI)]
theorem mt_X4_free : mMT tb_X4_free :=
  mF (mn_PI _ _) <|
  mF (mn_LA _ _) <|
  mF (mn_GR _ _ _) <|
  mF (mn_LI _ _) <|
  mF (mn_IA _) <|
  mF (mn_LA _ _) <|
  mF (mn_GR _ _ _) <|
  mF (mn_LI _ _) <|
  mF (mn_IA _) <|
  mF (mn_B _ _) <|
  mF (mn_B _ _) <|
  mF (mn_RI) <|
  mF0
def C_X4_free : mCo := mRun tb_X4_free 2
theorem mc_X4_free : mMC C_X4_free := mRun_mn mt_X4_free 2
theorem yi_X4_free : mYin yX4_free cX4_free 2 (some .int) 1 := ⟨wd_54, wd_676, by decide +kernel, by decide⟩
set_option maxRecDepth 100000 in
set_option maxHeartbeats 4000000 in
theorem sd_X4_free (l : Launch) (B : mBs) (p : Program) (e : Env) (s : State) (m : MethodId) (args : Array Value) (below : List Frame) (meth : Method) (c : Code) (Q : mQo) (X : mCx l B RX4 cX4_free 2 p s m args c) (hr : meth.sig.returnType = (some .int)) (hk : meth.locks = false) (hn : meth.name = "free") : ∀ q ∈ tb_X4_free, mSnd l B 2 p e (mRm 0 0 0) s m args below meth c (MQ below (mPo B Q) args s 0 0 (mA B)) (fun r h' => (h'.1.2.1 ≤ 0 ∧ h'.1.2.2 ≤ 0) ∧ Q r h') q.2 q.1 :=
  mF (sn_sipush (pc := 0) (n := 1024) X (by decide +kernel) (by decide)) <|
  mF (sn_aload_n (pc := 3) (j := 0) X (by decide +kernel) rfl) <|
  mF (sn_getR (pc := 4) X fd_X4_24 (by decide +kernel)) <|
  mF (sn_iload_n (pc := 7) (j := 1) X (by decide +kernel) rfl) <|
  mF (sn_iaload (pc := 8) X (by decide +kernel)) <|
  mF (sn_aload_n (pc := 9) (j := 0) X (by decide +kernel) rfl) <|
  mF (sn_getR (pc := 10) X fd_X4_27 (by decide +kernel)) <|
  mF (sn_iload_n (pc := 13) (j := 1) X (by decide +kernel) rfl) <|
  mF (sn_iaload (pc := 14) X (by decide +kernel)) <|
  mF (sn_isub (pc := 15) X (by decide +kernel)) <|
  mF (sn_imul (pc := 16) X (by decide +kernel)) <|
  mF (sn_iret (pc := 17) X hr hk (by decide +kernel)) <|
  mF0
theorem me_X4_free (l : Launch) (B : mBs) : mMet l B yX4_free cX4_free 2 (some .int) 0 0 0 C_X4_free := mMet_of (own := RX4) (by decide) rfl (fun p e s m args below meth c Q X hr hk hn => sd_X4_free l B p e s m args below meth c Q X hr hk hn)
/-! PuppetStage$Figure.tooLong(LPuppetStage$Holds;IJ)J: 42 instructions, depth 1, makes 0 cells of 0 slots -/
def tb_X1_tooLong : mTb := [(0, aLL 3 1), (1, aLA 1 2), (2, aLI 2 3), (3, aCV 4 1 C_X4_free 6), (6, aI2L 7), (7, aBL (fun x y => x - y) 8), (8, aSL 5 10), (10, aLA 1 11), (11, aGR 4 0 14), (14, aLI 2 15), (15, aIA 16), (16, aPI 4 17), (17, aIc (fun x y => x = y) 20 43), (20, aLA 0 21), (21, aLA 1 22), (22, aGR 4 2 25), (25, aLI 2 26), (26, aIA 27), (27, aLA 1 28), (28, aGR 4 3 31), (31, aLI 2 32), (32, aIA 33), (33, aCV 1 2 C_X1_spotY 36), (36, aU (fun x => -x) 37), (37, aI2L 38), (38, aSL 5 40), (40, aGo 64), (43, aLA 1 44), (44, aGR 4 0 47), (47, aLI 2 48), (48, aIA 49), (49, aPI 3 50), (50, aIc (fun x y => x = y) 53 64), (53, aLL 5 55), (55, aM1L (fun x => if 0 < x then x else -x) 58), (58, aPL 1024 61), (61, aBL (fun x y => x - y) 62), (62, aSL 5 64), (64, aPL 0 65), (65, aLL 5 67), (67, aM2L (fun x y => if y < x then x else y) 70), (70, aRL)]
theorem mt_X1_tooLong : mMT tb_X1_tooLong :=
  mF (mn_LL _ _) <|
  mF (mn_LA _ _) <|
  mF (mn_LI _ _) <|
  mF (mn_CV _ _ mc_X4_free _) <|
  mF (mn_I2L _) <|
  mF (mn_BL _ _) <|
  mF (mn_SL _ _) <|
  mF (mn_LA _ _) <|
  mF (mn_GR _ _ _) <|
  mF (mn_LI _ _) <|
  mF (mn_IA _) <|
  mF (mn_PI _ _) <|
  mF (mn_Ic _ _ _) <|
  mF (mn_LA _ _) <|
  mF (mn_LA _ _) <|
  mF (mn_GR _ _ _) <|
  mF (mn_LI _ _) <|
  mF (mn_IA _) <|
  mF (mn_LA _ _) <|
  mF (mn_GR _ _ _) <|
  mF (mn_LI _ _) <|
  mF (mn_IA _) <|
  mF (mn_CV _ _ mc_X1_spotY _) <|
  mF (mn_U _ _) <|
  mF (mn_I2L _) <|
  mF (mn_SL _ _) <|
  mF (mn_Go _) <|
  mF (mn_LA _ _) <|
  mF (mn_GR _ _ _) <|
  mF (mn_LI _ _) <|
  mF (mn_IA _) <|
  mF (mn_PI _ _) <|
  mF (mn_Ic _ _ _) <|
  mF (mn_LL _ _) <|
  mF (mn_M1L _ _) <|
  mF (mn_PL _ _) <|
  mF (mn_BL _ _) <|
  mF (mn_SL _ _) <|
  mF (mn_PL _ _) <|
  mF (mn_LL _ _) <|
  mF (mn_M2L _ _) <|
  mF (mn_RL) <|
  mF0
def C_X1_tooLong : mCo := mRun tb_X1_tooLong 7
theorem mc_X1_tooLong : mMC C_X1_tooLong := mRun_mn mt_X1_tooLong 7
theorem yi_X1_tooLong : mYin yX1_tooLong cX1_tooLong 7 (some .long) 3 := ⟨wd_57, wd_672, by decide +kernel, by decide⟩
set_option maxRecDepth 100000 in
set_option maxHeartbeats 4000000 in
theorem sd_X1_tooLong (l : Launch) (B : mBs) (p : Program) (e : Env) (s : State) (m : MethodId) (args : Array Value) (below : List Frame) (meth : Method) (c : Code) (Q : mQo) (X : mCx l B RX1 cX1_tooLong 7 p s m args c) (hr : meth.sig.returnType = (some .long)) (hk : meth.locks = false) (hn : meth.name = "tooLong") : ∀ q ∈ tb_X1_tooLong, mSnd l B 7 p e (mRm 1 0 0) s m args below meth c (MQ below (mPo B Q) args s 0 0 (mA B)) (fun r h' => (h'.1.2.1 ≤ 0 ∧ h'.1.2.2 ≤ 0) ∧ Q r h') q.2 q.1 :=
  mF (sn_lload_n (pc := 0) (j := 3) X (by decide +kernel) rfl) <|
  mF (sn_aload_n (pc := 1) (j := 1) X (by decide +kernel) rfl) <|
  mF (sn_iload_n (pc := 2) (j := 2) X (by decide +kernel) rfl) <|
  mF (sn_callV (pc := 3) X mc_X4_free (me_X4_free l B) yi_X4_free wd_673 wd_674 wd_675 (T := TX4) (N := 7) rfl (by decide) (by decide +kernel)) <|
  mF (sn_i2l (pc := 6) X (by decide +kernel)) <|
  mF (sn_lsub (pc := 7) X (by decide +kernel)) <|
  mF (sn_lstore (pc := 8) X (by decide +kernel) (by decide)) <|
  mF (sn_aload_n (pc := 10) (j := 1) X (by decide +kernel) rfl) <|
  mF (sn_getR (pc := 11) X fd_X1_118 (by decide +kernel)) <|
  mF (sn_iload_n (pc := 14) (j := 2) X (by decide +kernel) rfl) <|
  mF (sn_iaload (pc := 15) X (by decide +kernel)) <|
  mF (sn_iconst (pc := 16) (n := 4) X (by decide +kernel) (by decide)) <|
  mF (sn_icmp_ne (pc := 17) (off := 26) X (by decide +kernel) (by decide)) <|
  mF (sn_aload_n (pc := 20) (j := 0) X (by decide +kernel) rfl) <|
  mF (sn_aload_n (pc := 21) (j := 1) X (by decide +kernel) rfl) <|
  mF (sn_getR (pc := 22) X fd_X1_126 (by decide +kernel)) <|
  mF (sn_iload_n (pc := 25) (j := 2) X (by decide +kernel) rfl) <|
  mF (sn_iaload (pc := 26) X (by decide +kernel)) <|
  mF (sn_aload_n (pc := 27) (j := 1) X (by decide +kernel) rfl) <|
  mF (sn_getR (pc := 28) X fd_X1_129 (by decide +kernel)) <|
  mF (sn_iload_n (pc := 31) (j := 2) X (by decide +kernel) rfl) <|
  mF (sn_iaload (pc := 32) X (by decide +kernel)) <|
  mF (sn_callV (pc := 33) X mc_X1_spotY (me_X1_spotY l B) yi_X1_spotY wd_595 wd_596 wd_597 (T := TX1) (N := 11) rfl (by decide) (by decide +kernel)) <|
  mF (sn_ineg (pc := 36) X (by decide +kernel)) <|
  mF (sn_i2l (pc := 37) X (by decide +kernel)) <|
  mF (sn_lstore (pc := 38) X (by decide +kernel) (by decide)) <|
  mF (sn_goto (pc := 40) (off := 24) X (by decide +kernel) (by decide)) <|
  mF (sn_aload_n (pc := 43) (j := 1) X (by decide +kernel) rfl) <|
  mF (sn_getR (pc := 44) X fd_X1_118 (by decide +kernel)) <|
  mF (sn_iload_n (pc := 47) (j := 2) X (by decide +kernel) rfl) <|
  mF (sn_iaload (pc := 48) X (by decide +kernel)) <|
  mF (sn_iconst (pc := 49) (n := 3) X (by decide +kernel) (by decide)) <|
  mF (sn_icmp_ne (pc := 50) (off := 14) X (by decide +kernel) (by decide)) <|
  mF (sn_lload (pc := 53) X (by decide +kernel)) <|
  mF (sn_absL (pc := 55) X (by decide) wd_677 wd_657 wd_61 wd_658 (by decide +kernel)) <|
  mF (sn_ldc2 (pc := 58) X (by decide +kernel) wd_678) <|
  mF (sn_lsub (pc := 61) X (by decide +kernel)) <|
  mF (sn_lstore (pc := 62) X (by decide +kernel) (by decide)) <|
  mF (sn_lconst (pc := 64) (n := 0) X (by decide +kernel) (by decide)) <|
  mF (sn_lload (pc := 65) X (by decide +kernel)) <|
  mF (sn_maxL (pc := 67) X (by decide) wd_679 wd_660 wd_61 wd_661 (by decide +kernel)) <|
  mF (sn_lret (pc := 70) X hr hk (by decide +kernel)) <|
  mF0
theorem me_X1_tooLong (l : Launch) (B : mBs) : mMet l B yX1_tooLong cX1_tooLong 7 (some .long) 1 0 0 C_X1_tooLong := mMet_of (own := RX1) (by decide) rfl (fun p e s m args below meth c Q X hr hk hn => sd_X1_tooLong l B p e s m args below meth c Q X hr hk hn)
/-! PuppetStage$Figure.depthOf(LPuppetStage$Limbs;)J: 31 instructions, depth 0, makes 0 cells of 0 slots -/
def tb_X1_depthOf : mTb := [(0, aPL 0 1), (1, aSL 2 2), (2, aPI 0 3), (3, aSI 4 5), (5, aLI 4 7), (7, aLA 1 8), (8, aGI 5 4 11), (11, aIc (fun x y => y ≤ x) 48 14), (14, aLL 2 15), (15, aLA 1 16), (16, aGR 5 1 19), (19, aLI 4 21), (21, aIA 22), (22, aI2L 23), (23, aLA 0 24), (24, aGR 1 4 27), (27, aLI 4 29), (29, aIA 30), (30, aLA 0 31), (31, aGR 1 6 34), (34, aLI 4 36), (36, aIA 37), (37, aB (fun x y => x + y) 38), (38, aI2L 39), (39, aBL (fun x y => x * y) 40), (40, aBL (fun x y => x + y) 41), (41, aSL 2 42), (42, aInc 4 1 45), (45, aGo 5), (48, aLL 2 49), (49, aRL)]
theorem mt_X1_depthOf : mMT tb_X1_depthOf :=
  mF (mn_PL _ _) <|
  mF (mn_SL _ _) <|
  mF (mn_PI _ _) <|
  mF (mn_SI _ _) <|
  mF (mn_LI _ _) <|
  mF (mn_LA _ _) <|
  mF (mn_GI _ _ _) <|
  mF (mn_Ic _ _ _) <|
  mF (mn_LL _ _) <|
  mF (mn_LA _ _) <|
  mF (mn_GR _ _ _) <|
  mF (mn_LI _ _) <|
  mF (mn_IA _) <|
  mF (mn_I2L _) <|
  mF (mn_LA _ _) <|
  mF (mn_GR _ _ _) <|
  mF (mn_LI _ _) <|
  mF (mn_IA _) <|
  mF (mn_LA _ _) <|
  mF (mn_GR _ _ _) <|
  mF (mn_LI _ _) <|
  mF (mn_IA _) <|
  mF (mn_B _ _) <|
  mF (mn_I2L _) <|
  mF (mn_BL _ _) <|
  mF (mn_BL _ _) <|
  mF (mn_SL _ _) <|
  mF (mn_Inc _ _ _) <|
  mF (mn_Go _) <|
  mF (mn_LL _ _) <|
  mF (mn_RL) <|
  mF0
def C_X1_depthOf : mCo := mRun tb_X1_depthOf 5
theorem mc_X1_depthOf : mMC C_X1_depthOf := mRun_mn mt_X1_depthOf 5
theorem yi_X1_depthOf : mYin yX1_depthOf cX1_depthOf 5 (some .long) 1 := ⟨wd_57, wd_700, by decide +kernel, by decide⟩
set_option maxRecDepth 100000 in
set_option maxHeartbeats 4000000 in
theorem sd_X1_depthOf (l : Launch) (B : mBs) (p : Program) (e : Env) (s : State) (m : MethodId) (args : Array Value) (below : List Frame) (meth : Method) (c : Code) (Q : mQo) (X : mCx l B RX1 cX1_depthOf 5 p s m args c) (hr : meth.sig.returnType = (some .long)) (hk : meth.locks = false) (hn : meth.name = "depthOf") : ∀ q ∈ tb_X1_depthOf, mSnd l B 5 p e (mRm 0 0 0) s m args below meth c (MQ below (mPo B Q) args s 0 0 (mA B)) (fun r h' => (h'.1.2.1 ≤ 0 ∧ h'.1.2.2 ≤ 0) ∧ Q r h') q.2 q.1 :=
  mF (sn_lconst (pc := 0) (n := 0) X (by decide +kernel) (by decide)) <|
  mF (sn_lstore_n (pc := 1) (j := 2) X (by decide +kernel) rfl (by decide)) <|
  mF (sn_iconst (pc := 2) (n := 0) X (by decide +kernel) (by decide)) <|
  mF (sn_istore (pc := 3) X (by decide +kernel) (by decide)) <|
  mF (sn_iload (pc := 5) X (by decide +kernel)) <|
  mF (sn_aload_n (pc := 7) (j := 1) X (by decide +kernel) rfl) <|
  mF (sn_getI (pc := 8) X fd_X1_91 (by decide +kernel)) <|
  mF (sn_icmp_ge (pc := 11) (off := 37) X (by decide +kernel) (by decide)) <|
  mF (sn_lload_n (pc := 14) (j := 2) X (by decide +kernel) rfl) <|
  mF (sn_aload_n (pc := 15) (j := 1) X (by decide +kernel) rfl) <|
  mF (sn_getR (pc := 16) X fd_X1_150 (by decide +kernel)) <|
  mF (sn_iload (pc := 19) X (by decide +kernel)) <|
  mF (sn_iaload (pc := 21) X (by decide +kernel)) <|
  mF (sn_i2l (pc := 22) X (by decide +kernel)) <|
  mF (sn_aload_n (pc := 23) (j := 0) X (by decide +kernel) rfl) <|
  mF (sn_getR (pc := 24) X fd_X1_24 (by decide +kernel)) <|
  mF (sn_iload (pc := 27) X (by decide +kernel)) <|
  mF (sn_iaload (pc := 29) X (by decide +kernel)) <|
  mF (sn_aload_n (pc := 30) (j := 0) X (by decide +kernel) rfl) <|
  mF (sn_getR (pc := 31) X fd_X1_30 (by decide +kernel)) <|
  mF (sn_iload (pc := 34) X (by decide +kernel)) <|
  mF (sn_iaload (pc := 36) X (by decide +kernel)) <|
  mF (sn_iadd (pc := 37) X (by decide +kernel)) <|
  mF (sn_i2l (pc := 38) X (by decide +kernel)) <|
  mF (sn_lmul (pc := 39) X (by decide +kernel)) <|
  mF (sn_ladd (pc := 40) X (by decide +kernel)) <|
  mF (sn_lstore_n (pc := 41) (j := 2) X (by decide +kernel) rfl (by decide)) <|
  mF (sn_iinc (pc := 42) (n := 1) X (by decide +kernel) (by decide) (by decide)) <|
  mF (sn_goto (pc := 45) (off := (-40)) X (by decide +kernel) (by decide)) <|
  mF (sn_lload_n (pc := 48) (j := 2) X (by decide +kernel) rfl) <|
  mF (sn_lret (pc := 49) X hr hk (by decide +kernel)) <|
  mF0
theorem me_X1_depthOf (l : Launch) (B : mBs) : mMet l B yX1_depthOf cX1_depthOf 5 (some .long) 0 0 0 C_X1_depthOf := mMet_of (own := RX1) (by decide) rfl (fun p e s m args below meth c Q X hr hk hn => sd_X1_depthOf l B p e s m args below meth c Q X hr hk hn)
/-! PuppetStage$Figure.begin(LPuppetStage$Cross;)V: 7 instructions, depth 2, makes 0 cells of 0 slots -/
def tb_X1_begin : mTb := [(0, aLA 0 1), (1, aLA 1 2), (2, aCV 1 1 C_X1_layBars 5), (5, aLA 0 6), (6, aPL 1000000000000000000 9), (9, aWL 1 9 12), (12, aRV)]
theorem mt_X1_begin : mMT tb_X1_begin :=
  mF (mn_LA _ _) <|
  mF (mn_LA _ _) <|
  mF (mn_CV _ _ mc_X1_layBars _) <|
  mF (mn_LA _ _) <|
  mF (mn_PL _ _) <|
  mF (mn_WL _ _ _) <|
  mF (mn_RV) <|
  mF0
def C_X1_begin : mCo := mRun tb_X1_begin 2
theorem mc_X1_begin : mMC C_X1_begin := mRun_mn mt_X1_begin 2
theorem yi_X1_begin : mYin yX1_begin cX1_begin 2 none 1 := ⟨wd_57, wd_724, by decide +kernel, by decide⟩
set_option maxRecDepth 100000 in
set_option maxHeartbeats 4000000 in
theorem sd_X1_begin (l : Launch) (B : mBs) (p : Program) (e : Env) (s : State) (m : MethodId) (args : Array Value) (below : List Frame) (meth : Method) (c : Code) (Q : mQo) (X : mCx l B RX1 cX1_begin 2 p s m args c) (hr : meth.sig.returnType = none) (hk : meth.locks = false) (hn : meth.name = "begin") : ∀ q ∈ tb_X1_begin, mSnd l B 2 p e (mRm 2 0 0) s m args below meth c (MQ below (mPo B Q) args s 0 0 (mA B)) (fun r h' => (h'.1.2.1 ≤ 0 ∧ h'.1.2.2 ≤ 0) ∧ Q r h') q.2 q.1 :=
  mF (sn_aload_n (pc := 0) (j := 0) X (by decide +kernel) rfl) <|
  mF (sn_aload_n (pc := 1) (j := 1) X (by decide +kernel) rfl) <|
  mF (sn_callV (pc := 2) X mc_X1_layBars (me_X1_layBars l B) yi_X1_layBars wd_647 wd_612 wd_613 (T := TX1) (N := 11) rfl (by decide) (by decide +kernel)) <|
  mF (sn_aload_n (pc := 5) (j := 0) X (by decide +kernel) rfl) <|
  mF (sn_ldc2 (pc := 6) X (by decide +kernel) wd_316) <|
  mF (sn_putL (pc := 9) X fd_X1_41 ⟨tyX1_ok, nmX1⟩ rfl rfl (by decide +kernel)) <|
  mF (sn_vret (pc := 12) X hr hk (by decide +kernel)) <|
  mF0
theorem me_X1_begin (l : Launch) (B : mBs) : mMet l B yX1_begin cX1_begin 2 none 2 0 0 C_X1_begin := mMet_of (own := RX1) (by decide) rfl (fun p e s m args below meth c Q X hr hk hn => sd_X1_begin l B p e s m args below meth c Q X hr hk hn)
/-! PuppetStage$Figure.isBetter(LPuppetStage$Puppet;)Z: 60 instructions, depth 3, makes 0 cells of 0 slots -/
def tb_X1_isBetter : mTb := [(0, aLA 0 1), (1, aLA 1 2), (2, aGR 7 0 5), (5, aCV 1 1 C_X1_layLimbs 8), (8, aPL 0 9), (9, aSL 2 10), (10, aPI 0 11), (11, aSI 4 13), (13, aLI 4 15), (15, aLA 1 16), (16, aGR 7 3 19), (19, aGI 4 6 22), (22, aIc (fun x y => y ≤ x) 65 25), (25, aLL 2 26), (26, aLA 0 27), (27, aLA 1 28), (28, aGR 7 3 31), (31, aLI 4 33), (33, aLA 0 34), (34, aLA 1 35), (35, aGR 7 3 38), (38, aLI 4 40), (40, aCV 1 2 C_X1_far 43), (43, aCV 1 3 C_X1_tooLong 46), (46, aBL (fun x y => x + y) 47), (47, aSL 2 48), (48, aLL 2 49), (49, aLA 0 50), (50, aGL 1 9 53), (53, aCmp 54), (54, aIf (fun x => x ≤ 0) 59 57), (57, aPI 0 58), (58, aRZ), (59, aInc 4 1 62), (62, aGo 13), (65, aLA 0 66), (66, aLA 1 67), (67, aGR 7 0 70), (70, aCV 1 1 C_X1_depthOf 73), (73, aSL 4 75), (75, aLL 2 76), (76, aLA 0 77), (77, aGL 1 9 80), (80, aCmp 81), (81, aIf (fun x => x = 0) 84 96), (84, aLL 4 86), (86, aLA 0 87), (87, aGL 1 10 90), (90, aCmp 91), (91, aIf (fun x => x < 0) 96 94), (94, aPI 0 95), (95, aRZ), (96, aLA 0 97), (97, aLL 2 98), (98, aWL 1 9 101), (101, aLA 0 102), (102, aLL 4 104), (104, aWL 1 10 107), (107, aPI 1 108), (108, aRZ)]
theorem mt_X1_isBetter : mMT tb_X1_isBetter :=
  mF (mn_LA _ _) <|
  mF (mn_LA _ _) <|
  mF (mn_GR _ _ _) <|
  mF (mn_CV _ _ mc_X1_layLimbs _) <|
  mF (mn_PL _ _) <|
  mF (mn_SL _ _) <|
  mF (mn_PI _ _) <|
  mF (mn_SI _ _) <|
  mF (mn_LI _ _) <|
  mF (mn_LA _ _) <|
  mF (mn_GR _ _ _) <|
  mF (mn_GI _ _ _) <|
  mF (mn_Ic _ _ _) <|
  mF (mn_LL _ _) <|
  mF (mn_LA _ _) <|
  mF (mn_LA _ _) <|
  mF (mn_GR _ _ _) <|
  mF (mn_LI _ _) <|
  mF (mn_LA _ _) <|
  mF (mn_LA _ _) <|
  mF (mn_GR _ _ _) <|
  mF (mn_LI _ _) <|
  mF (mn_CV _ _ mc_X1_far _) <|
  mF (mn_CV _ _ mc_X1_tooLong _) <|
  mF (mn_BL _ _) <|
  mF (mn_SL _ _) <|
  mF (mn_LL _ _) <|
  mF (mn_LA _ _) <|
  mF (mn_GL _ _ _) <|
  mF (mn_Cmp _) <|
  mF (mn_If _ _ _) <|
  mF (mn_PI _ _) <|
  mF (mn_RZ) <|
  mF (mn_Inc _ _ _) <|
  mF (mn_Go _) <|
  mF (mn_LA _ _) <|
  mF (mn_LA _ _) <|
  mF (mn_GR _ _ _) <|
  mF (mn_CV _ _ mc_X1_depthOf _) <|
  mF (mn_SL _ _) <|
  mF (mn_LL _ _) <|
  mF (mn_LA _ _) <|
  mF (mn_GL _ _ _) <|
  mF (mn_Cmp _) <|
  mF (mn_If _ _ _) <|
  mF (mn_LL _ _) <|
  mF (mn_LA _ _) <|
  mF (mn_GL _ _ _) <|
  mF (mn_Cmp _) <|
  mF (mn_If _ _ _) <|
  mF (mn_PI _ _) <|
  mF (mn_RZ) <|
  mF (mn_LA _ _) <|
  mF (mn_LL _ _) <|
  mF (mn_WL _ _ _) <|
  mF (mn_LA _ _) <|
  mF (mn_LL _ _) <|
  mF (mn_WL _ _ _) <|
  mF (mn_PI _ _) <|
  mF (mn_RZ) <|
  mF0
def C_X1_isBetter : mCo := mRun tb_X1_isBetter 6
theorem mc_X1_isBetter : mMC C_X1_isBetter := mRun_mn mt_X1_isBetter 6
theorem yi_X1_isBetter : mYin yX1_isBetter cX1_isBetter 6 (some .boolean) 1 := ⟨wd_57, wd_728, by decide +kernel, by decide⟩
set_option maxRecDepth 100000 in
set_option maxHeartbeats 4000000 in
theorem sd_X1_isBetter (l : Launch) (B : mBs) (p : Program) (e : Env) (s : State) (m : MethodId) (args : Array Value) (below : List Frame) (meth : Method) (c : Code) (Q : mQo) (X : mCx l B RX1 cX1_isBetter 6 p s m args c) (hr : meth.sig.returnType = (some .boolean)) (hk : meth.locks = false) (hn : meth.name = "isBetter") : ∀ q ∈ tb_X1_isBetter, mSnd l B 6 p e (mRm 3 0 0) s m args below meth c (MQ below (mPo B Q) args s 0 0 (mA B)) (fun r h' => (h'.1.2.1 ≤ 0 ∧ h'.1.2.2 ≤ 0) ∧ Q r h') q.2 q.1 :=
  mF (sn_aload_n (pc := 0) (j := 0) X (by decide +kernel) rfl) <|
  mF (sn_aload_n (pc := 1) (j := 1) X (by decide +kernel) rfl) <|
  mF (sn_getR (pc := 2) X fd_X1_58 (by decide +kernel)) <|
  mF (sn_callV (pc := 5) X mc_X1_layLimbs (me_X1_layLimbs l B) yi_X1_layLimbs wd_648 wd_580 wd_581 (T := TX1) (N := 11) rfl (by decide) (by decide +kernel)) <|
  mF (sn_lconst (pc := 8) (n := 0) X (by decide +kernel) (by decide)) <|
  mF (sn_lstore_n (pc := 9) (j := 2) X (by decide +kernel) rfl (by decide)) <|
  mF (sn_iconst (pc := 10) (n := 0) X (by decide +kernel) (by decide)) <|
  mF (sn_istore (pc := 11) X (by decide +kernel) (by decide)) <|
  mF (sn_iload (pc := 13) X (by decide +kernel)) <|
  mF (sn_aload_n (pc := 15) (j := 1) X (by decide +kernel) rfl) <|
  mF (sn_getR (pc := 16) X fd_X1_153 (by decide +kernel)) <|
  mF (sn_getI (pc := 19) X fd_X1_157 (by decide +kernel)) <|
  mF (sn_icmp_ge (pc := 22) (off := 43) X (by decide +kernel) (by decide)) <|
  mF (sn_lload_n (pc := 25) (j := 2) X (by decide +kernel) rfl) <|
  mF (sn_aload_n (pc := 26) (j := 0) X (by decide +kernel) rfl) <|
  mF (sn_aload_n (pc := 27) (j := 1) X (by decide +kernel) rfl) <|
  mF (sn_getR (pc := 28) X fd_X1_153 (by decide +kernel)) <|
  mF (sn_iload (pc := 31) X (by decide +kernel)) <|
  mF (sn_aload_n (pc := 33) (j := 0) X (by decide +kernel) rfl) <|
  mF (sn_aload_n (pc := 34) (j := 1) X (by decide +kernel) rfl) <|
  mF (sn_getR (pc := 35) X fd_X1_153 (by decide +kernel)) <|
  mF (sn_iload (pc := 38) X (by decide +kernel)) <|
  mF (sn_callV (pc := 40) X mc_X1_far (me_X1_far l B) yi_X1_far wd_729 wd_650 wd_651 (T := TX1) (N := 11) rfl (by decide) (by decide +kernel)) <|
  mF (sn_callV (pc := 43) X mc_X1_tooLong (me_X1_tooLong l B) yi_X1_tooLong wd_730 wd_670 wd_671 (T := TX1) (N := 11) rfl (by decide) (by decide +kernel)) <|
  mF (sn_ladd (pc := 46) X (by decide +kernel)) <|
  mF (sn_lstore_n (pc := 47) (j := 2) X (by decide +kernel) rfl (by decide)) <|
  mF (sn_lload_n (pc := 48) (j := 2) X (by decide +kernel) rfl) <|
  mF (sn_aload_n (pc := 49) (j := 0) X (by decide +kernel) rfl) <|
  mF (sn_getL (pc := 50) X fd_X1_41 (by decide +kernel)) <|
  mF (sn_lcmp (pc := 53) X (by decide +kernel)) <|
  mF (sn_if_le (pc := 54) (off := 5) X (by decide +kernel) (by decide)) <|
  mF (sn_iconst (pc := 57) (n := 0) X (by decide +kernel) (by decide)) <|
  mF (sn_zret (pc := 58) X hr hk (by decide +kernel)) <|
  mF (sn_iinc (pc := 59) (n := 1) X (by decide +kernel) (by decide) (by decide)) <|
  mF (sn_goto (pc := 62) (off := (-49)) X (by decide +kernel) (by decide)) <|
  mF (sn_aload_n (pc := 65) (j := 0) X (by decide +kernel) rfl) <|
  mF (sn_aload_n (pc := 66) (j := 1) X (by decide +kernel) rfl) <|
  mF (sn_getR (pc := 67) X fd_X1_58 (by decide +kernel)) <|
  mF (sn_callV (pc := 70) X mc_X1_depthOf (me_X1_depthOf l B) yi_X1_depthOf wd_731 wd_698 wd_699 (T := TX1) (N := 11) rfl (by decide) (by decide +kernel)) <|
  mF (sn_lstore (pc := 73) X (by decide +kernel) (by decide)) <|
  mF (sn_lload_n (pc := 75) (j := 2) X (by decide +kernel) rfl) <|
  mF (sn_aload_n (pc := 76) (j := 0) X (by decide +kernel) rfl) <|
  mF (sn_getL (pc := 77) X fd_X1_41 (by decide +kernel)) <|
  mF (sn_lcmp (pc := 80) X (by decide +kernel)) <|
  mF (sn_if_ne (pc := 81) (off := 15) X (by decide +kernel) (by decide)) <|
  mF (sn_lload (pc := 84) X (by decide +kernel)) <|
  mF (sn_aload_n (pc := 86) (j := 0) X (by decide +kernel) rfl) <|
  mF (sn_getL (pc := 87) X fd_X1_45 (by decide +kernel)) <|
  mF (sn_lcmp (pc := 90) X (by decide +kernel)) <|
  mF (sn_if_lt (pc := 91) (off := 5) X (by decide +kernel) (by decide)) <|
  mF (sn_iconst (pc := 94) (n := 0) X (by decide +kernel) (by decide)) <|
  mF (sn_zret (pc := 95) X hr hk (by decide +kernel)) <|
  mF (sn_aload_n (pc := 96) (j := 0) X (by decide +kernel) rfl) <|
  mF (sn_lload_n (pc := 97) (j := 2) X (by decide +kernel) rfl) <|
  mF (sn_putL (pc := 98) X fd_X1_41 ⟨tyX1_ok, nmX1⟩ rfl rfl (by decide +kernel)) <|
  mF (sn_aload_n (pc := 101) (j := 0) X (by decide +kernel) rfl) <|
  mF (sn_lload (pc := 102) X (by decide +kernel)) <|
  mF (sn_putL (pc := 104) X fd_X1_45 ⟨tyX1_ok, nmX1⟩ rfl rfl (by decide +kernel)) <|
  mF (sn_iconst (pc := 107) (n := 1) X (by decide +kernel) (by decide)) <|
  mF (sn_zret (pc := 108) X hr hk (by decide +kernel)) <|
  mF0
theorem me_X1_isBetter (l : Launch) (B : mBs) : mMet l B yX1_isBetter cX1_isBetter 6 (some .boolean) 3 0 0 C_X1_isBetter := mMet_of (own := RX1) (by decide) rfl (fun p e s m args below meth c Q X hr hk hn => sd_X1_isBetter l B p e s m args below meth c Q X hr hk hn)
/-! PuppetStage$Line.put(JJJJ)V: 13 instructions, depth 0, makes 0 cells of 0 slots -/
def tb_X6_put : mTb := [(0, aLA 0 1), (1, aLL 1 2), (2, aWL 6 0 5), (5, aLA 0 6), (6, aLL 3 7), (7, aWL 6 1 10), (10, aLA 0 11), (11, aLL 5 13), (13, aWL 6 2 16), (16, aLA 0 17), (17, aLL 7 19), (19, aWL 6 3 22), (22, aRV)]
theorem mt_X6_put : mMT tb_X6_put :=
  mF (mn_LA _ _) <|
  mF (mn_LL _ _) <|
  mF (mn_WL _ _ _) <|
  mF (mn_LA _ _) <|
  mF (mn_LL _ _) <|
  mF (mn_WL _ _ _) <|
  mF (mn_LA _ _) <|
  mF (mn_LL _ _) <|
  mF (mn_WL _ _ _) <|
  mF (mn_LA _ _) <|
  mF (mn_LL _ _) <|
  mF (mn_WL _ _ _) <|
  mF (mn_RV) <|
  mF0
def C_X6_put : mCo := mRun tb_X6_put 9
theorem mc_X6_put : mMC C_X6_put := mRun_mn mt_X6_put 9
theorem yi_X6_put : mYin yX6_put cX6_put 9 none 4 := ⟨wd_59, wd_821, by decide +kernel, by decide⟩
set_option maxRecDepth 100000 in
set_option maxHeartbeats 4000000 in
theorem sd_X6_put (l : Launch) (B : mBs) (p : Program) (e : Env) (s : State) (m : MethodId) (args : Array Value) (below : List Frame) (meth : Method) (c : Code) (Q : mQo) (X : mCx l B RX6 cX6_put 9 p s m args c) (hr : meth.sig.returnType = none) (hk : meth.locks = false) (hn : meth.name = "put") : ∀ q ∈ tb_X6_put, mSnd l B 9 p e (mRm 0 0 0) s m args below meth c (MQ below (mPo B Q) args s 0 0 (mA B)) (fun r h' => (h'.1.2.1 ≤ 0 ∧ h'.1.2.2 ≤ 0) ∧ Q r h') q.2 q.1 :=
  mF (sn_aload_n (pc := 0) (j := 0) X (by decide +kernel) rfl) <|
  mF (sn_lload_n (pc := 1) (j := 1) X (by decide +kernel) rfl) <|
  mF (sn_putL (pc := 2) X fd_X6_7 ⟨tyX6_ok, nmX6⟩ rfl rfl (by decide +kernel)) <|
  mF (sn_aload_n (pc := 5) (j := 0) X (by decide +kernel) rfl) <|
  mF (sn_lload_n (pc := 6) (j := 3) X (by decide +kernel) rfl) <|
  mF (sn_putL (pc := 7) X fd_X6_13 ⟨tyX6_ok, nmX6⟩ rfl rfl (by decide +kernel)) <|
  mF (sn_aload_n (pc := 10) (j := 0) X (by decide +kernel) rfl) <|
  mF (sn_lload (pc := 11) X (by decide +kernel)) <|
  mF (sn_putL (pc := 13) X fd_X6_16 ⟨tyX6_ok, nmX6⟩ rfl rfl (by decide +kernel)) <|
  mF (sn_aload_n (pc := 16) (j := 0) X (by decide +kernel) rfl) <|
  mF (sn_lload (pc := 17) X (by decide +kernel)) <|
  mF (sn_putL (pc := 19) X fd_X6_19 ⟨tyX6_ok, nmX6⟩ rfl rfl (by decide +kernel)) <|
  mF (sn_vret (pc := 22) X hr hk (by decide +kernel)) <|
  mF0
theorem me_X6_put (l : Launch) (B : mBs) : mMet l B yX6_put cX6_put 9 none 0 0 0 C_X6_put := mMet_of (own := RX6) (by decide) rfl (fun p e s m args below meth c Q X hr hk hn => sd_X6_put l B p e s m args below meth c Q X hr hk hn)
/-! PuppetStage$Figure.drawLimb(ILPuppetStage$Line;)V: 23 instructions, depth 1, makes 0 cells of 0 slots -/
def tb_X1_drawLimb : mTb := [(0, aLA 2 1), (1, aLA 0 2), (2, aGR 1 3 5), (5, aLI 1 6), (6, aIA 7), (7, aI2L 8), (8, aLA 0 9), (9, aGR 1 4 12), (12, aLI 1 13), (13, aIA 14), (14, aI2L 15), (15, aLA 0 16), (16, aGR 1 5 19), (19, aLI 1 20), (20, aIA 21), (21, aI2L 22), (22, aLA 0 23), (23, aGR 1 6 26), (26, aLI 1 27), (27, aIA 28), (28, aI2L 29), (29, aCV 6 4 C_X6_put 32), (32, aRV)]
theorem mt_X1_drawLimb : mMT tb_X1_drawLimb :=
  mF (mn_LA _ _) <|
  mF (mn_LA _ _) <|
  mF (mn_GR _ _ _) <|
  mF (mn_LI _ _) <|
  mF (mn_IA _) <|
  mF (mn_I2L _) <|
  mF (mn_LA _ _) <|
  mF (mn_GR _ _ _) <|
  mF (mn_LI _ _) <|
  mF (mn_IA _) <|
  mF (mn_I2L _) <|
  mF (mn_LA _ _) <|
  mF (mn_GR _ _ _) <|
  mF (mn_LI _ _) <|
  mF (mn_IA _) <|
  mF (mn_I2L _) <|
  mF (mn_LA _ _) <|
  mF (mn_GR _ _ _) <|
  mF (mn_LI _ _) <|
  mF (mn_IA _) <|
  mF (mn_I2L _) <|
  mF (mn_CV _ _ mc_X6_put _) <|
  mF (mn_RV) <|
  mF0
def C_X1_drawLimb : mCo := mRun tb_X1_drawLimb 3
theorem mc_X1_drawLimb : mMC C_X1_drawLimb := mRun_mn mt_X1_drawLimb 3
theorem yi_X1_drawLimb : mYin yX1_drawLimb cX1_drawLimb 3 none 2 := ⟨wd_57, wd_844, by decide +kernel, by decide⟩
set_option maxRecDepth 100000 in
set_option maxHeartbeats 4000000 in
theorem sd_X1_drawLimb (l : Launch) (B : mBs) (p : Program) (e : Env) (s : State) (m : MethodId) (args : Array Value) (below : List Frame) (meth : Method) (c : Code) (Q : mQo) (X : mCx l B RX1 cX1_drawLimb 3 p s m args c) (hr : meth.sig.returnType = none) (hk : meth.locks = false) (hn : meth.name = "drawLimb") : ∀ q ∈ tb_X1_drawLimb, mSnd l B 3 p e (mRm 1 0 0) s m args below meth c (MQ below (mPo B Q) args s 0 0 (mA B)) (fun r h' => (h'.1.2.1 ≤ 0 ∧ h'.1.2.2 ≤ 0) ∧ Q r h') q.2 q.1 :=
  mF (sn_aload_n (pc := 0) (j := 2) X (by decide +kernel) rfl) <|
  mF (sn_aload_n (pc := 1) (j := 0) X (by decide +kernel) rfl) <|
  mF (sn_getR (pc := 2) X fd_X1_21 (by decide +kernel)) <|
  mF (sn_iload_n (pc := 5) (j := 1) X (by decide +kernel) rfl) <|
  mF (sn_iaload (pc := 6) X (by decide +kernel)) <|
  mF (sn_i2l (pc := 7) X (by decide +kernel)) <|
  mF (sn_aload_n (pc := 8) (j := 0) X (by decide +kernel) rfl) <|
  mF (sn_getR (pc := 9) X fd_X1_24 (by decide +kernel)) <|
  mF (sn_iload_n (pc := 12) (j := 1) X (by decide +kernel) rfl) <|
  mF (sn_iaload (pc := 13) X (by decide +kernel)) <|
  mF (sn_i2l (pc := 14) X (by decide +kernel)) <|
  mF (sn_aload_n (pc := 15) (j := 0) X (by decide +kernel) rfl) <|
  mF (sn_getR (pc := 16) X fd_X1_27 (by decide +kernel)) <|
  mF (sn_iload_n (pc := 19) (j := 1) X (by decide +kernel) rfl) <|
  mF (sn_iaload (pc := 20) X (by decide +kernel)) <|
  mF (sn_i2l (pc := 21) X (by decide +kernel)) <|
  mF (sn_aload_n (pc := 22) (j := 0) X (by decide +kernel) rfl) <|
  mF (sn_getR (pc := 23) X fd_X1_30 (by decide +kernel)) <|
  mF (sn_iload_n (pc := 26) (j := 1) X (by decide +kernel) rfl) <|
  mF (sn_iaload (pc := 27) X (by decide +kernel)) <|
  mF (sn_i2l (pc := 28) X (by decide +kernel)) <|
  mF (sn_callV (pc := 29) X mc_X6_put (me_X6_put l B) yi_X6_put wd_818 wd_819 wd_820 (T := TX6) (N := 4) rfl (by decide) (by decide +kernel)) <|
  mF (sn_vret (pc := 32) X hr hk (by decide +kernel)) <|
  mF0
theorem me_X1_drawLimb (l : Launch) (B : mBs) : mMet l B yX1_drawLimb cX1_drawLimb 3 none 1 0 0 C_X1_drawLimb := mMet_of (own := RX1) (by decide) rfl (fun p e s m args below meth c Q X hr hk hn => sd_X1_drawLimb l B p e s m args below meth c Q X hr hk hn)
/-! PuppetStage$Figure.drawString(LPuppetStage$Holds;ILPuppetStage$Line;)V: 38 instructions, depth 1, makes 0 cells of 0 slots -/
def tb_X1_drawString : mTb := [(0, aLA 1 1), (1, aGR 4 1 4), (4, aLI 2 5), (5, aIA 6), (6, aSI 4 8), (8, aLA 1 9), (9, aGR 4 2 12), (12, aLI 2 13), (13, aIA 14), (14, aSI 5 16), (16, aLA 1 17), (17, aGR 4 3 20), (20, aLI 2 21), (21, aIA 22), (22, aSI 6 24), (24, aLA 3 25), (25, aLA 0 26), (26, aGR 1 7 29), (29, aLI 4 31), (31, aIA 32), (32, aI2L 33), (33, aLA 0 34), (34, aGR 1 8 37), (37, aLI 4 39), (39, aIA 40), (40, aI2L 41), (41, aLA 0 42), (42, aLI 5 44), (44, aLI 6 46), (46, aCV 1 2 C_X1_spotX 49), (49, aI2L 50), (50, aLA 0 51), (51, aLI 5 53), (53, aLI 6 55), (55, aCV 1 2 C_X1_spotY 58), (58, aI2L 59), (59, aCV 6 4 C_X6_put 62), (62, aRV)]
theorem mt_X1_drawString : mMT tb_X1_drawString :=
  mF (mn_LA _ _) <|
  mF (mn_GR _ _ _) <|
  mF (mn_LI _ _) <|
  mF (mn_IA _) <|
  mF (mn_SI _ _) <|
  mF (mn_LA _ _) <|
  mF (mn_GR _ _ _) <|
  mF (mn_LI _ _) <|
  mF (mn_IA _) <|
  mF (mn_SI _ _) <|
  mF (mn_LA _ _) <|
  mF (mn_GR _ _ _) <|
  mF (mn_LI _ _) <|
  mF (mn_IA _) <|
  mF (mn_SI _ _) <|
  mF (mn_LA _ _) <|
  mF (mn_LA _ _) <|
  mF (mn_GR _ _ _) <|
  mF (mn_LI _ _) <|
  mF (mn_IA _) <|
  mF (mn_I2L _) <|
  mF (mn_LA _ _) <|
  mF (mn_GR _ _ _) <|
  mF (mn_LI _ _) <|
  mF (mn_IA _) <|
  mF (mn_I2L _) <|
  mF (mn_LA _ _) <|
  mF (mn_LI _ _) <|
  mF (mn_LI _ _) <|
  mF (mn_CV _ _ mc_X1_spotX _) <|
  mF (mn_I2L _) <|
  mF (mn_LA _ _) <|
  mF (mn_LI _ _) <|
  mF (mn_LI _ _) <|
  mF (mn_CV _ _ mc_X1_spotY _) <|
  mF (mn_I2L _) <|
  mF (mn_CV _ _ mc_X6_put _) <|
  mF (mn_RV) <|
  mF0
def C_X1_drawString : mCo := mRun tb_X1_drawString 7
theorem mc_X1_drawString : mMC C_X1_drawString := mRun_mn mt_X1_drawString 7
theorem yi_X1_drawString : mYin yX1_drawString cX1_drawString 7 none 3 := ⟨wd_57, wd_817, by decide +kernel, by decide⟩
set_option maxRecDepth 100000 in
set_option maxHeartbeats 4000000 in
theorem sd_X1_drawString (l : Launch) (B : mBs) (p : Program) (e : Env) (s : State) (m : MethodId) (args : Array Value) (below : List Frame) (meth : Method) (c : Code) (Q : mQo) (X : mCx l B RX1 cX1_drawString 7 p s m args c) (hr : meth.sig.returnType = none) (hk : meth.locks = false) (hn : meth.name = "drawString") : ∀ q ∈ tb_X1_drawString, mSnd l B 7 p e (mRm 1 0 0) s m args below meth c (MQ below (mPo B Q) args s 0 0 (mA B)) (fun r h' => (h'.1.2.1 ≤ 0 ∧ h'.1.2.2 ≤ 0) ∧ Q r h') q.2 q.1 :=
  mF (sn_aload_n (pc := 0) (j := 1) X (by decide +kernel) rfl) <|
  mF (sn_getR (pc := 1) X fd_X1_123 (by decide +kernel)) <|
  mF (sn_iload_n (pc := 4) (j := 2) X (by decide +kernel) rfl) <|
  mF (sn_iaload (pc := 5) X (by decide +kernel)) <|
  mF (sn_istore (pc := 6) X (by decide +kernel) (by decide)) <|
  mF (sn_aload_n (pc := 8) (j := 1) X (by decide +kernel) rfl) <|
  mF (sn_getR (pc := 9) X fd_X1_126 (by decide +kernel)) <|
  mF (sn_iload_n (pc := 12) (j := 2) X (by decide +kernel) rfl) <|
  mF (sn_iaload (pc := 13) X (by decide +kernel)) <|
  mF (sn_istore (pc := 14) X (by decide +kernel) (by decide)) <|
  mF (sn_aload_n (pc := 16) (j := 1) X (by decide +kernel) rfl) <|
  mF (sn_getR (pc := 17) X fd_X1_129 (by decide +kernel)) <|
  mF (sn_iload_n (pc := 20) (j := 2) X (by decide +kernel) rfl) <|
  mF (sn_iaload (pc := 21) X (by decide +kernel)) <|
  mF (sn_istore (pc := 22) X (by decide +kernel) (by decide)) <|
  mF (sn_aload_n (pc := 24) (j := 3) X (by decide +kernel) rfl) <|
  mF (sn_aload_n (pc := 25) (j := 0) X (by decide +kernel) rfl) <|
  mF (sn_getR (pc := 26) X fd_X1_33 (by decide +kernel)) <|
  mF (sn_iload (pc := 29) X (by decide +kernel)) <|
  mF (sn_iaload (pc := 31) X (by decide +kernel)) <|
  mF (sn_i2l (pc := 32) X (by decide +kernel)) <|
  mF (sn_aload_n (pc := 33) (j := 0) X (by decide +kernel) rfl) <|
  mF (sn_getR (pc := 34) X fd_X1_36 (by decide +kernel)) <|
  mF (sn_iload (pc := 37) X (by decide +kernel)) <|
  mF (sn_iaload (pc := 39) X (by decide +kernel)) <|
  mF (sn_i2l (pc := 40) X (by decide +kernel)) <|
  mF (sn_aload_n (pc := 41) (j := 0) X (by decide +kernel) rfl) <|
  mF (sn_iload (pc := 42) X (by decide +kernel)) <|
  mF (sn_iload (pc := 44) X (by decide +kernel)) <|
  mF (sn_callV (pc := 46) X mc_X1_spotX (me_X1_spotX l B) yi_X1_spotX wd_591 wd_592 wd_593 (T := TX1) (N := 11) rfl (by decide) (by decide +kernel)) <|
  mF (sn_i2l (pc := 49) X (by decide +kernel)) <|
  mF (sn_aload_n (pc := 50) (j := 0) X (by decide +kernel) rfl) <|
  mF (sn_iload (pc := 51) X (by decide +kernel)) <|
  mF (sn_iload (pc := 53) X (by decide +kernel)) <|
  mF (sn_callV (pc := 55) X mc_X1_spotY (me_X1_spotY l B) yi_X1_spotY wd_595 wd_596 wd_597 (T := TX1) (N := 11) rfl (by decide) (by decide +kernel)) <|
  mF (sn_i2l (pc := 58) X (by decide +kernel)) <|
  mF (sn_callV (pc := 59) X mc_X6_put (me_X6_put l B) yi_X6_put wd_818 wd_819 wd_820 (T := TX6) (N := 4) rfl (by decide) (by decide +kernel)) <|
  mF (sn_vret (pc := 62) X hr hk (by decide +kernel)) <|
  mF0
theorem me_X1_drawString (l : Launch) (B : mBs) : mMet l B yX1_drawString cX1_drawString 7 none 1 0 0 C_X1_drawString := mMet_of (own := RX1) (by decide) rfl (fun p e s m args below meth c Q X hr hk hn => sd_X1_drawString l B p e s m args below meth c Q X hr hk hn)
/-! PuppetStage$Gesture.<init>()V: 25 instructions, depth 1, makes 4 cells of 108 slots -/
def tb_X2_init : mTb := [(0, aLA 0 1), (1, aObj 4), (4, aLA 0 5), (5, aPI 12 7), (7, aNI 0 4 108 9), (9, aWR 2 0 12), (12, aLA 0 13), (13, aPI 12 15), (15, aNI 0 4 108 17), (17, aWR 2 1 20), (20, aLA 0 21), (21, aPI 12 23), (23, aNI 0 4 108 25), (25, aWR 2 2 28), (28, aLA 0 29), (29, aPI 72 31), (31, aNI 0 4 108 33), (33, aWR 2 3 36), (36, aLA 0 37), (37, aPI 0 38), (38, aWI 2 4 41), (41, aLA 0 42), (42, aPI 0 43), (43, aWI 2 5 46), (46, aRV)]
theorem mt_X2_init : mMT tb_X2_init :=
  mF (mn_LA _ _) <|
  mF (mn_Obj _) <|
  mF (mn_LA _ _) <|
  mF (mn_PI _ _) <|
  mF (mn_NI _ _ _ _) <|
  mF (mn_WR _ _ _) <|
  mF (mn_LA _ _) <|
  mF (mn_PI _ _) <|
  mF (mn_NI _ _ _ _) <|
  mF (mn_WR _ _ _) <|
  mF (mn_LA _ _) <|
  mF (mn_PI _ _) <|
  mF (mn_NI _ _ _ _) <|
  mF (mn_WR _ _ _) <|
  mF (mn_LA _ _) <|
  mF (mn_PI _ _) <|
  mF (mn_NI _ _ _ _) <|
  mF (mn_WR _ _ _) <|
  mF (mn_LA _ _) <|
  mF (mn_PI _ _) <|
  mF (mn_WI _ _ _) <|
  mF (mn_LA _ _) <|
  mF (mn_PI _ _) <|
  mF (mn_WI _ _ _) <|
  mF (mn_RV) <|
  mF0
def C_X2_init : mCo := mRun tb_X2_init 1
theorem mc_X2_init : mMC C_X2_init := mRun_mn mt_X2_init 1
theorem yi_X2_init : mYin yX2_init cX2_init 1 none 0 := ⟨wd_55, wd_225, by decide +kernel, by decide⟩
set_option maxRecDepth 100000 in
set_option maxHeartbeats 4000000 in
theorem sd_X2_init (l : Launch) (B : mBs) (p : Program) (e : Env) (s : State) (m : MethodId) (args : Array Value) (below : List Frame) (meth : Method) (c : Code) (Q : mQo) (X : mCx l B RX2 cX2_init 1 p s m args c) (hr : meth.sig.returnType = none) (hk : meth.locks = false) (hn : meth.name = "<init>") : ∀ q ∈ tb_X2_init, mSnd l B 1 p e (mRm 1 4 108) s m args below meth c (MQ below (mPo B Q) args s 4 108 (mA B)) (fun r h' => (h'.1.2.1 ≤ 4 ∧ h'.1.2.2 ≤ 108) ∧ Q r h') q.2 q.1 :=
  mF (sn_aload_n (pc := 0) (j := 0) X (by decide +kernel) rfl) <|
  mF (sn_obj (pc := 1) X (by decide) wd_226 wd_70 wd_71 (by decide +kernel)) <|
  mF (sn_aload_n (pc := 4) (j := 0) X (by decide +kernel) rfl) <|
  mF (sn_bipush (pc := 5) (n := 12) X (by decide +kernel) (by decide)) <|
  mF (sn_newI (pc := 7) X wd_126 (by decide +kernel)) <|
  mF (sn_putR (D' := "") (pc := 9) X hn fd_X2_9 ⟨tyX2_ok, nmX2⟩ rfl rfl rfl (fun _ => ⟨rfl, rfl⟩) (by decide +kernel)) <|
  mF (sn_aload_n (pc := 12) (j := 0) X (by decide +kernel) rfl) <|
  mF (sn_bipush (pc := 13) (n := 12) X (by decide +kernel) (by decide)) <|
  mF (sn_newI (pc := 15) X wd_126 (by decide +kernel)) <|
  mF (sn_putR (D' := "") (pc := 17) X hn fd_X2_15 ⟨tyX2_ok, nmX2⟩ rfl rfl rfl (fun _ => ⟨rfl, rfl⟩) (by decide +kernel)) <|
  mF (sn_aload_n (pc := 20) (j := 0) X (by decide +kernel) rfl) <|
  mF (sn_bipush (pc := 21) (n := 12) X (by decide +kernel) (by decide)) <|
  mF (sn_newI (pc := 23) X wd_126 (by decide +kernel)) <|
  mF (sn_putR (D' := "") (pc := 25) X hn fd_X2_18 ⟨tyX2_ok, nmX2⟩ rfl rfl rfl (fun _ => ⟨rfl, rfl⟩) (by decide +kernel)) <|
  mF (sn_aload_n (pc := 28) (j := 0) X (by decide +kernel) rfl) <|
  mF (sn_bipush (pc := 29) (n := 72) X (by decide +kernel) (by decide)) <|
  mF (sn_newI (pc := 31) X wd_126 (by decide +kernel)) <|
  mF (sn_putR (D' := "") (pc := 33) X hn fd_X2_21 ⟨tyX2_ok, nmX2⟩ rfl rfl rfl (fun _ => ⟨rfl, rfl⟩) (by decide +kernel)) <|
  mF (sn_aload_n (pc := 36) (j := 0) X (by decide +kernel) rfl) <|
  mF (sn_iconst (pc := 37) (n := 0) X (by decide +kernel) (by decide)) <|
  mF (sn_putI (pc := 38) X fd_X2_24 ⟨tyX2_ok, nmX2⟩ rfl rfl (by decide +kernel)) <|
  mF (sn_aload_n (pc := 41) (j := 0) X (by decide +kernel) rfl) <|
  mF (sn_iconst (pc := 42) (n := 0) X (by decide +kernel) (by decide)) <|
  mF (sn_putI (pc := 43) X fd_X2_28 ⟨tyX2_ok, nmX2⟩ rfl rfl (by decide +kernel)) <|
  mF (sn_vret (pc := 46) X hr hk (by decide +kernel)) <|
  mF0
theorem me_X2_init (l : Launch) (B : mBs) : mMet l B yX2_init cX2_init 1 none 1 4 108 C_X2_init := mMet_of (own := RX2) (by decide) rfl (fun p e s m args below meth c Q X hr hk hn => sd_X2_init l B p e s m args below meth c Q X hr hk hn)
/-! PuppetStage$Gesture.add(III)I: 27 instructions, depth 0, makes 0 cells of 0 slots -/
def tb_X2_add : mTb := [(0, aLA 0 1), (1, aGR 2 0 4), (4, aLA 0 5), (5, aGI 2 4 8), (8, aLI 1 9), (9, aIS 10), (10, aLA 0 11), (11, aGR 2 1 14), (14, aLA 0 15), (15, aGI 2 4 18), (18, aLI 2 19), (19, aIS 20), (20, aLA 0 21), (21, aGR 2 2 24), (24, aLA 0 25), (25, aGI 2 4 28), (28, aLI 3 29), (29, aIS 30), (30, aLA 0 31), (31, aDup 32), (32, aGI 2 4 35), (35, aPI 1 36), (36, aB (fun x y => x + y) 37), (37, aWI 2 4 40), (40, aLA 0 41), (41, aGI 2 4 44), (44, aRI)]
theorem mt_X2_add : mMT tb_X2_add :=
  mF (mn_LA _ _) <|
  mF (mn_GR _ _ _) <|
  mF (mn_LA _ _) <|
  mF (mn_GI _ _ _) <|
  mF (mn_LI _ _) <|
  mF (mn_IS _) <|
  mF (mn_LA _ _) <|
  mF (mn_GR _ _ _) <|
  mF (mn_LA _ _) <|
  mF (mn_GI _ _ _) <|
  mF (mn_LI _ _) <|
  mF (mn_IS _) <|
  mF (mn_LA _ _) <|
  mF (mn_GR _ _ _) <|
  mF (mn_LA _ _) <|
  mF (mn_GI _ _ _) <|
  mF (mn_LI _ _) <|
  mF (mn_IS _) <|
  mF (mn_LA _ _) <|
  mF (mn_Dup _) <|
  mF (mn_GI _ _ _) <|
  mF (mn_PI _ _) <|
  mF (mn_B _ _) <|
  mF (mn_WI _ _ _) <|
  mF (mn_LA _ _) <|
  mF (mn_GI _ _ _) <|
  mF (mn_RI) <|
  mF0
def C_X2_add : mCo := mRun tb_X2_add 4
theorem mc_X2_add : mMC C_X2_add := mRun_mn mt_X2_add 4
theorem yi_X2_add : mYin yX2_add cX2_add 4 (some .int) 3 := ⟨wd_55, wd_768, by decide +kernel, by decide⟩
set_option maxRecDepth 100000 in
set_option maxHeartbeats 4000000 in
theorem sd_X2_add (l : Launch) (B : mBs) (p : Program) (e : Env) (s : State) (m : MethodId) (args : Array Value) (below : List Frame) (meth : Method) (c : Code) (Q : mQo) (X : mCx l B RX2 cX2_add 4 p s m args c) (hr : meth.sig.returnType = (some .int)) (hk : meth.locks = false) (hn : meth.name = "add") : ∀ q ∈ tb_X2_add, mSnd l B 4 p e (mRm 0 0 0) s m args below meth c (MQ below (mPo B Q) args s 0 0 (mA B)) (fun r h' => (h'.1.2.1 ≤ 0 ∧ h'.1.2.2 ≤ 0) ∧ Q r h') q.2 q.1 :=
  mF (sn_aload_n (pc := 0) (j := 0) X (by decide +kernel) rfl) <|
  mF (sn_getR (pc := 1) X fd_X2_9 (by decide +kernel)) <|
  mF (sn_aload_n (pc := 4) (j := 0) X (by decide +kernel) rfl) <|
  mF (sn_getI (pc := 5) X fd_X2_24 (by decide +kernel)) <|
  mF (sn_iload_n (pc := 8) (j := 1) X (by decide +kernel) rfl) <|
  mF (sn_iastore (pc := 9) X (by decide +kernel)) <|
  mF (sn_aload_n (pc := 10) (j := 0) X (by decide +kernel) rfl) <|
  mF (sn_getR (pc := 11) X fd_X2_15 (by decide +kernel)) <|
  mF (sn_aload_n (pc := 14) (j := 0) X (by decide +kernel) rfl) <|
  mF (sn_getI (pc := 15) X fd_X2_24 (by decide +kernel)) <|
  mF (sn_iload_n (pc := 18) (j := 2) X (by decide +kernel) rfl) <|
  mF (sn_iastore (pc := 19) X (by decide +kernel)) <|
  mF (sn_aload_n (pc := 20) (j := 0) X (by decide +kernel) rfl) <|
  mF (sn_getR (pc := 21) X fd_X2_18 (by decide +kernel)) <|
  mF (sn_aload_n (pc := 24) (j := 0) X (by decide +kernel) rfl) <|
  mF (sn_getI (pc := 25) X fd_X2_24 (by decide +kernel)) <|
  mF (sn_iload_n (pc := 28) (j := 3) X (by decide +kernel) rfl) <|
  mF (sn_iastore (pc := 29) X (by decide +kernel)) <|
  mF (sn_aload_n (pc := 30) (j := 0) X (by decide +kernel) rfl) <|
  mF (sn_dup (pc := 31) X (by decide +kernel)) <|
  mF (sn_getI (pc := 32) X fd_X2_24 (by decide +kernel)) <|
  mF (sn_iconst (pc := 35) (n := 1) X (by decide +kernel) (by decide)) <|
  mF (sn_iadd (pc := 36) X (by decide +kernel)) <|
  mF (sn_putI (pc := 37) X fd_X2_24 ⟨tyX2_ok, nmX2⟩ rfl rfl (by decide +kernel)) <|
  mF (sn_aload_n (pc := 40) (j := 0) X (by decide +kernel) rfl) <|
  mF (sn_getI (pc := 41) X fd_X2_24 (by decide +kernel)) <|
  mF (sn_iret (pc := 44) X hr hk (by decide +kernel)) <|
  mF0
theorem me_X2_add (l : Launch) (B : mBs) : mMet l B yX2_add cX2_add 4 (some .int) 0 0 0 C_X2_add := mMet_of (own := RX2) (by decide) rfl (fun p e s m args below meth c Q X hr hk hn => sd_X2_add l B p e s m args below meth c Q X hr hk hn)
/-! PuppetStage$Gesture.keepPose(ILPuppetStage$Limbs;)V: 26 instructions, depth 0, makes 0 cells of 0 slots -/
def tb_X2_keepPose : mTb := [(0, aPI 0 1), (1, aSI 3 2), (2, aLI 3 3), (3, aPI 6 5), (5, aIc (fun x y => y ≤ x) 43 8), (8, aLA 0 9), (9, aGR 2 3 12), (12, aPI 6 14), (14, aLI 1 15), (15, aB (fun x y => x * y) 16), (16, aLI 3 17), (17, aB (fun x y => x + y) 18), (18, aLI 3 19), (19, aLA 2 20), (20, aGI 5 4 23), (23, aIc (fun x y => y ≤ x) 35 26), (26, aLA 2 27), (27, aGR 5 3 30), (30, aLI 3 31), (31, aIA 32), (32, aGo 36), (35, aPI 0 36), (36, aIS 37), (37, aInc 3 1 40), (40, aGo 2), (43, aRV)]
theorem mt_X2_keepPose : mMT tb_X2_keepPose :=
  mF (mn_PI _ _) <|
  mF (mn_SI _ _) <|
  mF (mn_LI _ _) <|
  mF (mn_PI _ _) <|
  mF (mn_Ic _ _ _) <|
  mF (mn_LA _ _) <|
  mF (mn_GR _ _ _) <|
  mF (mn_PI _ _) <|
  mF (mn_LI _ _) <|
  mF (mn_B _ _) <|
  mF (mn_LI _ _) <|
  mF (mn_B _ _) <|
  mF (mn_LI _ _) <|
  mF (mn_LA _ _) <|
  mF (mn_GI _ _ _) <|
  mF (mn_Ic _ _ _) <|
  mF (mn_LA _ _) <|
  mF (mn_GR _ _ _) <|
  mF (mn_LI _ _) <|
  mF (mn_IA _) <|
  mF (mn_Go _) <|
  mF (mn_PI _ _) <|
  mF (mn_IS _) <|
  mF (mn_Inc _ _ _) <|
  mF (mn_Go _) <|
  mF (mn_RV) <|
  mF0
def C_X2_keepPose : mCo := mRun tb_X2_keepPose 4
theorem mc_X2_keepPose : mMC C_X2_keepPose := mRun_mn mt_X2_keepPose 4
theorem yi_X2_keepPose : mYin yX2_keepPose cX2_keepPose 4 none 2 := ⟨wd_55, wd_780, by decide +kernel, by decide⟩
set_option maxRecDepth 100000 in
set_option maxHeartbeats 4000000 in
theorem sd_X2_keepPose (l : Launch) (B : mBs) (p : Program) (e : Env) (s : State) (m : MethodId) (args : Array Value) (below : List Frame) (meth : Method) (c : Code) (Q : mQo) (X : mCx l B RX2 cX2_keepPose 4 p s m args c) (hr : meth.sig.returnType = none) (hk : meth.locks = false) (hn : meth.name = "keepPose") : ∀ q ∈ tb_X2_keepPose, mSnd l B 4 p e (mRm 0 0 0) s m args below meth c (MQ below (mPo B Q) args s 0 0 (mA B)) (fun r h' => (h'.1.2.1 ≤ 0 ∧ h'.1.2.2 ≤ 0) ∧ Q r h') q.2 q.1 :=
  mF (sn_iconst (pc := 0) (n := 0) X (by decide +kernel) (by decide)) <|
  mF (sn_istore_n (pc := 1) (j := 3) X (by decide +kernel) rfl (by decide)) <|
  mF (sn_iload_n (pc := 2) (j := 3) X (by decide +kernel) rfl) <|
  mF (sn_bipush (pc := 3) (n := 6) X (by decide +kernel) (by decide)) <|
  mF (sn_icmp_ge (pc := 5) (off := 38) X (by decide +kernel) (by decide)) <|
  mF (sn_aload_n (pc := 8) (j := 0) X (by decide +kernel) rfl) <|
  mF (sn_getR (pc := 9) X fd_X2_21 (by decide +kernel)) <|
  mF (sn_bipush (pc := 12) (n := 6) X (by decide +kernel) (by decide)) <|
  mF (sn_iload_n (pc := 14) (j := 1) X (by decide +kernel) rfl) <|
  mF (sn_imul (pc := 15) X (by decide +kernel)) <|
  mF (sn_iload_n (pc := 16) (j := 3) X (by decide +kernel) rfl) <|
  mF (sn_iadd (pc := 17) X (by decide +kernel)) <|
  mF (sn_iload_n (pc := 18) (j := 3) X (by decide +kernel) rfl) <|
  mF (sn_aload_n (pc := 19) (j := 2) X (by decide +kernel) rfl) <|
  mF (sn_getI (pc := 20) X fd_X2_31 (by decide +kernel)) <|
  mF (sn_icmp_ge (pc := 23) (off := 12) X (by decide +kernel) (by decide)) <|
  mF (sn_aload_n (pc := 26) (j := 2) X (by decide +kernel) rfl) <|
  mF (sn_getR (pc := 27) X fd_X2_36 (by decide +kernel)) <|
  mF (sn_iload_n (pc := 30) (j := 3) X (by decide +kernel) rfl) <|
  mF (sn_iaload (pc := 31) X (by decide +kernel)) <|
  mF (sn_goto (pc := 32) (off := 4) X (by decide +kernel) (by decide)) <|
  mF (sn_iconst (pc := 35) (n := 0) X (by decide +kernel) (by decide)) <|
  mF (sn_iastore (pc := 36) X (by decide +kernel)) <|
  mF (sn_iinc (pc := 37) (n := 1) X (by decide +kernel) (by decide) (by decide)) <|
  mF (sn_goto (pc := 40) (off := (-38)) X (by decide +kernel) (by decide)) <|
  mF (sn_vret (pc := 43) X hr hk (by decide +kernel)) <|
  mF0
theorem me_X2_keepPose (l : Launch) (B : mBs) : mMet l B yX2_keepPose cX2_keepPose 4 none 0 0 0 C_X2_keepPose := mMet_of (own := RX2) (by decide) rfl (fun p e s m args below meth c Q X hr hk hn => sd_X2_keepPose l B p e s m args below meth c Q X hr hk hn)
/-! PuppetStage$Gesture.bendOf(II)I: 9 instructions, depth 0, makes 0 cells of 0 slots -/
def tb_X2_bendOf : mTb := [(0, aLA 0 1), (1, aGR 2 3 4), (4, aPI 6 6), (6, aLI 1 7), (7, aB (fun x y => x * y) 8), (8, aLI 2 9), (9, aB (fun x y => x + y) 10), (10, aIA 11), (11, aRI)]
theorem mt_X2_bendOf : mMT tb_X2_bendOf :=
  mF (mn_LA _ _) <|
  mF (mn_GR _ _ _) <|
  mF (mn_PI _ _) <|
  mF (mn_LI _ _) <|
  mF (mn_B _ _) <|
  mF (mn_LI _ _) <|
  mF (mn_B _ _) <|
  mF (mn_IA _) <|
  mF (mn_RI) <|
  mF0
def C_X2_bendOf : mCo := mRun tb_X2_bendOf 3
theorem mc_X2_bendOf : mMC C_X2_bendOf := mRun_mn mt_X2_bendOf 3
theorem yi_X2_bendOf : mYin yX2_bendOf cX2_bendOf 3 (some .int) 2 := ⟨wd_55, wd_788, by decide +kernel, by decide⟩
set_option maxRecDepth 100000 in
set_option maxHeartbeats 4000000 in
theorem sd_X2_bendOf (l : Launch) (B : mBs) (p : Program) (e : Env) (s : State) (m : MethodId) (args : Array Value) (below : List Frame) (meth : Method) (c : Code) (Q : mQo) (X : mCx l B RX2 cX2_bendOf 3 p s m args c) (hr : meth.sig.returnType = (some .int)) (hk : meth.locks = false) (hn : meth.name = "bendOf") : ∀ q ∈ tb_X2_bendOf, mSnd l B 3 p e (mRm 0 0 0) s m args below meth c (MQ below (mPo B Q) args s 0 0 (mA B)) (fun r h' => (h'.1.2.1 ≤ 0 ∧ h'.1.2.2 ≤ 0) ∧ Q r h') q.2 q.1 :=
  mF (sn_aload_n (pc := 0) (j := 0) X (by decide +kernel) rfl) <|
  mF (sn_getR (pc := 1) X fd_X2_21 (by decide +kernel)) <|
  mF (sn_bipush (pc := 4) (n := 6) X (by decide +kernel) (by decide)) <|
  mF (sn_iload_n (pc := 6) (j := 1) X (by decide +kernel) rfl) <|
  mF (sn_imul (pc := 7) X (by decide +kernel)) <|
  mF (sn_iload_n (pc := 8) (j := 2) X (by decide +kernel) rfl) <|
  mF (sn_iadd (pc := 9) X (by decide +kernel)) <|
  mF (sn_iaload (pc := 10) X (by decide +kernel)) <|
  mF (sn_iret (pc := 11) X hr hk (by decide +kernel)) <|
  mF0
theorem me_X2_bendOf (l : Launch) (B : mBs) : mMet l B yX2_bendOf cX2_bendOf 3 (some .int) 0 0 0 C_X2_bendOf := mMet_of (own := RX2) (by decide) rfl (fun p e s m args below meth c Q X hr hk hn => sd_X2_bendOf l B p e s m args below meth c Q X hr hk hn)
/-! PuppetStage$Gesture.comesRound(I)Z: 36 instructions, depth 1, makes 0 cells of 0 slots -/
def tb_X2_comesRound : mTb := [(0, aLA 0 1), (1, aGI 2 5 4), (4, aPI 1 5), (5, aB (fun x y => x - y) 6), (6, aSI 2 7), (7, aPI 0 8), (8, aSI 3 9), (9, aLI 3 10), (10, aLI 1 11), (11, aIc (fun x y => y ≤ x) 37 14), (14, aLA 0 15), (15, aPI 0 16), (16, aLI 3 17), (17, aCV 2 2 C_X2_bendOf 20), (20, aLA 0 21), (21, aLI 2 22), (22, aLI 3 23), (23, aCV 2 2 C_X2_bendOf 26), (26, aIc (fun x y => x = y) 31 29), (29, aPI 0 30), (30, aRZ), (31, aInc 3 1 34), (34, aGo 9), (37, aLA 0 38), (38, aGR 2 2 41), (41, aPI 0 42), (42, aIA 43), (43, aLA 0 44), (44, aGR 2 2 47), (47, aLI 2 48), (48, aIA 49), (49, aIc (fun x y => x = y) 52 56), (52, aPI 1 53), (53, aGo 57), (56, aPI 0 57), (57, aRZ)]
theorem mt_X2_comesRound : mMT tb_X2_comesRound :=
  mF (mn_LA _ _) <|
  mF (mn_GI _ _ _) <|
  mF (mn_PI _ _) <|
  mF (mn_B _ _) <|
  mF (mn_SI _ _) <|
  mF (mn_PI _ _) <|
  mF (mn_SI _ _) <|
  mF (mn_LI _ _) <|
  mF (mn_LI _ _) <|
  mF (mn_Ic _ _ _) <|
  mF (mn_LA _ _) <|
  mF (mn_PI _ _) <|
  mF (mn_LI _ _) <|
  mF (mn_CV _ _ mc_X2_bendOf _) <|
  mF (mn_LA _ _) <|
  mF (mn_LI _ _) <|
  mF (mn_LI _ _) <|
  mF (mn_CV _ _ mc_X2_bendOf _) <|
  mF (mn_Ic _ _ _) <|
  mF (mn_PI _ _) <|
  mF (mn_RZ) <|
  mF (mn_Inc _ _ _) <|
  mF (mn_Go _) <|
  mF (mn_LA _ _) <|
  mF (mn_GR _ _ _) <|
  mF (mn_PI _ _) <|
  mF (mn_IA _) <|
  mF (mn_LA _ _) <|
  mF (mn_GR _ _ _) <|
  mF (mn_LI _ _) <|
  mF (mn_IA _) <|
  mF (mn_Ic _ _ _) <|
  mF (mn_PI _ _) <|
  mF (mn_Go _) <|
  mF (mn_PI _ _) <|
  mF (mn_RZ) <|
  mF0
def C_X2_comesRound : mCo := mRun tb_X2_comesRound 4
theorem mc_X2_comesRound : mMC C_X2_comesRound := mRun_mn mt_X2_comesRound 4
theorem yi_X2_comesRound : mYin yX2_comesRound cX2_comesRound 4 (some .boolean) 1 := ⟨wd_55, wd_796, by decide +kernel, by decide⟩
set_option maxRecDepth 100000 in
set_option maxHeartbeats 4000000 in
theorem sd_X2_comesRound (l : Launch) (B : mBs) (p : Program) (e : Env) (s : State) (m : MethodId) (args : Array Value) (below : List Frame) (meth : Method) (c : Code) (Q : mQo) (X : mCx l B RX2 cX2_comesRound 4 p s m args c) (hr : meth.sig.returnType = (some .boolean)) (hk : meth.locks = false) (hn : meth.name = "comesRound") : ∀ q ∈ tb_X2_comesRound, mSnd l B 4 p e (mRm 1 0 0) s m args below meth c (MQ below (mPo B Q) args s 0 0 (mA B)) (fun r h' => (h'.1.2.1 ≤ 0 ∧ h'.1.2.2 ≤ 0) ∧ Q r h') q.2 q.1 :=
  mF (sn_aload_n (pc := 0) (j := 0) X (by decide +kernel) rfl) <|
  mF (sn_getI (pc := 1) X fd_X2_28 (by decide +kernel)) <|
  mF (sn_iconst (pc := 4) (n := 1) X (by decide +kernel) (by decide)) <|
  mF (sn_isub (pc := 5) X (by decide +kernel)) <|
  mF (sn_istore_n (pc := 6) (j := 2) X (by decide +kernel) rfl (by decide)) <|
  mF (sn_iconst (pc := 7) (n := 0) X (by decide +kernel) (by decide)) <|
  mF (sn_istore_n (pc := 8) (j := 3) X (by decide +kernel) rfl (by decide)) <|
  mF (sn_iload_n (pc := 9) (j := 3) X (by decide +kernel) rfl) <|
  mF (sn_iload_n (pc := 10) (j := 1) X (by decide +kernel) rfl) <|
  mF (sn_icmp_ge (pc := 11) (off := 26) X (by decide +kernel) (by decide)) <|
  mF (sn_aload_n (pc := 14) (j := 0) X (by decide +kernel) rfl) <|
  mF (sn_iconst (pc := 15) (n := 0) X (by decide +kernel) (by decide)) <|
  mF (sn_iload_n (pc := 16) (j := 3) X (by decide +kernel) rfl) <|
  mF (sn_callV (pc := 17) X mc_X2_bendOf (me_X2_bendOf l B) yi_X2_bendOf wd_797 wd_786 wd_787 (T := TX2) (N := 6) rfl (by decide) (by decide +kernel)) <|
  mF (sn_aload_n (pc := 20) (j := 0) X (by decide +kernel) rfl) <|
  mF (sn_iload_n (pc := 21) (j := 2) X (by decide +kernel) rfl) <|
  mF (sn_iload_n (pc := 22) (j := 3) X (by decide +kernel) rfl) <|
  mF (sn_callV (pc := 23) X mc_X2_bendOf (me_X2_bendOf l B) yi_X2_bendOf wd_797 wd_786 wd_787 (T := TX2) (N := 6) rfl (by decide) (by decide +kernel)) <|
  mF (sn_icmp_eq (pc := 26) (off := 5) X (by decide +kernel) (by decide)) <|
  mF (sn_iconst (pc := 29) (n := 0) X (by decide +kernel) (by decide)) <|
  mF (sn_zret (pc := 30) X hr hk (by decide +kernel)) <|
  mF (sn_iinc (pc := 31) (n := 1) X (by decide +kernel) (by decide) (by decide)) <|
  mF (sn_goto (pc := 34) (off := (-25)) X (by decide +kernel) (by decide)) <|
  mF (sn_aload_n (pc := 37) (j := 0) X (by decide +kernel) rfl) <|
  mF (sn_getR (pc := 38) X fd_X2_18 (by decide +kernel)) <|
  mF (sn_iconst (pc := 41) (n := 0) X (by decide +kernel) (by decide)) <|
  mF (sn_iaload (pc := 42) X (by decide +kernel)) <|
  mF (sn_aload_n (pc := 43) (j := 0) X (by decide +kernel) rfl) <|
  mF (sn_getR (pc := 44) X fd_X2_18 (by decide +kernel)) <|
  mF (sn_iload_n (pc := 47) (j := 2) X (by decide +kernel) rfl) <|
  mF (sn_iaload (pc := 48) X (by decide +kernel)) <|
  mF (sn_icmp_ne (pc := 49) (off := 7) X (by decide +kernel) (by decide)) <|
  mF (sn_iconst (pc := 52) (n := 1) X (by decide +kernel) (by decide)) <|
  mF (sn_goto (pc := 53) (off := 4) X (by decide +kernel) (by decide)) <|
  mF (sn_iconst (pc := 56) (n := 0) X (by decide +kernel) (by decide)) <|
  mF (sn_zret (pc := 57) X hr hk (by decide +kernel)) <|
  mF0
theorem me_X2_comesRound (l : Launch) (B : mBs) : mMet l B yX2_comesRound cX2_comesRound 4 (some .boolean) 1 0 0 C_X2_comesRound := mMet_of (own := RX2) (by decide) rfl (fun p e s m args below meth c Q X hr hk hn => sd_X2_comesRound l B p e s m args below meth c Q X hr hk hn)
/-! PuppetStage$Gesture.become(LPuppetStage$Gesture;)V: 29 instructions, depth 2, makes 0 cells of 0 slots -/
def tb_X2_become : mTb := [(0, aLA 1 1), (1, aGR 2 0 4), (4, aLA 0 5), (5, aGR 2 0 8), (8, aCS 2 C_X10_copyRow 11), (11, aLA 1 12), (12, aGR 2 1 15), (15, aLA 0 16), (16, aGR 2 1 19), (19, aCS 2 C_X10_copyRow 22), (22, aLA 1 23), (23, aGR 2 2 26), (26, aLA 0 27), (27, aGR 2 2 30), (30, aCS 2 C_X10_copyRow 33), (33, aLA 1 34), (34, aGR 2 3 37), (37, aLA 0 38), (38, aGR 2 3 41), (41, aCS 2 C_X10_copyRow 44), (44, aLA 0 45), (45, aLA 1 46), (46, aGI 2 4 49), (49, aWI 2 4 52), (52, aLA 0 53), (53, aLA 1 54), (54, aGI 2 5 57), (57, aWI 2 5 60), (60, aRV)]
theorem mt_X2_become : mMT tb_X2_become :=
  mF (mn_LA _ _) <|
  mF (mn_GR _ _ _) <|
  mF (mn_LA _ _) <|
  mF (mn_GR _ _ _) <|
  mF (mn_CS _ mc_X10_copyRow _) <|
  mF (mn_LA _ _) <|
  mF (mn_GR _ _ _) <|
  mF (mn_LA _ _) <|
  mF (mn_GR _ _ _) <|
  mF (mn_CS _ mc_X10_copyRow _) <|
  mF (mn_LA _ _) <|
  mF (mn_GR _ _ _) <|
  mF (mn_LA _ _) <|
  mF (mn_GR _ _ _) <|
  mF (mn_CS _ mc_X10_copyRow _) <|
  mF (mn_LA _ _) <|
  mF (mn_GR _ _ _) <|
  mF (mn_LA _ _) <|
  mF (mn_GR _ _ _) <|
  mF (mn_CS _ mc_X10_copyRow _) <|
  mF (mn_LA _ _) <|
  mF (mn_LA _ _) <|
  mF (mn_GI _ _ _) <|
  mF (mn_WI _ _ _) <|
  mF (mn_LA _ _) <|
  mF (mn_LA _ _) <|
  mF (mn_GI _ _ _) <|
  mF (mn_WI _ _ _) <|
  mF (mn_RV) <|
  mF0
def C_X2_become : mCo := mRun tb_X2_become 2
theorem mc_X2_become : mMC C_X2_become := mRun_mn mt_X2_become 2
theorem yi_X2_become : mYin yX2_become cX2_become 2 none 1 := ⟨wd_55, wd_494, by decide +kernel, by decide⟩
set_option maxRecDepth 100000 in
set_option maxHeartbeats 4000000 in
theorem sd_X2_become (l : Launch) (B : mBs) (p : Program) (e : Env) (s : State) (m : MethodId) (args : Array Value) (below : List Frame) (meth : Method) (c : Code) (Q : mQo) (X : mCx l B RX2 cX2_become 2 p s m args c) (hr : meth.sig.returnType = none) (hk : meth.locks = false) (hn : meth.name = "become") : ∀ q ∈ tb_X2_become, mSnd l B 2 p e (mRm 2 0 0) s m args below meth c (MQ below (mPo B Q) args s 0 0 (mA B)) (fun r h' => (h'.1.2.1 ≤ 0 ∧ h'.1.2.2 ≤ 0) ∧ Q r h') q.2 q.1 :=
  mF (sn_aload_n (pc := 0) (j := 1) X (by decide +kernel) rfl) <|
  mF (sn_getR (pc := 1) X fd_X2_9 (by decide +kernel)) <|
  mF (sn_aload_n (pc := 4) (j := 0) X (by decide +kernel) rfl) <|
  mF (sn_getR (pc := 5) X fd_X2_9 (by decide +kernel)) <|
  mF (sn_callSN (pc := 8) X mc_X10_copyRow (me_X10_copyRow l B) yi_X10_copyRow wd_495 wd_464 (by decide) (by decide +kernel)) <|
  mF (sn_aload_n (pc := 11) (j := 1) X (by decide +kernel) rfl) <|
  mF (sn_getR (pc := 12) X fd_X2_15 (by decide +kernel)) <|
  mF (sn_aload_n (pc := 15) (j := 0) X (by decide +kernel) rfl) <|
  mF (sn_getR (pc := 16) X fd_X2_15 (by decide +kernel)) <|
  mF (sn_callSN (pc := 19) X mc_X10_copyRow (me_X10_copyRow l B) yi_X10_copyRow wd_495 wd_464 (by decide) (by decide +kernel)) <|
  mF (sn_aload_n (pc := 22) (j := 1) X (by decide +kernel) rfl) <|
  mF (sn_getR (pc := 23) X fd_X2_18 (by decide +kernel)) <|
  mF (sn_aload_n (pc := 26) (j := 0) X (by decide +kernel) rfl) <|
  mF (sn_getR (pc := 27) X fd_X2_18 (by decide +kernel)) <|
  mF (sn_callSN (pc := 30) X mc_X10_copyRow (me_X10_copyRow l B) yi_X10_copyRow wd_495 wd_464 (by decide) (by decide +kernel)) <|
  mF (sn_aload_n (pc := 33) (j := 1) X (by decide +kernel) rfl) <|
  mF (sn_getR (pc := 34) X fd_X2_21 (by decide +kernel)) <|
  mF (sn_aload_n (pc := 37) (j := 0) X (by decide +kernel) rfl) <|
  mF (sn_getR (pc := 38) X fd_X2_21 (by decide +kernel)) <|
  mF (sn_callSN (pc := 41) X mc_X10_copyRow (me_X10_copyRow l B) yi_X10_copyRow wd_495 wd_464 (by decide) (by decide +kernel)) <|
  mF (sn_aload_n (pc := 44) (j := 0) X (by decide +kernel) rfl) <|
  mF (sn_aload_n (pc := 45) (j := 1) X (by decide +kernel) rfl) <|
  mF (sn_getI (pc := 46) X fd_X2_24 (by decide +kernel)) <|
  mF (sn_putI (pc := 49) X fd_X2_24 ⟨tyX2_ok, nmX2⟩ rfl rfl (by decide +kernel)) <|
  mF (sn_aload_n (pc := 52) (j := 0) X (by decide +kernel) rfl) <|
  mF (sn_aload_n (pc := 53) (j := 1) X (by decide +kernel) rfl) <|
  mF (sn_getI (pc := 54) X fd_X2_28 (by decide +kernel)) <|
  mF (sn_putI (pc := 57) X fd_X2_28 ⟨tyX2_ok, nmX2⟩ rfl rfl (by decide +kernel)) <|
  mF (sn_vret (pc := 60) X hr hk (by decide +kernel)) <|
  mF0
theorem me_X2_become (l : Launch) (B : mBs) : mMet l B yX2_become cX2_become 2 none 2 0 0 C_X2_become := mMet_of (own := RX2) (by decide) rfl (fun p e s m args below meth c Q X hr hk hn => sd_X2_become l B p e s m args below meth c Q X hr hk hn)
