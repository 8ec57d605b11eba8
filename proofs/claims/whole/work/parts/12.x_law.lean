/-! THE CLAIM OUT OF ONE WALK OF THE LAW'S BODY. Your part is whole_start (and what it stands on); all else here is the same for every law, but numbers. -/
def R_law : String := "PuppetStageLaw"
def lw_P (b : Addr) (xs : List Int32) (args : Array Value) (s : State) : Prop := args = #[.ref b] ∧ s.IntsAt b xs ∧ xs.length ≤ 3072 ∧ (Jvm.Cond.and given_1 narrow_1).before args s = true
def lw_Q (_ : Array Value) (s : State) (o : Outcome) (t : State) : Prop := o = .returned (some (.int 1)) ∧ Framed s o t [] 600000 7302250
def lw_Z (below : List Frame) (a : Array Value) (s : State) : State → Prop := fun t => ∃ o, t.status = .running ∧ Ended t below o ∧ lw_Q a s o t
/-- the law's own end, with 1 on the stack, nothing written that was there before, its room as the claim has it -/
theorem lw_ret {p : Program} {l : Launch} {e : Env} {s : State} {m : MethodId} {below : List Frame} {meth : Method} {c : Code} {b : Nat} (hx : p.tables.exec = Jvm.exec) (hb : c.code = code) (hr : meth.sig.returnType = ret) (hlocks : meth.locks = false) {pc : Nat} {H : Heap} {ls : Array Slot} (hdg : decode code pc = .ok (.ireturn, 1)) : W p l e room_1 s m #[Value.ref b] below meth c H [] 600000 7302250 (lw_Z below #[Value.ref b] s) (F0 m pc ls [.int 1]) := by
  intro T hT X
  obtain ⟨fs, hret, hrun, hended, hW, hframe⟩ := X.leave (v := some (.int 1)) (hlocks := hlocks) (fun h => by rw [hr] at h; cases h)
  have hmeth' : T.vm.method? m = some meth := X.method'
  refine ⟨T.setFrames fs, ?_, .returned (some (.int 1)), hrun, hended, rfl, ⟨_, rfl⟩, hW, hframe⟩
  jvm_step X.here [X.here.top, hx, hb, hdg, hmeth', hr, ret, narrow_b1]
  (try refine ⟨rfl, ?_⟩); (try refine ⟨rfl, ?_⟩)
  first | (intro acts; rw [hret _ acts rfl rfl rfl]) | rw [hret _ _ rfl rfl rfl]
  exact Steps.refl _
/-- what holds at the law's entry: the machine, the code, the tables' words (any of lw_tbl by 'hts w (by decide +kernel)'), the script of L ints xs at the cell b, what the Statement gives of the start (any of its parts by flat_of_before) -/
def lw_At (p : Program) (s : State) (m : MethodId) (meth : Method) (c : Code) (b L : Nat) (xs : Nat → Int32) : Prop :=
  p.tables.exec = Jvm.exec ∧ c.code = code ∧ meth.sig.returnType = ret ∧ c.maxLocals = 4 ∧ s.vm.findClass R_law = some m.cls ∧ (∀ w ∈ lw_tbl, w.before #[Value.ref b] s = true) ∧ va_X b L xs s s.heap ∧ b < s.heap.size ∧ meth.locks = false ∧ (Jvm.Cond.and given_1 narrow_1).before #[Value.ref b] s = true
theorem sn_lwret {l : Launch} {B : mBs} {p : Program} {e : Env} {s : State} {m : MethodId} {xb : Nat} {below : List Frame} {meth : Method} {c : Code} {pc : Nat} (X : mCx l B RL code 4 p s m #[Value.ref xb] c) (hr : meth.sig.returnType = ret) (hk : meth.locks = false) (hb : bb B = s.heap.size) (hd : decode code pc = .ok (.ireturn, 1)) : mSnd l B 4 p e (mRm 12 600000 7302250) s m #[Value.ref xb] below meth c (lw_Z below #[Value.ref xb] s) (fun r _ => r = some (.int 1)) aRZ pc := by
  intro ls st h k arr H locs ha hh hS
  unfold aRZ at k
  split at k
  · obtain ⟨-, k⟩ := k
    cases k
    refine va_forget (fun q hq => by have h1 : bb B ≤ q.base := hS.2.2 q hq; rw [hb] at h1; exact h1) (W.widen hh.2.2.1 hh.2.2.2 (lw_ret X.1.1 X.1.2.1 hr hk hd))
  · exact k.elim
/-! PuppetStageLaw.law([I)Z: 1098 instructions, depth 12, makes 600000 cells of 7302250 slots -/
def tb_L_law_c0 : mTb := [(0, aNew 10 11 600000 7302250 3), (3, aDup 4), (4, aCI C_X10_init 326 3374 600000 7302250 7), (7, aSA 1 8), (8, aNew 11 22 600000 7302250 11), (11, aDup 12), (12, aCI C_X11_init 10 2974 600000 7302250 15), (15, aSA 2 16), (16, aPI 0 17), (17, aSI 3 18), (18, aLI 3 19), (19, aLA 0 20), (20, aLen 21), (21, aPI 6 23), (23, aB (fun x y => x - y) 24), (24, aIc (fun x y => y < x) 1466 27), (27, aLA 0 28), (28, aLI 3 29), (29, aIA 30), (30, aPI 63 32), (32, aB (fun x y => x &&& y) 33), (33, aTs [(0, 184), (1, 238), (2, 262), (3, 306), (4, 340), (5, 394), (6, 448), (7, 502), (8, 546), (9, 580), (10, 614), (11, 658), (12, 712), (13, 756), (14, 820), (15, 854), (16, 898), (17, 942), (18, 986), (19, 1020), (20, 1044), (21, 1078), (22, 1102), (23, 1126), (24, 1180), (25, 1204), (26, 1238), (27, 1282), (28, 1306), (29, 1360), (30, 1384), (31, 1398), (32, 1422), (33, 1436)] 1460), (184, aLA 1 185), (185, aLA 0 186), (186, aLI 3 187), (187, aPI 1 188), (188, aB (fun x y => x + y) 189), (189, aIA 190), (190, aLA 0 191), (191, aLI 3 192), (192, aPI 2 193), (193, aB (fun x y => x + y) 194), (194, aIA 195), (195, aLA 0 196), (196, aLI 3 197), (197, aPI 3 198), (198, aB (fun x y => x + y) 199), (199, aIA 200), (200, aLA 0 201), (201, aLI 3 202), (202, aPI 4 203), (203, aB (fun x y => x + y) 204), (204, aIA 205), (205, aCV 10 4 C_X10_limb 208), (208, aLA 2 209), (209, aLA 0 210), (210, aLI 3 211), (211, aPI 1 212), (212, aB (fun x y => x + y) 213), (213, aIA 214), (214, aLA 0 215), (215, aLI 3 216), (216, aPI 2 217), (217, aB (fun x y => x + y) 218), (218, aIA 219), (219, aLA 0 220), (220, aLI 3 221), (221, aPI 3 222), (222, aB (fun x y => x + y) 223), (223, aIA 224), (224, aLA 0 225), (225, aLI 3 226), (226, aPI 4 227), (227, aB (fun x y => x + y) 228), (228, aIA 229), (229, aCV 11 4 C_X11_limb 232), (232, aCmp 233), (233, aIf (fun x => x = 0) 1460 236), (236, aPI 0 237), (237, aRZ)]
theorem mt_L_law_c0 : mMT tb_L_law_c0 :=
  mF (mn_New _ _ _ _ _) <|
  mF (mn_Dup _) <|
  mF (mn_CI mc_X10_init _ _ _ _ _) <|
  mF (mn_SA _ _) <|
  mF (mn_New _ _ _ _ _) <|
  mF (mn_Dup _) <|
  mF (mn_CI mc_X11_init _ _ _ _ _) <|
  mF (mn_SA _ _) <|
  mF (mn_PI _ _) <|
  mF (mn_SI _ _) <|
  mF (mn_LI _ _) <|
  mF (mn_LA _ _) <|
  mF (mn_Len _) <|
  mF (mn_PI _ _) <|
  mF (mn_B _ _) <|
  mF (mn_Ic _ _ _) <|
  mF (mn_LA _ _) <|
  mF (mn_LI _ _) <|
  mF (mn_IA _) <|
  mF (mn_PI _ _) <|
  mF (mn_B _ _) <|
  mF (mn_Ts _ _) <|
  mF (mn_LA _ _) <|
  mF (mn_LA _ _) <|
  mF (mn_LI _ _) <|
  mF (mn_PI _ _) <|
  mF (mn_B _ _) <|
  mF (mn_IA _) <|
  mF (mn_LA _ _) <|
  mF (mn_LI _ _) <|
  mF (mn_PI _ _) <|
  mF (mn_B _ _) <|
  mF (mn_IA _) <|
  mF (mn_LA _ _) <|
  mF (mn_LI _ _) <|
  mF (mn_PI _ _) <|
  mF (mn_B _ _) <|
  mF (mn_IA _) <|
  mF (mn_LA _ _) <|
  mF (mn_LI _ _) <|
  mF (mn_PI _ _) <|
  mF (mn_B _ _) <|
  mF (mn_IA _) <|
  mF (mn_CV _ _ mc_X10_limb _) <|
  mF (mn_LA _ _) <|
  mF (mn_LA _ _) <|
  mF (mn_LI _ _) <|
  mF (mn_PI _ _) <|
  mF (mn_B _ _) <|
  mF (mn_IA _) <|
  mF (mn_LA _ _) <|
  mF (mn_LI _ _) <|
  mF (mn_PI _ _) <|
  mF (mn_B _ _) <|
  mF (mn_IA _) <|
  mF (mn_LA _ _) <|
  mF (mn_LI _ _) <|
  mF (mn_PI _ _) <|
  mF (mn_B _ _) <|
  mF (mn_IA _) <|
  mF (mn_LA _ _) <|
  mF (mn_LI _ _) <|
  mF (mn_PI _ _) <|
  mF (mn_B _ _) <|
  mF (mn_IA _) <|
  mF (mn_CV _ _ mc_X11_limb _) <|
  mF (mn_Cmp _) <|
  mF (mn_If _ _ _) <|
  mF (mn_PI _ _) <|
  mF (mn_RZ) <|
  mF0
def tb_L_law_c1 : mTb := [(238, aLA 1 239), (239, aLA 0 240), (240, aLI 3 241), (241, aPI 1 242), (242, aB (fun x y => x + y) 243), (243, aIA 244), (244, aCV 10 1 C_X10_lose 247), (247, aLA 2 248), (248, aLA 0 249), (249, aLI 3 250), (250, aPI 1 251), (251, aB (fun x y => x + y) 252), (252, aIA 253), (253, aCV 11 1 C_X11_lose 256), (256, aCmp 257), (257, aIf (fun x => x = 0) 1460 260), (260, aPI 0 261), (261, aRZ), (262, aLA 1 263), (263, aLA 0 264), (264, aLI 3 265), (265, aPI 1 266), (266, aB (fun x y => x + y) 267), (267, aIA 268), (268, aLA 0 269), (269, aLI 3 270), (270, aPI 2 271), (271, aB (fun x y => x + y) 272), (272, aIA 273), (273, aLA 0 274), (274, aLI 3 275), (275, aPI 3 276), (276, aB (fun x y => x + y) 277), (277, aIA 278), (278, aCV 10 3 C_X10_pin 281), (281, aLA 2 282), (282, aLA 0 283), (283, aLI 3 284), (284, aPI 1 285), (285, aB (fun x y => x + y) 286), (286, aIA 287), (287, aLA 0 288), (288, aLI 3 289), (289, aPI 2 290), (290, aB (fun x y => x + y) 291), (291, aIA 292), (292, aLA 0 293), (293, aLI 3 294), (294, aPI 3 295), (295, aB (fun x y => x + y) 296), (296, aIA 297), (297, aCV 11 3 C_X11_pin 300), (300, aCmp 301), (301, aIf (fun x => x = 0) 1460 304), (304, aPI 0 305), (305, aRZ), (306, aLA 1 307), (307, aLA 0 308), (308, aLI 3 309), (309, aPI 1 310), (310, aB (fun x y => x + y) 311), (311, aIA 312), (312, aLA 0 313), (313, aLI 3 314), (314, aPI 2 315), (315, aB (fun x y => x + y) 316), (316, aIA 317), (317, aCV 10 2 C_X10_spans 320), (320, aLA 2 321), (321, aLA 0 322)]
theorem mt_L_law_c1 : mMT tb_L_law_c1 :=
  mF (mn_LA _ _) <|
  mF (mn_LA _ _) <|
  mF (mn_LI _ _) <|
  mF (mn_PI _ _) <|
  mF (mn_B _ _) <|
  mF (mn_IA _) <|
  mF (mn_CV _ _ mc_X10_lose _) <|
  mF (mn_LA _ _) <|
  mF (mn_LA _ _) <|
  mF (mn_LI _ _) <|
  mF (mn_PI _ _) <|
  mF (mn_B _ _) <|
  mF (mn_IA _) <|
  mF (mn_CV _ _ mc_X11_lose _) <|
  mF (mn_Cmp _) <|
  mF (mn_If _ _ _) <|
  mF (mn_PI _ _) <|
  mF (mn_RZ) <|
  mF (mn_LA _ _) <|
  mF (mn_LA _ _) <|
  mF (mn_LI _ _) <|
  mF (mn_PI _ _) <|
  mF (mn_B _ _) <|
  mF (mn_IA _) <|
  mF (mn_LA _ _) <|
  mF (mn_LI _ _) <|
  mF (mn_PI _ _) <|
  mF (mn_B _ _) <|
  mF (mn_IA _) <|
  mF (mn_LA _ _) <|
  mF (mn_LI _ _) <|
  mF (mn_PI _ _) <|
  mF (mn_B _ _) <|
  mF (mn_IA _) <|
  mF (mn_CV _ _ mc_X10_pin _) <|
  mF (mn_LA _ _) <|
  mF (mn_LA _ _) <|
  mF (mn_LI _ _) <|
  mF (mn_PI _ _) <|
  mF (mn_B _ _) <|
  mF (mn_IA _) <|
  mF (mn_LA _ _) <|
  mF (mn_LI _ _) <|
  mF (mn_PI _ _) <|
  mF (mn_B _ _) <|
  mF (mn_IA _) <|
  mF (mn_LA _ _) <|
  mF (mn_LI _ _) <|
  mF (mn_PI _ _) <|
  mF (mn_B _ _) <|
  mF (mn_IA _) <|
  mF (mn_CV _ _ mc_X11_pin _) <|
  mF (mn_Cmp _) <|
  mF (mn_If _ _ _) <|
  mF (mn_PI _ _) <|
  mF (mn_RZ) <|
  mF (mn_LA _ _) <|
  mF (mn_LA _ _) <|
  mF (mn_LI _ _) <|
  mF (mn_PI _ _) <|
  mF (mn_B _ _) <|
  mF (mn_IA _) <|
  mF (mn_LA _ _) <|
  mF (mn_LI _ _) <|
  mF (mn_PI _ _) <|
  mF (mn_B _ _) <|
  mF (mn_IA _) <|
  mF (mn_CV _ _ mc_X10_spans _) <|
  mF (mn_LA _ _) <|
  mF (mn_LA _ _) <|
  mF0
def tb_L_law_c2 : mTb := [(322, aLI 3 323), (323, aPI 1 324), (324, aB (fun x y => x + y) 325), (325, aIA 326), (326, aLA 0 327), (327, aLI 3 328), (328, aPI 2 329), (329, aB (fun x y => x + y) 330), (330, aIA 331), (331, aCV 11 2 C_X11_spans 334), (334, aCmp 335), (335, aIf (fun x => x = 0) 1460 338), (338, aPI 0 339), (339, aRZ), (340, aLA 1 341), (341, aLA 0 342), (342, aLI 3 343), (343, aPI 1 344), (344, aB (fun x y => x + y) 345), (345, aIA 346), (346, aLA 0 347), (347, aLI 3 348), (348, aPI 2 349), (349, aB (fun x y => x + y) 350), (350, aIA 351), (351, aLA 0 352), (352, aLI 3 353), (353, aPI 3 354), (354, aB (fun x y => x + y) 355), (355, aIA 356), (356, aLA 0 357), (357, aLI 3 358), (358, aPI 4 359), (359, aB (fun x y => x + y) 360), (360, aIA 361), (361, aCV 10 4 C_X10_span 364), (364, aLA 2 365), (365, aLA 0 366), (366, aLI 3 367), (367, aPI 1 368), (368, aB (fun x y => x + y) 369), (369, aIA 370), (370, aLA 0 371), (371, aLI 3 372), (372, aPI 2 373), (373, aB (fun x y => x + y) 374), (374, aIA 375), (375, aLA 0 376), (376, aLI 3 377), (377, aPI 3 378), (378, aB (fun x y => x + y) 379), (379, aIA 380), (380, aLA 0 381), (381, aLI 3 382), (382, aPI 4 383), (383, aB (fun x y => x + y) 384), (384, aIA 385), (385, aCV 11 4 C_X11_span 388), (388, aCmp 389), (389, aIf (fun x => x = 0) 1460 392), (392, aPI 0 393), (393, aRZ), (394, aLA 1 395), (395, aLA 0 396), (396, aLI 3 397), (397, aPI 1 398), (398, aB (fun x y => x + y) 399), (399, aIA 400), (400, aLA 0 401), (401, aLI 3 402)]
theorem mt_L_law_c2 : mMT tb_L_law_c2 :=
  mF (mn_LI _ _) <|
  mF (mn_PI _ _) <|
  mF (mn_B _ _) <|
  mF (mn_IA _) <|
  mF (mn_LA _ _) <|
  mF (mn_LI _ _) <|
  mF (mn_PI _ _) <|
  mF (mn_B _ _) <|
  mF (mn_IA _) <|
  mF (mn_CV _ _ mc_X11_spans _) <|
  mF (mn_Cmp _) <|
  mF (mn_If _ _ _) <|
  mF (mn_PI _ _) <|
  mF (mn_RZ) <|
  mF (mn_LA _ _) <|
  mF (mn_LA _ _) <|
  mF (mn_LI _ _) <|
  mF (mn_PI _ _) <|
  mF (mn_B _ _) <|
  mF (mn_IA _) <|
  mF (mn_LA _ _) <|
  mF (mn_LI _ _) <|
  mF (mn_PI _ _) <|
  mF (mn_B _ _) <|
  mF (mn_IA _) <|
  mF (mn_LA _ _) <|
  mF (mn_LI _ _) <|
  mF (mn_PI _ _) <|
  mF (mn_B _ _) <|
  mF (mn_IA _) <|
  mF (mn_LA _ _) <|
  mF (mn_LI _ _) <|
  mF (mn_PI _ _) <|
  mF (mn_B _ _) <|
  mF (mn_IA _) <|
  mF (mn_CV _ _ mc_X10_span _) <|
  mF (mn_LA _ _) <|
  mF (mn_LA _ _) <|
  mF (mn_LI _ _) <|
  mF (mn_PI _ _) <|
  mF (mn_B _ _) <|
  mF (mn_IA _) <|
  mF (mn_LA _ _) <|
  mF (mn_LI _ _) <|
  mF (mn_PI _ _) <|
  mF (mn_B _ _) <|
  mF (mn_IA _) <|
  mF (mn_LA _ _) <|
  mF (mn_LI _ _) <|
  mF (mn_PI _ _) <|
  mF (mn_B _ _) <|
  mF (mn_IA _) <|
  mF (mn_LA _ _) <|
  mF (mn_LI _ _) <|
  mF (mn_PI _ _) <|
  mF (mn_B _ _) <|
  mF (mn_IA _) <|
  mF (mn_CV _ _ mc_X11_span _) <|
  mF (mn_Cmp _) <|
  mF (mn_If _ _ _) <|
  mF (mn_PI _ _) <|
  mF (mn_RZ) <|
  mF (mn_LA _ _) <|
  mF (mn_LA _ _) <|
  mF (mn_LI _ _) <|
  mF (mn_PI _ _) <|
  mF (mn_B _ _) <|
  mF (mn_IA _) <|
  mF (mn_LA _ _) <|
  mF (mn_LI _ _) <|
  mF0
def tb_L_law_c3 : mTb := [(402, aPI 2 403), (403, aB (fun x y => x + y) 404), (404, aIA 405), (405, aLA 0 406), (406, aLI 3 407), (407, aPI 3 408), (408, aB (fun x y => x + y) 409), (409, aIA 410), (410, aLA 0 411), (411, aLI 3 412), (412, aPI 4 413), (413, aB (fun x y => x + y) 414), (414, aIA 415), (415, aCV 10 4 C_X10_cross 418), (418, aLA 2 419), (419, aLA 0 420), (420, aLI 3 421), (421, aPI 1 422), (422, aB (fun x y => x + y) 423), (423, aIA 424), (424, aLA 0 425), (425, aLI 3 426), (426, aPI 2 427), (427, aB (fun x y => x + y) 428), (428, aIA 429), (429, aLA 0 430), (430, aLI 3 431), (431, aPI 3 432), (432, aB (fun x y => x + y) 433), (433, aIA 434), (434, aLA 0 435), (435, aLI 3 436), (436, aPI 4 437), (437, aB (fun x y => x + y) 438), (438, aIA 439), (439, aCV 11 4 C_X11_cross 442), (442, aCmp 443), (443, aIf (fun x => x = 0) 1460 446), (446, aPI 0 447), (447, aRZ), (448, aLA 1 449), (449, aLA 0 450), (450, aLI 3 451), (451, aPI 1 452), (452, aB (fun x y => x + y) 453), (453, aIA 454), (454, aLA 0 455), (455, aLI 3 456), (456, aPI 2 457), (457, aB (fun x y => x + y) 458), (458, aIA 459), (459, aLA 0 460), (460, aLI 3 461), (461, aPI 3 462), (462, aB (fun x y => x + y) 463), (463, aIA 464), (464, aLA 0 465), (465, aLI 3 466), (466, aPI 4 467), (467, aB (fun x y => x + y) 468), (468, aIA 469), (469, aCV 10 4 C_X10_bar 472), (472, aLA 2 473), (473, aLA 0 474), (474, aLI 3 475), (475, aPI 1 476), (476, aB (fun x y => x + y) 477), (477, aIA 478), (478, aLA 0 479), (479, aLI 3 480)]
theorem mt_L_law_c3 : mMT tb_L_law_c3 :=
  mF (mn_PI _ _) <|
  mF (mn_B _ _) <|
  mF (mn_IA _) <|
  mF (mn_LA _ _) <|
  mF (mn_LI _ _) <|
  mF (mn_PI _ _) <|
  mF (mn_B _ _) <|
  mF (mn_IA _) <|
  mF (mn_LA _ _) <|
  mF (mn_LI _ _) <|
  mF (mn_PI _ _) <|
  mF (mn_B _ _) <|
  mF (mn_IA _) <|
  mF (mn_CV _ _ mc_X10_cross _) <|
  mF (mn_LA _ _) <|
  mF (mn_LA _ _) <|
  mF (mn_LI _ _) <|
  mF (mn_PI _ _) <|
  mF (mn_B _ _) <|
  mF (mn_IA _) <|
  mF (mn_LA _ _) <|
  mF (mn_LI _ _) <|
  mF (mn_PI _ _) <|
  mF (mn_B _ _) <|
  mF (mn_IA _) <|
  mF (mn_LA _ _) <|
  mF (mn_LI _ _) <|
  mF (mn_PI _ _) <|
  mF (mn_B _ _) <|
  mF (mn_IA _) <|
  mF (mn_LA _ _) <|
  mF (mn_LI _ _) <|
  mF (mn_PI _ _) <|
  mF (mn_B _ _) <|
  mF (mn_IA _) <|
  mF (mn_CV _ _ mc_X11_cross _) <|
  mF (mn_Cmp _) <|
  mF (mn_If _ _ _) <|
  mF (mn_PI _ _) <|
  mF (mn_RZ) <|
  mF (mn_LA _ _) <|
  mF (mn_LA _ _) <|
  mF (mn_LI _ _) <|
  mF (mn_PI _ _) <|
  mF (mn_B _ _) <|
  mF (mn_IA _) <|
  mF (mn_LA _ _) <|
  mF (mn_LI _ _) <|
  mF (mn_PI _ _) <|
  mF (mn_B _ _) <|
  mF (mn_IA _) <|
  mF (mn_LA _ _) <|
  mF (mn_LI _ _) <|
  mF (mn_PI _ _) <|
  mF (mn_B _ _) <|
  mF (mn_IA _) <|
  mF (mn_LA _ _) <|
  mF (mn_LI _ _) <|
  mF (mn_PI _ _) <|
  mF (mn_B _ _) <|
  mF (mn_IA _) <|
  mF (mn_CV _ _ mc_X10_bar _) <|
  mF (mn_LA _ _) <|
  mF (mn_LA _ _) <|
  mF (mn_LI _ _) <|
  mF (mn_PI _ _) <|
  mF (mn_B _ _) <|
  mF (mn_IA _) <|
  mF (mn_LA _ _) <|
  mF (mn_LI _ _) <|
  mF0
def tb_L_law_c4 : mTb := [(480, aPI 2 481), (481, aB (fun x y => x + y) 482), (482, aIA 483), (483, aLA 0 484), (484, aLI 3 485), (485, aPI 3 486), (486, aB (fun x y => x + y) 487), (487, aIA 488), (488, aLA 0 489), (489, aLI 3 490), (490, aPI 4 491), (491, aB (fun x y => x + y) 492), (492, aIA 493), (493, aCV 11 4 C_X11_bar 496), (496, aCmp 497), (497, aIf (fun x => x = 0) 1460 500), (500, aPI 0 501), (501, aRZ), (502, aLA 1 503), (503, aLA 0 504), (504, aLI 3 505), (505, aPI 1 506), (506, aB (fun x y => x + y) 507), (507, aIA 508), (508, aLA 0 509), (509, aLI 3 510), (510, aPI 2 511), (511, aB (fun x y => x + y) 512), (512, aIA 513), (513, aLA 0 514), (514, aLI 3 515), (515, aPI 3 516), (516, aB (fun x y => x + y) 517), (517, aIA 518), (518, aCV 10 3 C_X10_bend 521), (521, aLA 2 522), (522, aLA 0 523), (523, aLI 3 524), (524, aPI 1 525), (525, aB (fun x y => x + y) 526), (526, aIA 527), (527, aLA 0 528), (528, aLI 3 529), (529, aPI 2 530), (530, aB (fun x y => x + y) 531), (531, aIA 532), (532, aLA 0 533), (533, aLI 3 534), (534, aPI 3 535), (535, aB (fun x y => x + y) 536), (536, aIA 537), (537, aCV 11 3 C_X11_bend 540), (540, aCmp 541), (541, aIf (fun x => x = 0) 1460 544), (544, aPI 0 545), (545, aRZ), (546, aLA 1 547), (547, aLA 0 548), (548, aLI 3 549), (549, aPI 1 550), (550, aB (fun x y => x + y) 551), (551, aIA 552), (552, aLA 0 553), (553, aLI 3 554), (554, aPI 2 555), (555, aB (fun x y => x + y) 556), (556, aIA 557), (557, aCV 10 2 C_X10_hand 560), (560, aLA 2 561), (561, aLA 0 562)]
theorem mt_L_law_c4 : mMT tb_L_law_c4 :=
  mF (mn_PI _ _) <|
  mF (mn_B _ _) <|
  mF (mn_IA _) <|
  mF (mn_LA _ _) <|
  mF (mn_LI _ _) <|
  mF (mn_PI _ _) <|
  mF (mn_B _ _) <|
  mF (mn_IA _) <|
  mF (mn_LA _ _) <|
  mF (mn_LI _ _) <|
  mF (mn_PI _ _) <|
  mF (mn_B _ _) <|
  mF (mn_IA _) <|
  mF (mn_CV _ _ mc_X11_bar _) <|
  mF (mn_Cmp _) <|
  mF (mn_If _ _ _) <|
  mF (mn_PI _ _) <|
  mF (mn_RZ) <|
  mF (mn_LA _ _) <|
  mF (mn_LA _ _) <|
  mF (mn_LI _ _) <|
  mF (mn_PI _ _) <|
  mF (mn_B _ _) <|
  mF (mn_IA _) <|
  mF (mn_LA _ _) <|
  mF (mn_LI _ _) <|
  mF (mn_PI _ _) <|
  mF (mn_B _ _) <|
  mF (mn_IA _) <|
  mF (mn_LA _ _) <|
  mF (mn_LI _ _) <|
  mF (mn_PI _ _) <|
  mF (mn_B _ _) <|
  mF (mn_IA _) <|
  mF (mn_CV _ _ mc_X10_bend _) <|
  mF (mn_LA _ _) <|
  mF (mn_LA _ _) <|
  mF (mn_LI _ _) <|
  mF (mn_PI _ _) <|
  mF (mn_B _ _) <|
  mF (mn_IA _) <|
  mF (mn_LA _ _) <|
  mF (mn_LI _ _) <|
  mF (mn_PI _ _) <|
  mF (mn_B _ _) <|
  mF (mn_IA _) <|
  mF (mn_LA _ _) <|
  mF (mn_LI _ _) <|
  mF (mn_PI _ _) <|
  mF (mn_B _ _) <|
  mF (mn_IA _) <|
  mF (mn_CV _ _ mc_X11_bend _) <|
  mF (mn_Cmp _) <|
  mF (mn_If _ _ _) <|
  mF (mn_PI _ _) <|
  mF (mn_RZ) <|
  mF (mn_LA _ _) <|
  mF (mn_LA _ _) <|
  mF (mn_LI _ _) <|
  mF (mn_PI _ _) <|
  mF (mn_B _ _) <|
  mF (mn_IA _) <|
  mF (mn_LA _ _) <|
  mF (mn_LI _ _) <|
  mF (mn_PI _ _) <|
  mF (mn_B _ _) <|
  mF (mn_IA _) <|
  mF (mn_CV _ _ mc_X10_hand _) <|
  mF (mn_LA _ _) <|
  mF (mn_LA _ _) <|
  mF0
def tb_L_law_c5 : mTb := [(562, aLI 3 563), (563, aPI 1 564), (564, aB (fun x y => x + y) 565), (565, aIA 566), (566, aLA 0 567), (567, aLI 3 568), (568, aPI 2 569), (569, aB (fun x y => x + y) 570), (570, aIA 571), (571, aCV 11 2 C_X11_hand 574), (574, aCmp 575), (575, aIf (fun x => x = 0) 1460 578), (578, aPI 0 579), (579, aRZ), (580, aLA 1 581), (581, aLA 0 582), (582, aLI 3 583), (583, aPI 1 584), (584, aB (fun x y => x + y) 585), (585, aIA 586), (586, aLA 0 587), (587, aLI 3 588), (588, aPI 2 589), (589, aB (fun x y => x + y) 590), (590, aIA 591), (591, aCV 10 2 C_X10_about 594), (594, aLA 2 595), (595, aLA 0 596), (596, aLI 3 597), (597, aPI 1 598), (598, aB (fun x y => x + y) 599), (599, aIA 600), (600, aLA 0 601), (601, aLI 3 602), (602, aPI 2 603), (603, aB (fun x y => x + y) 604), (604, aIA 605), (605, aCV 11 2 C_X11_about 608), (608, aCmp 609), (609, aIf (fun x => x = 0) 1460 612), (612, aPI 0 613), (613, aRZ), (614, aLA 1 615), (615, aLA 0 616), (616, aLI 3 617), (617, aPI 1 618), (618, aB (fun x y => x + y) 619), (619, aIA 620), (620, aLA 0 621), (621, aLI 3 622), (622, aPI 2 623), (623, aB (fun x y => x + y) 624), (624, aIA 625), (625, aLA 0 626), (626, aLI 3 627), (627, aPI 3 628), (628, aB (fun x y => x + y) 629), (629, aIA 630), (630, aCV 10 3 C_X10_told 633), (633, aLA 2 634), (634, aLA 0 635), (635, aLI 3 636), (636, aPI 1 637), (637, aB (fun x y => x + y) 638), (638, aIA 639), (639, aLA 0 640), (640, aLI 3 641), (641, aPI 2 642), (642, aB (fun x y => x + y) 643), (643, aIA 644)]
theorem mt_L_law_c5 : mMT tb_L_law_c5 :=
  mF (mn_LI _ _) <|
  mF (mn_PI _ _) <|
  mF (mn_B _ _) <|
  mF (mn_IA _) <|
  mF (mn_LA _ _) <|
  mF (mn_LI _ _) <|
  mF (mn_PI _ _) <|
  mF (mn_B _ _) <|
  mF (mn_IA _) <|
  mF (mn_CV _ _ mc_X11_hand _) <|
  mF (mn_Cmp _) <|
  mF (mn_If _ _ _) <|
  mF (mn_PI _ _) <|
  mF (mn_RZ) <|
  mF (mn_LA _ _) <|
  mF (mn_LA _ _) <|
  mF (mn_LI _ _) <|
  mF (mn_PI _ _) <|
  mF (mn_B _ _) <|
  mF (mn_IA _) <|
  mF (mn_LA _ _) <|
  mF (mn_LI _ _) <|
  mF (mn_PI _ _) <|
  mF (mn_B _ _) <|
  mF (mn_IA _) <|
  mF (mn_CV _ _ mc_X10_about _) <|
  mF (mn_LA _ _) <|
  mF (mn_LA _ _) <|
  mF (mn_LI _ _) <|
  mF (mn_PI _ _) <|
  mF (mn_B _ _) <|
  mF (mn_IA _) <|
  mF (mn_LA _ _) <|
  mF (mn_LI _ _) <|
  mF (mn_PI _ _) <|
  mF (mn_B _ _) <|
  mF (mn_IA _) <|
  mF (mn_CV _ _ mc_X11_about _) <|
  mF (mn_Cmp _) <|
  mF (mn_If _ _ _) <|
  mF (mn_PI _ _) <|
  mF (mn_RZ) <|
  mF (mn_LA _ _) <|
  mF (mn_LA _ _) <|
  mF (mn_LI _ _) <|
  mF (mn_PI _ _) <|
  mF (mn_B _ _) <|
  mF (mn_IA _) <|
  mF (mn_LA _ _) <|
  mF (mn_LI _ _) <|
  mF (mn_PI _ _) <|
  mF (mn_B _ _) <|
  mF (mn_IA _) <|
  mF (mn_LA _ _) <|
  mF (mn_LI _ _) <|
  mF (mn_PI _ _) <|
  mF (mn_B _ _) <|
  mF (mn_IA _) <|
  mF (mn_CV _ _ mc_X10_told _) <|
  mF (mn_LA _ _) <|
  mF (mn_LA _ _) <|
  mF (mn_LI _ _) <|
  mF (mn_PI _ _) <|
  mF (mn_B _ _) <|
  mF (mn_IA _) <|
  mF (mn_LA _ _) <|
  mF (mn_LI _ _) <|
  mF (mn_PI _ _) <|
  mF (mn_B _ _) <|
  mF (mn_IA _) <|
  mF0
def tb_L_law_c6 : mTb := [(644, aLA 0 645), (645, aLI 3 646), (646, aPI 3 647), (647, aB (fun x y => x + y) 648), (648, aIA 649), (649, aCV 11 3 C_X11_told 652), (652, aCmp 653), (653, aIf (fun x => x = 0) 1460 656), (656, aPI 0 657), (657, aRZ), (658, aLA 1 659), (659, aLA 0 660), (660, aLI 3 661), (661, aPI 1 662), (662, aB (fun x y => x + y) 663), (663, aIA 664), (664, aLA 0 665), (665, aLI 3 666), (666, aPI 2 667), (667, aB (fun x y => x + y) 668), (668, aIA 669), (669, aLA 0 670), (670, aLI 3 671), (671, aPI 3 672), (672, aB (fun x y => x + y) 673), (673, aIA 674), (674, aLA 0 675), (675, aLI 3 676), (676, aPI 4 677), (677, aB (fun x y => x + y) 678), (678, aIA 679), (679, aCV 10 4 C_X10_at 682), (682, aLA 2 683), (683, aLA 0 684), (684, aLI 3 685), (685, aPI 1 686), (686, aB (fun x y => x + y) 687), (687, aIA 688), (688, aLA 0 689), (689, aLI 3 690), (690, aPI 2 691), (691, aB (fun x y => x + y) 692), (692, aIA 693), (693, aLA 0 694), (694, aLI 3 695), (695, aPI 3 696), (696, aB (fun x y => x + y) 697), (697, aIA 698), (698, aLA 0 699), (699, aLI 3 700), (700, aPI 4 701), (701, aB (fun x y => x + y) 702), (702, aIA 703), (703, aCV 11 4 C_X11_at 706), (706, aCmp 707), (707, aIf (fun x => x = 0) 1460 710), (710, aPI 0 711), (711, aRZ), (712, aLA 1 713), (713, aLA 0 714), (714, aLI 3 715), (715, aPI 1 716), (716, aB (fun x y => x + y) 717), (717, aIA 718), (718, aLA 0 719), (719, aLI 3 720), (720, aPI 2 721), (721, aB (fun x y => x + y) 722), (722, aIA 723), (723, aLA 0 724)]
theorem mt_L_law_c6 : mMT tb_L_law_c6 :=
  mF (mn_LA _ _) <|
  mF (mn_LI _ _) <|
  mF (mn_PI _ _) <|
  mF (mn_B _ _) <|
  mF (mn_IA _) <|
  mF (mn_CV _ _ mc_X11_told _) <|
  mF (mn_Cmp _) <|
  mF (mn_If _ _ _) <|
  mF (mn_PI _ _) <|
  mF (mn_RZ) <|
  mF (mn_LA _ _) <|
  mF (mn_LA _ _) <|
  mF (mn_LI _ _) <|
  mF (mn_PI _ _) <|
  mF (mn_B _ _) <|
  mF (mn_IA _) <|
  mF (mn_LA _ _) <|
  mF (mn_LI _ _) <|
  mF (mn_PI _ _) <|
  mF (mn_B _ _) <|
  mF (mn_IA _) <|
  mF (mn_LA _ _) <|
  mF (mn_LI _ _) <|
  mF (mn_PI _ _) <|
  mF (mn_B _ _) <|
  mF (mn_IA _) <|
  mF (mn_LA _ _) <|
  mF (mn_LI _ _) <|
  mF (mn_PI _ _) <|
  mF (mn_B _ _) <|
  mF (mn_IA _) <|
  mF (mn_CV _ _ mc_X10_at _) <|
  mF (mn_LA _ _) <|
  mF (mn_LA _ _) <|
  mF (mn_LI _ _) <|
  mF (mn_PI _ _) <|
  mF (mn_B _ _) <|
  mF (mn_IA _) <|
  mF (mn_LA _ _) <|
  mF (mn_LI _ _) <|
  mF (mn_PI _ _) <|
  mF (mn_B _ _) <|
  mF (mn_IA _) <|
  mF (mn_LA _ _) <|
  mF (mn_LI _ _) <|
  mF (mn_PI _ _) <|
  mF (mn_B _ _) <|
  mF (mn_IA _) <|
  mF (mn_LA _ _) <|
  mF (mn_LI _ _) <|
  mF (mn_PI _ _) <|
  mF (mn_B _ _) <|
  mF (mn_IA _) <|
  mF (mn_CV _ _ mc_X11_at _) <|
  mF (mn_Cmp _) <|
  mF (mn_If _ _ _) <|
  mF (mn_PI _ _) <|
  mF (mn_RZ) <|
  mF (mn_LA _ _) <|
  mF (mn_LA _ _) <|
  mF (mn_LI _ _) <|
  mF (mn_PI _ _) <|
  mF (mn_B _ _) <|
  mF (mn_IA _) <|
  mF (mn_LA _ _) <|
  mF (mn_LI _ _) <|
  mF (mn_PI _ _) <|
  mF (mn_B _ _) <|
  mF (mn_IA _) <|
  mF (mn_LA _ _) <|
  mF0
def tb_L_law_c7 : mTb := [(724, aLI 3 725), (725, aPI 3 726), (726, aB (fun x y => x + y) 727), (727, aIA 728), (728, aCV 10 3 C_X10_barAt 731), (731, aLA 2 732), (732, aLA 0 733), (733, aLI 3 734), (734, aPI 1 735), (735, aB (fun x y => x + y) 736), (736, aIA 737), (737, aLA 0 738), (738, aLI 3 739), (739, aPI 2 740), (740, aB (fun x y => x + y) 741), (741, aIA 742), (742, aLA 0 743), (743, aLI 3 744), (744, aPI 3 745), (745, aB (fun x y => x + y) 746), (746, aIA 747), (747, aCV 11 3 C_X11_barAt 750), (750, aCmp 751), (751, aIf (fun x => x = 0) 1460 754), (754, aPI 0 755), (755, aRZ), (756, aLA 1 757), (757, aLA 0 758), (758, aLI 3 759), (759, aPI 1 760), (760, aB (fun x y => x + y) 761), (761, aIA 762), (762, aLA 0 763), (763, aLI 3 764), (764, aPI 2 765), (765, aB (fun x y => x + y) 766), (766, aIA 767), (767, aLA 0 768), (768, aLI 3 769), (769, aPI 3 770), (770, aB (fun x y => x + y) 771), (771, aIA 772), (772, aLA 0 773), (773, aLI 3 774), (774, aPI 4 775), (775, aB (fun x y => x + y) 776), (776, aIA 777), (777, aLA 0 778), (778, aLI 3 779), (779, aPI 5 780), (780, aB (fun x y => x + y) 781), (781, aIA 782), (782, aCV 10 5 C_X10_hold 785), (785, aLA 2 786), (786, aLA 0 787), (787, aLI 3 788), (788, aPI 1 789), (789, aB (fun x y => x + y) 790), (790, aIA 791), (791, aLA 0 792), (792, aLI 3 793), (793, aPI 2 794), (794, aB (fun x y => x + y) 795), (795, aIA 796), (796, aLA 0 797), (797, aLI 3 798), (798, aPI 3 799), (799, aB (fun x y => x + y) 800), (800, aIA 801), (801, aLA 0 802)]
theorem mt_L_law_c7 : mMT tb_L_law_c7 :=
  mF (mn_LI _ _) <|
  mF (mn_PI _ _) <|
  mF (mn_B _ _) <|
  mF (mn_IA _) <|
  mF (mn_CV _ _ mc_X10_barAt _) <|
  mF (mn_LA _ _) <|
  mF (mn_LA _ _) <|
  mF (mn_LI _ _) <|
  mF (mn_PI _ _) <|
  mF (mn_B _ _) <|
  mF (mn_IA _) <|
  mF (mn_LA _ _) <|
  mF (mn_LI _ _) <|
  mF (mn_PI _ _) <|
  mF (mn_B _ _) <|
  mF (mn_IA _) <|
  mF (mn_LA _ _) <|
  mF (mn_LI _ _) <|
  mF (mn_PI _ _) <|
  mF (mn_B _ _) <|
  mF (mn_IA _) <|
  mF (mn_CV _ _ mc_X11_barAt _) <|
  mF (mn_Cmp _) <|
  mF (mn_If _ _ _) <|
  mF (mn_PI _ _) <|
  mF (mn_RZ) <|
  mF (mn_LA _ _) <|
  mF (mn_LA _ _) <|
  mF (mn_LI _ _) <|
  mF (mn_PI _ _) <|
  mF (mn_B _ _) <|
  mF (mn_IA _) <|
  mF (mn_LA _ _) <|
  mF (mn_LI _ _) <|
  mF (mn_PI _ _) <|
  mF (mn_B _ _) <|
  mF (mn_IA _) <|
  mF (mn_LA _ _) <|
  mF (mn_LI _ _) <|
  mF (mn_PI _ _) <|
  mF (mn_B _ _) <|
  mF (mn_IA _) <|
  mF (mn_LA _ _) <|
  mF (mn_LI _ _) <|
  mF (mn_PI _ _) <|
  mF (mn_B _ _) <|
  mF (mn_IA _) <|
  mF (mn_LA _ _) <|
  mF (mn_LI _ _) <|
  mF (mn_PI _ _) <|
  mF (mn_B _ _) <|
  mF (mn_IA _) <|
  mF (mn_CV _ _ mc_X10_hold _) <|
  mF (mn_LA _ _) <|
  mF (mn_LA _ _) <|
  mF (mn_LI _ _) <|
  mF (mn_PI _ _) <|
  mF (mn_B _ _) <|
  mF (mn_IA _) <|
  mF (mn_LA _ _) <|
  mF (mn_LI _ _) <|
  mF (mn_PI _ _) <|
  mF (mn_B _ _) <|
  mF (mn_IA _) <|
  mF (mn_LA _ _) <|
  mF (mn_LI _ _) <|
  mF (mn_PI _ _) <|
  mF (mn_B _ _) <|
  mF (mn_IA _) <|
  mF (mn_LA _ _) <|
  mF0
def tb_L_law_c8 : mTb := [(802, aLI 3 803), (803, aPI 4 804), (804, aB (fun x y => x + y) 805), (805, aIA 806), (806, aLA 0 807), (807, aLI 3 808), (808, aPI 5 809), (809, aB (fun x y => x + y) 810), (810, aIA 811), (811, aCV 11 5 C_X11_hold 814), (814, aCmp 815), (815, aIf (fun x => x = 0) 1460 818), (818, aPI 0 819), (819, aRZ), (820, aLA 1 821), (821, aLA 0 822), (822, aLI 3 823), (823, aPI 1 824), (824, aB (fun x y => x + y) 825), (825, aIA 826), (826, aLA 0 827), (827, aLI 3 828), (828, aPI 2 829), (829, aB (fun x y => x + y) 830), (830, aIA 831), (831, aCV 10 2 C_X10_drop 834), (834, aLA 2 835), (835, aLA 0 836), (836, aLI 3 837), (837, aPI 1 838), (838, aB (fun x y => x + y) 839), (839, aIA 840), (840, aLA 0 841), (841, aLI 3 842), (842, aPI 2 843), (843, aB (fun x y => x + y) 844), (844, aIA 845), (845, aCV 11 2 C_X11_drop 848), (848, aCmp 849), (849, aIf (fun x => x = 0) 1460 852), (852, aPI 0 853), (853, aRZ), (854, aLA 1 855), (855, aLA 0 856), (856, aLI 3 857), (857, aPI 1 858), (858, aB (fun x y => x + y) 859), (859, aIA 860), (860, aLA 0 861), (861, aLI 3 862), (862, aPI 2 863), (863, aB (fun x y => x + y) 864), (864, aIA 865), (865, aLA 0 866), (866, aLI 3 867), (867, aPI 3 868), (868, aB (fun x y => x + y) 869), (869, aIA 870), (870, aCV 10 3 C_X10_pluck 873), (873, aLA 2 874), (874, aLA 0 875), (875, aLI 3 876), (876, aPI 1 877), (877, aB (fun x y => x + y) 878), (878, aIA 879), (879, aLA 0 880), (880, aLI 3 881), (881, aPI 2 882), (882, aB (fun x y => x + y) 883), (883, aIA 884)]
theorem mt_L_law_c8 : mMT tb_L_law_c8 :=
  mF (mn_LI _ _) <|
  mF (mn_PI _ _) <|
  mF (mn_B _ _) <|
  mF (mn_IA _) <|
  mF (mn_LA _ _) <|
  mF (mn_LI _ _) <|
  mF (mn_PI _ _) <|
  mF (mn_B _ _) <|
  mF (mn_IA _) <|
  mF (mn_CV _ _ mc_X11_hold _) <|
  mF (mn_Cmp _) <|
  mF (mn_If _ _ _) <|
  mF (mn_PI _ _) <|
  mF (mn_RZ) <|
  mF (mn_LA _ _) <|
  mF (mn_LA _ _) <|
  mF (mn_LI _ _) <|
  mF (mn_PI _ _) <|
  mF (mn_B _ _) <|
  mF (mn_IA _) <|
  mF (mn_LA _ _) <|
  mF (mn_LI _ _) <|
  mF (mn_PI _ _) <|
  mF (mn_B _ _) <|
  mF (mn_IA _) <|
  mF (mn_CV _ _ mc_X10_drop _) <|
  mF (mn_LA _ _) <|
  mF (mn_LA _ _) <|
  mF (mn_LI _ _) <|
  mF (mn_PI _ _) <|
  mF (mn_B _ _) <|
  mF (mn_IA _) <|
  mF (mn_LA _ _) <|
  mF (mn_LI _ _) <|
  mF (mn_PI _ _) <|
  mF (mn_B _ _) <|
  mF (mn_IA _) <|
  mF (mn_CV _ _ mc_X11_drop _) <|
  mF (mn_Cmp _) <|
  mF (mn_If _ _ _) <|
  mF (mn_PI _ _) <|
  mF (mn_RZ) <|
  mF (mn_LA _ _) <|
  mF (mn_LA _ _) <|
  mF (mn_LI _ _) <|
  mF (mn_PI _ _) <|
  mF (mn_B _ _) <|
  mF (mn_IA _) <|
  mF (mn_LA _ _) <|
  mF (mn_LI _ _) <|
  mF (mn_PI _ _) <|
  mF (mn_B _ _) <|
  mF (mn_IA _) <|
  mF (mn_LA _ _) <|
  mF (mn_LI _ _) <|
  mF (mn_PI _ _) <|
  mF (mn_B _ _) <|
  mF (mn_IA _) <|
  mF (mn_CV _ _ mc_X10_pluck _) <|
  mF (mn_LA _ _) <|
  mF (mn_LA _ _) <|
  mF (mn_LI _ _) <|
  mF (mn_PI _ _) <|
  mF (mn_B _ _) <|
  mF (mn_IA _) <|
  mF (mn_LA _ _) <|
  mF (mn_LI _ _) <|
  mF (mn_PI _ _) <|
  mF (mn_B _ _) <|
  mF (mn_IA _) <|
  mF0
def tb_L_law_c9 : mTb := [(884, aLA 0 885), (885, aLI 3 886), (886, aPI 3 887), (887, aB (fun x y => x + y) 888), (888, aIA 889), (889, aCV 11 3 C_X11_pluck 892), (892, aCmp 893), (893, aIf (fun x => x = 0) 1460 896), (896, aPI 0 897), (897, aRZ), (898, aLA 1 899), (899, aLA 0 900), (900, aLI 3 901), (901, aPI 1 902), (902, aB (fun x y => x + y) 903), (903, aIA 904), (904, aLA 0 905), (905, aLI 3 906), (906, aPI 2 907), (907, aB (fun x y => x + y) 908), (908, aIA 909), (909, aLA 0 910), (910, aLI 3 911), (911, aPI 3 912), (912, aB (fun x y => x + y) 913), (913, aIA 914), (914, aCV 10 3 C_X10_holds 917), (917, aLA 2 918), (918, aLA 0 919), (919, aLI 3 920), (920, aPI 1 921), (921, aB (fun x y => x + y) 922), (922, aIA 923), (923, aLA 0 924), (924, aLI 3 925), (925, aPI 2 926), (926, aB (fun x y => x + y) 927), (927, aIA 928), (928, aLA 0 929), (929, aLI 3 930), (930, aPI 3 931), (931, aB (fun x y => x + y) 932), (932, aIA 933), (933, aCV 11 3 C_X11_holds 936), (936, aCmp 937), (937, aIf (fun x => x = 0) 1460 940), (940, aPI 0 941), (941, aRZ), (942, aLA 1 943), (943, aLA 0 944), (944, aLI 3 945), (945, aPI 1 946), (946, aB (fun x y => x + y) 947), (947, aIA 948), (948, aLA 0 949), (949, aLI 3 950), (950, aPI 2 951), (951, aB (fun x y => x + y) 952), (952, aIA 953), (953, aLA 0 954), (954, aLI 3 955), (955, aPI 3 956), (956, aB (fun x y => x + y) 957), (957, aIA 958), (958, aCV 10 3 C_X10_isOf 961), (961, aLA 2 962), (962, aLA 0 963), (963, aLI 3 964), (964, aPI 1 965), (965, aB (fun x y => x + y) 966)]
theorem mt_L_law_c9 : mMT tb_L_law_c9 :=
  mF (mn_LA _ _) <|
  mF (mn_LI _ _) <|
  mF (mn_PI _ _) <|
  mF (mn_B _ _) <|
  mF (mn_IA _) <|
  mF (mn_CV _ _ mc_X11_pluck _) <|
  mF (mn_Cmp _) <|
  mF (mn_If _ _ _) <|
  mF (mn_PI _ _) <|
  mF (mn_RZ) <|
  mF (mn_LA _ _) <|
  mF (mn_LA _ _) <|
  mF (mn_LI _ _) <|
  mF (mn_PI _ _) <|
  mF (mn_B _ _) <|
  mF (mn_IA _) <|
  mF (mn_LA _ _) <|
  mF (mn_LI _ _) <|
  mF (mn_PI _ _) <|
  mF (mn_B _ _) <|
  mF (mn_IA _) <|
  mF (mn_LA _ _) <|
  mF (mn_LI _ _) <|
  mF (mn_PI _ _) <|
  mF (mn_B _ _) <|
  mF (mn_IA _) <|
  mF (mn_CV _ _ mc_X10_holds _) <|
  mF (mn_LA _ _) <|
  mF (mn_LA _ _) <|
  mF (mn_LI _ _) <|
  mF (mn_PI _ _) <|
  mF (mn_B _ _) <|
  mF (mn_IA _) <|
  mF (mn_LA _ _) <|
  mF (mn_LI _ _) <|
  mF (mn_PI _ _) <|
  mF (mn_B _ _) <|
  mF (mn_IA _) <|
  mF (mn_LA _ _) <|
  mF (mn_LI _ _) <|
  mF (mn_PI _ _) <|
  mF (mn_B _ _) <|
  mF (mn_IA _) <|
  mF (mn_CV _ _ mc_X11_holds _) <|
  mF (mn_Cmp _) <|
  mF (mn_If _ _ _) <|
  mF (mn_PI _ _) <|
  mF (mn_RZ) <|
  mF (mn_LA _ _) <|
  mF (mn_LA _ _) <|
  mF (mn_LI _ _) <|
  mF (mn_PI _ _) <|
  mF (mn_B _ _) <|
  mF (mn_IA _) <|
  mF (mn_LA _ _) <|
  mF (mn_LI _ _) <|
  mF (mn_PI _ _) <|
  mF (mn_B _ _) <|
  mF (mn_IA _) <|
  mF (mn_LA _ _) <|
  mF (mn_LI _ _) <|
  mF (mn_PI _ _) <|
  mF (mn_B _ _) <|
  mF (mn_IA _) <|
  mF (mn_CV _ _ mc_X10_isOf _) <|
  mF (mn_LA _ _) <|
  mF (mn_LA _ _) <|
  mF (mn_LI _ _) <|
  mF (mn_PI _ _) <|
  mF (mn_B _ _) <|
  mF0
def tb_L_law_c10 : mTb := [(966, aIA 967), (967, aLA 0 968), (968, aLI 3 969), (969, aPI 2 970), (970, aB (fun x y => x + y) 971), (971, aIA 972), (972, aLA 0 973), (973, aLI 3 974), (974, aPI 3 975), (975, aB (fun x y => x + y) 976), (976, aIA 977), (977, aCV 11 3 C_X11_isOf 980), (980, aCmp 981), (981, aIf (fun x => x = 0) 1460 984), (984, aPI 0 985), (985, aRZ), (986, aLA 1 987), (987, aLA 0 988), (988, aLI 3 989), (989, aPI 1 990), (990, aB (fun x y => x + y) 991), (991, aIA 992), (992, aLA 0 993), (993, aLI 3 994), (994, aPI 2 995), (995, aB (fun x y => x + y) 996), (996, aIA 997), (997, aCV 10 2 C_X10_lies 1000), (1000, aLA 2 1001), (1001, aLA 0 1002), (1002, aLI 3 1003), (1003, aPI 1 1004), (1004, aB (fun x y => x + y) 1005), (1005, aIA 1006), (1006, aLA 0 1007), (1007, aLI 3 1008), (1008, aPI 2 1009), (1009, aB (fun x y => x + y) 1010), (1010, aIA 1011), (1011, aCV 11 2 C_X11_lies 1014), (1014, aCmp 1015), (1015, aIf (fun x => x = 0) 1460 1018), (1018, aPI 0 1019), (1019, aRZ), (1020, aLA 1 1021), (1021, aLA 0 1022), (1022, aLI 3 1023), (1023, aPI 1 1024), (1024, aB (fun x y => x + y) 1025), (1025, aIA 1026), (1026, aCV 10 1 C_X10_why 1029), (1029, aLA 2 1030), (1030, aLA 0 1031), (1031, aLI 3 1032), (1032, aPI 1 1033), (1033, aB (fun x y => x + y) 1034), (1034, aIA 1035), (1035, aCV 11 1 C_X11_why 1038), (1038, aCmp 1039), (1039, aIf (fun x => x = 0) 1460 1042), (1042, aPI 0 1043), (1043, aRZ), (1044, aLA 1 1045), (1045, aLA 0 1046), (1046, aLI 3 1047), (1047, aPI 1 1048), (1048, aB (fun x y => x + y) 1049), (1049, aIA 1050), (1050, aLA 0 1051), (1051, aLI 3 1052)]
theorem mt_L_law_c10 : mMT tb_L_law_c10 :=
  mF (mn_IA _) <|
  mF (mn_LA _ _) <|
  mF (mn_LI _ _) <|
  mF (mn_PI _ _) <|
  mF (mn_B _ _) <|
  mF (mn_IA _) <|
  mF (mn_LA _ _) <|
  mF (mn_LI _ _) <|
  mF (mn_PI _ _) <|
  mF (mn_B _ _) <|
  mF (mn_IA _) <|
  mF (mn_CV _ _ mc_X11_isOf _) <|
  mF (mn_Cmp _) <|
  mF (mn_If _ _ _) <|
  mF (mn_PI _ _) <|
  mF (mn_RZ) <|
  mF (mn_LA _ _) <|
  mF (mn_LA _ _) <|
  mF (mn_LI _ _) <|
  mF (mn_PI _ _) <|
  mF (mn_B _ _) <|
  mF (mn_IA _) <|
  mF (mn_LA _ _) <|
  mF (mn_LI _ _) <|
  mF (mn_PI _ _) <|
  mF (mn_B _ _) <|
  mF (mn_IA _) <|
  mF (mn_CV _ _ mc_X10_lies _) <|
  mF (mn_LA _ _) <|
  mF (mn_LA _ _) <|
  mF (mn_LI _ _) <|
  mF (mn_PI _ _) <|
  mF (mn_B _ _) <|
  mF (mn_IA _) <|
  mF (mn_LA _ _) <|
  mF (mn_LI _ _) <|
  mF (mn_PI _ _) <|
  mF (mn_B _ _) <|
  mF (mn_IA _) <|
  mF (mn_CV _ _ mc_X11_lies _) <|
  mF (mn_Cmp _) <|
  mF (mn_If _ _ _) <|
  mF (mn_PI _ _) <|
  mF (mn_RZ) <|
  mF (mn_LA _ _) <|
  mF (mn_LA _ _) <|
  mF (mn_LI _ _) <|
  mF (mn_PI _ _) <|
  mF (mn_B _ _) <|
  mF (mn_IA _) <|
  mF (mn_CV _ _ mc_X10_why _) <|
  mF (mn_LA _ _) <|
  mF (mn_LA _ _) <|
  mF (mn_LI _ _) <|
  mF (mn_PI _ _) <|
  mF (mn_B _ _) <|
  mF (mn_IA _) <|
  mF (mn_CV _ _ mc_X11_why _) <|
  mF (mn_Cmp _) <|
  mF (mn_If _ _ _) <|
  mF (mn_PI _ _) <|
  mF (mn_RZ) <|
  mF (mn_LA _ _) <|
  mF (mn_LA _ _) <|
  mF (mn_LI _ _) <|
  mF (mn_PI _ _) <|
  mF (mn_B _ _) <|
  mF (mn_IA _) <|
  mF (mn_LA _ _) <|
  mF (mn_LI _ _) <|
  mF0
def tb_L_law_c11 : mTb := [(1052, aPI 2 1053), (1053, aB (fun x y => x + y) 1054), (1054, aIA 1055), (1055, aCV 10 2 C_X10_rest 1058), (1058, aLA 2 1059), (1059, aLA 0 1060), (1060, aLI 3 1061), (1061, aPI 1 1062), (1062, aB (fun x y => x + y) 1063), (1063, aIA 1064), (1064, aLA 0 1065), (1065, aLI 3 1066), (1066, aPI 2 1067), (1067, aB (fun x y => x + y) 1068), (1068, aIA 1069), (1069, aCV 11 2 C_X11_rest 1072), (1072, aCmp 1073), (1073, aIf (fun x => x = 0) 1460 1076), (1076, aPI 0 1077), (1077, aRZ), (1078, aLA 1 1079), (1079, aLA 0 1080), (1080, aLI 3 1081), (1081, aPI 1 1082), (1082, aB (fun x y => x + y) 1083), (1083, aIA 1084), (1084, aCV 10 1 C_X10_isStill 1087), (1087, aLA 2 1088), (1088, aLA 0 1089), (1089, aLI 3 1090), (1090, aPI 1 1091), (1091, aB (fun x y => x + y) 1092), (1092, aIA 1093), (1093, aCV 11 1 C_X11_isStill 1096), (1096, aCmp 1097), (1097, aIf (fun x => x = 0) 1460 1100), (1100, aPI 0 1101), (1101, aRZ), (1102, aLA 1 1103), (1103, aLA 0 1104), (1104, aLI 3 1105), (1105, aPI 1 1106), (1106, aB (fun x y => x + y) 1107), (1107, aIA 1108), (1108, aCV 10 1 C_X10_lowest 1111), (1111, aLA 2 1112), (1112, aLA 0 1113), (1113, aLI 3 1114), (1114, aPI 1 1115), (1115, aB (fun x y => x + y) 1116), (1116, aIA 1117), (1117, aCV 11 1 C_X11_lowest 1120), (1120, aCmp 1121), (1121, aIf (fun x => x = 0) 1460 1124), (1124, aPI 0 1125), (1125, aRZ), (1126, aLA 1 1127), (1127, aLA 0 1128), (1128, aLI 3 1129), (1129, aPI 1 1130), (1130, aB (fun x y => x + y) 1131), (1131, aIA 1132), (1132, aLA 0 1133), (1133, aLI 3 1134), (1134, aPI 2 1135), (1135, aB (fun x y => x + y) 1136), (1136, aIA 1137), (1137, aLA 0 1138), (1138, aLI 3 1139), (1139, aPI 3 1140)]
theorem mt_L_law_c11 : mMT tb_L_law_c11 :=
  mF (mn_PI _ _) <|
  mF (mn_B _ _) <|
  mF (mn_IA _) <|
  mF (mn_CV _ _ mc_X10_rest _) <|
  mF (mn_LA _ _) <|
  mF (mn_LA _ _) <|
  mF (mn_LI _ _) <|
  mF (mn_PI _ _) <|
  mF (mn_B _ _) <|
  mF (mn_IA _) <|
  mF (mn_LA _ _) <|
  mF (mn_LI _ _) <|
  mF (mn_PI _ _) <|
  mF (mn_B _ _) <|
  mF (mn_IA _) <|
  mF (mn_CV _ _ mc_X11_rest _) <|
  mF (mn_Cmp _) <|
  mF (mn_If _ _ _) <|
  mF (mn_PI _ _) <|
  mF (mn_RZ) <|
  mF (mn_LA _ _) <|
  mF (mn_LA _ _) <|
  mF (mn_LI _ _) <|
  mF (mn_PI _ _) <|
  mF (mn_B _ _) <|
  mF (mn_IA _) <|
  mF (mn_CV _ _ mc_X10_isStill _) <|
  mF (mn_LA _ _) <|
  mF (mn_LA _ _) <|
  mF (mn_LI _ _) <|
  mF (mn_PI _ _) <|
  mF (mn_B _ _) <|
  mF (mn_IA _) <|
  mF (mn_CV _ _ mc_X11_isStill _) <|
  mF (mn_Cmp _) <|
  mF (mn_If _ _ _) <|
  mF (mn_PI _ _) <|
  mF (mn_RZ) <|
  mF (mn_LA _ _) <|
  mF (mn_LA _ _) <|
  mF (mn_LI _ _) <|
  mF (mn_PI _ _) <|
  mF (mn_B _ _) <|
  mF (mn_IA _) <|
  mF (mn_CV _ _ mc_X10_lowest _) <|
  mF (mn_LA _ _) <|
  mF (mn_LA _ _) <|
  mF (mn_LI _ _) <|
  mF (mn_PI _ _) <|
  mF (mn_B _ _) <|
  mF (mn_IA _) <|
  mF (mn_CV _ _ mc_X11_lowest _) <|
  mF (mn_Cmp _) <|
  mF (mn_If _ _ _) <|
  mF (mn_PI _ _) <|
  mF (mn_RZ) <|
  mF (mn_LA _ _) <|
  mF (mn_LA _ _) <|
  mF (mn_LI _ _) <|
  mF (mn_PI _ _) <|
  mF (mn_B _ _) <|
  mF (mn_IA _) <|
  mF (mn_LA _ _) <|
  mF (mn_LI _ _) <|
  mF (mn_PI _ _) <|
  mF (mn_B _ _) <|
  mF (mn_IA _) <|
  mF (mn_LA _ _) <|
  mF (mn_LI _ _) <|
  mF (mn_PI _ _) <|
  mF0
def tb_L_law_c12 : mTb := [(1140, aB (fun x y => x + y) 1141), (1141, aIA 1142), (1142, aLA 0 1143), (1143, aLI 3 1144), (1144, aPI 4 1145), (1145, aB (fun x y => x + y) 1146), (1146, aIA 1147), (1147, aCV 10 4 C_X10_tick 1150), (1150, aLA 2 1151), (1151, aLA 0 1152), (1152, aLI 3 1153), (1153, aPI 1 1154), (1154, aB (fun x y => x + y) 1155), (1155, aIA 1156), (1156, aLA 0 1157), (1157, aLI 3 1158), (1158, aPI 2 1159), (1159, aB (fun x y => x + y) 1160), (1160, aIA 1161), (1161, aLA 0 1162), (1162, aLI 3 1163), (1163, aPI 3 1164), (1164, aB (fun x y => x + y) 1165), (1165, aIA 1166), (1166, aLA 0 1167), (1167, aLI 3 1168), (1168, aPI 4 1169), (1169, aB (fun x y => x + y) 1170), (1170, aIA 1171), (1171, aCV 11 4 C_X11_tick 1174), (1174, aCmp 1175), (1175, aIf (fun x => x = 0) 1460 1178), (1178, aPI 0 1179), (1179, aRZ), (1180, aLA 1 1181), (1181, aLA 0 1182), (1182, aLI 3 1183), (1183, aPI 1 1184), (1184, aB (fun x y => x + y) 1185), (1185, aIA 1186), (1186, aCV 10 1 C_X10_calm 1189), (1189, aLA 2 1190), (1190, aLA 0 1191), (1191, aLI 3 1192), (1192, aPI 1 1193), (1193, aB (fun x y => x + y) 1194), (1194, aIA 1195), (1195, aCV 11 1 C_X11_calm 1198), (1198, aCmp 1199), (1199, aIf (fun x => x = 0) 1460 1202), (1202, aPI 0 1203), (1203, aRZ), (1204, aLA 1 1205), (1205, aLA 0 1206), (1206, aLI 3 1207), (1207, aPI 1 1208), (1208, aB (fun x y => x + y) 1209), (1209, aIA 1210), (1210, aLA 0 1211), (1211, aLI 3 1212), (1212, aPI 2 1213), (1213, aB (fun x y => x + y) 1214), (1214, aIA 1215), (1215, aCV 10 2 C_X10_play 1218), (1218, aLA 2 1219), (1219, aLA 0 1220), (1220, aLI 3 1221), (1221, aPI 1 1222), (1222, aB (fun x y => x + y) 1223), (1223, aIA 1224)]
theorem mt_L_law_c12 : mMT tb_L_law_c12 :=
  mF (mn_B _ _) <|
  mF (mn_IA _) <|
  mF (mn_LA _ _) <|
  mF (mn_LI _ _) <|
  mF (mn_PI _ _) <|
  mF (mn_B _ _) <|
  mF (mn_IA _) <|
  mF (mn_CV _ _ mc_X10_tick _) <|
  mF (mn_LA _ _) <|
  mF (mn_LA _ _) <|
  mF (mn_LI _ _) <|
  mF (mn_PI _ _) <|
  mF (mn_B _ _) <|
  mF (mn_IA _) <|
  mF (mn_LA _ _) <|
  mF (mn_LI _ _) <|
  mF (mn_PI _ _) <|
  mF (mn_B _ _) <|
  mF (mn_IA _) <|
  mF (mn_LA _ _) <|
  mF (mn_LI _ _) <|
  mF (mn_PI _ _) <|
  mF (mn_B _ _) <|
  mF (mn_IA _) <|
  mF (mn_LA _ _) <|
  mF (mn_LI _ _) <|
  mF (mn_PI _ _) <|
  mF (mn_B _ _) <|
  mF (mn_IA _) <|
  mF (mn_CV _ _ mc_X11_tick _) <|
  mF (mn_Cmp _) <|
  mF (mn_If _ _ _) <|
  mF (mn_PI _ _) <|
  mF (mn_RZ) <|
  mF (mn_LA _ _) <|
  mF (mn_LA _ _) <|
  mF (mn_LI _ _) <|
  mF (mn_PI _ _) <|
  mF (mn_B _ _) <|
  mF (mn_IA _) <|
  mF (mn_CV _ _ mc_X10_calm _) <|
  mF (mn_LA _ _) <|
  mF (mn_LA _ _) <|
  mF (mn_LI _ _) <|
  mF (mn_PI _ _) <|
  mF (mn_B _ _) <|
  mF (mn_IA _) <|
  mF (mn_CV _ _ mc_X11_calm _) <|
  mF (mn_Cmp _) <|
  mF (mn_If _ _ _) <|
  mF (mn_PI _ _) <|
  mF (mn_RZ) <|
  mF (mn_LA _ _) <|
  mF (mn_LA _ _) <|
  mF (mn_LI _ _) <|
  mF (mn_PI _ _) <|
  mF (mn_B _ _) <|
  mF (mn_IA _) <|
  mF (mn_LA _ _) <|
  mF (mn_LI _ _) <|
  mF (mn_PI _ _) <|
  mF (mn_B _ _) <|
  mF (mn_IA _) <|
  mF (mn_CV _ _ mc_X10_play _) <|
  mF (mn_LA _ _) <|
  mF (mn_LA _ _) <|
  mF (mn_LI _ _) <|
  mF (mn_PI _ _) <|
  mF (mn_B _ _) <|
  mF (mn_IA _) <|
  mF0
def tb_L_law_c13 : mTb := [(1224, aLA 0 1225), (1225, aLI 3 1226), (1226, aPI 2 1227), (1227, aB (fun x y => x + y) 1228), (1228, aIA 1229), (1229, aCV 11 2 C_X11_play 1232), (1232, aCmp 1233), (1233, aIf (fun x => x = 0) 1460 1236), (1236, aPI 0 1237), (1237, aRZ), (1238, aLA 1 1239), (1239, aLA 0 1240), (1240, aLI 3 1241), (1241, aPI 1 1242), (1242, aB (fun x y => x + y) 1243), (1243, aIA 1244), (1244, aLA 0 1245), (1245, aLI 3 1246), (1246, aPI 2 1247), (1247, aB (fun x y => x + y) 1248), (1248, aIA 1249), (1249, aLA 0 1250), (1250, aLI 3 1251), (1251, aPI 3 1252), (1252, aB (fun x y => x + y) 1253), (1253, aIA 1254), (1254, aCV 10 3 C_X10_pose 1257), (1257, aLA 2 1258), (1258, aLA 0 1259), (1259, aLI 3 1260), (1260, aPI 1 1261), (1261, aB (fun x y => x + y) 1262), (1262, aIA 1263), (1263, aLA 0 1264), (1264, aLI 3 1265), (1265, aPI 2 1266), (1266, aB (fun x y => x + y) 1267), (1267, aIA 1268), (1268, aLA 0 1269), (1269, aLI 3 1270), (1270, aPI 3 1271), (1271, aB (fun x y => x + y) 1272), (1272, aIA 1273), (1273, aCV 11 3 C_X11_pose 1276), (1276, aCmp 1277), (1277, aIf (fun x => x = 0) 1460 1280), (1280, aPI 0 1281), (1281, aRZ), (1282, aLA 1 1283), (1283, aLA 0 1284), (1284, aLI 3 1285), (1285, aPI 1 1286), (1286, aB (fun x y => x + y) 1287), (1287, aIA 1288), (1288, aCV 10 1 C_X10_round 1291), (1291, aLA 2 1292), (1292, aLA 0 1293), (1293, aLI 3 1294), (1294, aPI 1 1295), (1295, aB (fun x y => x + y) 1296), (1296, aIA 1297), (1297, aCV 11 1 C_X11_round 1300), (1300, aCmp 1301), (1301, aIf (fun x => x = 0) 1460 1304), (1304, aPI 0 1305), (1305, aRZ), (1306, aLA 1 1307), (1307, aLA 0 1308), (1308, aLI 3 1309), (1309, aPI 1 1310)]
theorem mt_L_law_c13 : mMT tb_L_law_c13 :=
  mF (mn_LA _ _) <|
  mF (mn_LI _ _) <|
  mF (mn_PI _ _) <|
  mF (mn_B _ _) <|
  mF (mn_IA _) <|
  mF (mn_CV _ _ mc_X11_play _) <|
  mF (mn_Cmp _) <|
  mF (mn_If _ _ _) <|
  mF (mn_PI _ _) <|
  mF (mn_RZ) <|
  mF (mn_LA _ _) <|
  mF (mn_LA _ _) <|
  mF (mn_LI _ _) <|
  mF (mn_PI _ _) <|
  mF (mn_B _ _) <|
  mF (mn_IA _) <|
  mF (mn_LA _ _) <|
  mF (mn_LI _ _) <|
  mF (mn_PI _ _) <|
  mF (mn_B _ _) <|
  mF (mn_IA _) <|
  mF (mn_LA _ _) <|
  mF (mn_LI _ _) <|
  mF (mn_PI _ _) <|
  mF (mn_B _ _) <|
  mF (mn_IA _) <|
  mF (mn_CV _ _ mc_X10_pose _) <|
  mF (mn_LA _ _) <|
  mF (mn_LA _ _) <|
  mF (mn_LI _ _) <|
  mF (mn_PI _ _) <|
  mF (mn_B _ _) <|
  mF (mn_IA _) <|
  mF (mn_LA _ _) <|
  mF (mn_LI _ _) <|
  mF (mn_PI _ _) <|
  mF (mn_B _ _) <|
  mF (mn_IA _) <|
  mF (mn_LA _ _) <|
  mF (mn_LI _ _) <|
  mF (mn_PI _ _) <|
  mF (mn_B _ _) <|
  mF (mn_IA _) <|
  mF (mn_CV _ _ mc_X11_pose _) <|
  mF (mn_Cmp _) <|
  mF (mn_If _ _ _) <|
  mF (mn_PI _ _) <|
  mF (mn_RZ) <|
  mF (mn_LA _ _) <|
  mF (mn_LA _ _) <|
  mF (mn_LI _ _) <|
  mF (mn_PI _ _) <|
  mF (mn_B _ _) <|
  mF (mn_IA _) <|
  mF (mn_CV _ _ mc_X10_round _) <|
  mF (mn_LA _ _) <|
  mF (mn_LA _ _) <|
  mF (mn_LI _ _) <|
  mF (mn_PI _ _) <|
  mF (mn_B _ _) <|
  mF (mn_IA _) <|
  mF (mn_CV _ _ mc_X11_round _) <|
  mF (mn_Cmp _) <|
  mF (mn_If _ _ _) <|
  mF (mn_PI _ _) <|
  mF (mn_RZ) <|
  mF (mn_LA _ _) <|
  mF (mn_LA _ _) <|
  mF (mn_LI _ _) <|
  mF (mn_PI _ _) <|
  mF0
def tb_L_law_c14 : mTb := [(1310, aB (fun x y => x + y) 1311), (1311, aIA 1312), (1312, aLA 0 1313), (1313, aLI 3 1314), (1314, aPI 2 1315), (1315, aB (fun x y => x + y) 1316), (1316, aIA 1317), (1317, aLA 0 1318), (1318, aLI 3 1319), (1319, aPI 3 1320), (1320, aB (fun x y => x + y) 1321), (1321, aIA 1322), (1322, aLA 0 1323), (1323, aLI 3 1324), (1324, aPI 4 1325), (1325, aB (fun x y => x + y) 1326), (1326, aIA 1327), (1327, aCV 10 4 C_X10_reach 1330), (1330, aLA 2 1331), (1331, aLA 0 1332), (1332, aLI 3 1333), (1333, aPI 1 1334), (1334, aB (fun x y => x + y) 1335), (1335, aIA 1336), (1336, aLA 0 1337), (1337, aLI 3 1338), (1338, aPI 2 1339), (1339, aB (fun x y => x + y) 1340), (1340, aIA 1341), (1341, aLA 0 1342), (1342, aLI 3 1343), (1343, aPI 3 1344), (1344, aB (fun x y => x + y) 1345), (1345, aIA 1346), (1346, aLA 0 1347), (1347, aLI 3 1348), (1348, aPI 4 1349), (1349, aB (fun x y => x + y) 1350), (1350, aIA 1351), (1351, aCV 11 4 C_X11_reach 1354), (1354, aCmp 1355), (1355, aIf (fun x => x = 0) 1460 1358), (1358, aPI 0 1359), (1359, aRZ), (1360, aLA 1 1361), (1361, aLA 0 1362), (1362, aLI 3 1363), (1363, aPI 1 1364), (1364, aB (fun x y => x + y) 1365), (1365, aIA 1366), (1366, aCV 10 1 C_X10_tangle 1369), (1369, aLA 2 1370), (1370, aLA 0 1371), (1371, aLI 3 1372), (1372, aPI 1 1373), (1373, aB (fun x y => x + y) 1374), (1374, aIA 1375), (1375, aCV 11 1 C_X11_tangle 1378), (1378, aCmp 1379), (1379, aIf (fun x => x = 0) 1460 1382), (1382, aPI 0 1383), (1383, aRZ), (1384, aLA 1 1385), (1385, aCV 10 0 C_X10_meet 1388), (1388, aLA 2 1389), (1389, aCV 11 0 C_X11_meet 1392), (1392, aCmp 1393), (1393, aIf (fun x => x = 0) 1460 1396), (1396, aPI 0 1397), (1397, aRZ)]
theorem mt_L_law_c14 : mMT tb_L_law_c14 :=
  mF (mn_B _ _) <|
  mF (mn_IA _) <|
  mF (mn_LA _ _) <|
  mF (mn_LI _ _) <|
  mF (mn_PI _ _) <|
  mF (mn_B _ _) <|
  mF (mn_IA _) <|
  mF (mn_LA _ _) <|
  mF (mn_LI _ _) <|
  mF (mn_PI _ _) <|
  mF (mn_B _ _) <|
  mF (mn_IA _) <|
  mF (mn_LA _ _) <|
  mF (mn_LI _ _) <|
  mF (mn_PI _ _) <|
  mF (mn_B _ _) <|
  mF (mn_IA _) <|
  mF (mn_CV _ _ mc_X10_reach _) <|
  mF (mn_LA _ _) <|
  mF (mn_LA _ _) <|
  mF (mn_LI _ _) <|
  mF (mn_PI _ _) <|
  mF (mn_B _ _) <|
  mF (mn_IA _) <|
  mF (mn_LA _ _) <|
  mF (mn_LI _ _) <|
  mF (mn_PI _ _) <|
  mF (mn_B _ _) <|
  mF (mn_IA _) <|
  mF (mn_LA _ _) <|
  mF (mn_LI _ _) <|
  mF (mn_PI _ _) <|
  mF (mn_B _ _) <|
  mF (mn_IA _) <|
  mF (mn_LA _ _) <|
  mF (mn_LI _ _) <|
  mF (mn_PI _ _) <|
  mF (mn_B _ _) <|
  mF (mn_IA _) <|
  mF (mn_CV _ _ mc_X11_reach _) <|
  mF (mn_Cmp _) <|
  mF (mn_If _ _ _) <|
  mF (mn_PI _ _) <|
  mF (mn_RZ) <|
  mF (mn_LA _ _) <|
  mF (mn_LA _ _) <|
  mF (mn_LI _ _) <|
  mF (mn_PI _ _) <|
  mF (mn_B _ _) <|
  mF (mn_IA _) <|
  mF (mn_CV _ _ mc_X10_tangle _) <|
  mF (mn_LA _ _) <|
  mF (mn_LA _ _) <|
  mF (mn_LI _ _) <|
  mF (mn_PI _ _) <|
  mF (mn_B _ _) <|
  mF (mn_IA _) <|
  mF (mn_CV _ _ mc_X11_tangle _) <|
  mF (mn_Cmp _) <|
  mF (mn_If _ _ _) <|
  mF (mn_PI _ _) <|
  mF (mn_RZ) <|
  mF (mn_LA _ _) <|
  mF (mn_CV _ _ mc_X10_meet _) <|
  mF (mn_LA _ _) <|
  mF (mn_CV _ _ mc_X11_meet _) <|
  mF (mn_Cmp _) <|
  mF (mn_If _ _ _) <|
  mF (mn_PI _ _) <|
  mF (mn_RZ) <|
  mF0
def tb_L_law_c15 : mTb := [(1398, aLA 1 1399), (1399, aLA 0 1400), (1400, aLI 3 1401), (1401, aPI 1 1402), (1402, aB (fun x y => x + y) 1403), (1403, aIA 1404), (1404, aCV 10 1 C_X10_mirror 1407), (1407, aLA 2 1408), (1408, aLA 0 1409), (1409, aLI 3 1410), (1410, aPI 1 1411), (1411, aB (fun x y => x + y) 1412), (1412, aIA 1413), (1413, aCV 11 1 C_X11_mirror 1416), (1416, aCmp 1417), (1417, aIf (fun x => x = 0) 1460 1420), (1420, aPI 0 1421), (1421, aRZ), (1422, aLA 1 1423), (1423, aCV 10 0 C_X10_undo 1426), (1426, aLA 2 1427), (1427, aCV 11 0 C_X11_undo 1430), (1430, aCmp 1431), (1431, aIf (fun x => x = 0) 1460 1434), (1434, aPI 0 1435), (1435, aRZ), (1436, aLA 1 1437), (1437, aLA 0 1438), (1438, aLI 3 1439), (1439, aPI 1 1440), (1440, aB (fun x y => x + y) 1441), (1441, aIA 1442), (1442, aCV 10 1 C_X10_count 1445), (1445, aLA 2 1446), (1446, aLA 0 1447), (1447, aLI 3 1448), (1448, aPI 1 1449), (1449, aB (fun x y => x + y) 1450), (1450, aIA 1451), (1451, aCV 11 1 C_X11_count 1454), (1454, aCmp 1455), (1455, aIf (fun x => x = 0) 1460 1458), (1458, aPI 0 1459), (1459, aRZ), (1460, aInc 3 6 1463), (1463, aGo 18), (1466, aPI 1 1467), (1467, aRZ)]
theorem mt_L_law_c15 : mMT tb_L_law_c15 :=
  mF (mn_LA _ _) <|
  mF (mn_LA _ _) <|
  mF (mn_LI _ _) <|
  mF (mn_PI _ _) <|
  mF (mn_B _ _) <|
  mF (mn_IA _) <|
  mF (mn_CV _ _ mc_X10_mirror _) <|
  mF (mn_LA _ _) <|
  mF (mn_LA _ _) <|
  mF (mn_LI _ _) <|
  mF (mn_PI _ _) <|
  mF (mn_B _ _) <|
  mF (mn_IA _) <|
  mF (mn_CV _ _ mc_X11_mirror _) <|
  mF (mn_Cmp _) <|
  mF (mn_If _ _ _) <|
  mF (mn_PI _ _) <|
  mF (mn_RZ) <|
  mF (mn_LA _ _) <|
  mF (mn_CV _ _ mc_X10_undo _) <|
  mF (mn_LA _ _) <|
  mF (mn_CV _ _ mc_X11_undo _) <|
  mF (mn_Cmp _) <|
  mF (mn_If _ _ _) <|
  mF (mn_PI _ _) <|
  mF (mn_RZ) <|
  mF (mn_LA _ _) <|
  mF (mn_LA _ _) <|
  mF (mn_LI _ _) <|
  mF (mn_PI _ _) <|
  mF (mn_B _ _) <|
  mF (mn_IA _) <|
  mF (mn_CV _ _ mc_X10_count _) <|
  mF (mn_LA _ _) <|
  mF (mn_LA _ _) <|
  mF (mn_LI _ _) <|
  mF (mn_PI _ _) <|
  mF (mn_B _ _) <|
  mF (mn_IA _) <|
  mF (mn_CV _ _ mc_X11_count _) <|
  mF (mn_Cmp _) <|
  mF (mn_If _ _ _) <|
  mF (mn_PI _ _) <|
  mF (mn_RZ) <|
  mF (mn_Inc _ _ _) <|
  mF (mn_Go _) <|
  mF (mn_PI _ _) <|
  mF (mn_RZ) <|
  mF0
def tb_L_law : mTb := tb_L_law_c0 ++ (tb_L_law_c1 ++ (tb_L_law_c2 ++ (tb_L_law_c3 ++ (tb_L_law_c4 ++ (tb_L_law_c5 ++ (tb_L_law_c6 ++ (tb_L_law_c7 ++ (tb_L_law_c8 ++ (tb_L_law_c9 ++ (tb_L_law_c10 ++ (tb_L_law_c11 ++ (tb_L_law_c12 ++ (tb_L_law_c13 ++ (tb_L_law_c14 ++ (tb_L_law_c15)))))))))))))))
theorem mt_L_law : mMT tb_L_law := mFA mt_L_law_c0 (mFA mt_L_law_c1 (mFA mt_L_law_c2 (mFA mt_L_law_c3 (mFA mt_L_law_c4 (mFA mt_L_law_c5 (mFA mt_L_law_c6 (mFA mt_L_law_c7 (mFA mt_L_law_c8 (mFA mt_L_law_c9 (mFA mt_L_law_c10 (mFA mt_L_law_c11 (mFA mt_L_law_c12 (mFA mt_L_law_c13 (mFA mt_L_law_c14 mt_L_law_c15))))))))))))))
set_option maxRecDepth 100000 in
set_option maxHeartbeats 4000000 in
theorem sd_L_law_c0 (l : Launch) (B : mBs) (p : Program) (e : Env) (s : State) (m : MethodId) (xb : Nat) (below : List Frame) (meth : Method) (c : Code) (X : mCx l B RL code 4 p s m #[Value.ref xb] c) (hr : meth.sig.returnType = ret) (hk : meth.locks = false) (hb : bb B = s.heap.size) : ∀ q ∈ tb_L_law_c0, mSnd l B 4 p e (mRm 12 600000 7302250) s m #[Value.ref xb] below meth c (lw_Z below #[Value.ref xb] s) (fun r _ => r = some (.int 1)) q.2 q.1 :=
  mF (sn_new (pc := 0) X rfl inw_10 ⟨tyX10_ok, nmX10⟩ (by decide) rfl wd_64 wd_65 wd_49 (by decide +kernel)) <|
  mF (sn_dup (pc := 3) X (by decide +kernel)) <|
  mF (sn_callI (pc := 4) X mc_X10_init (me_X10_init l B) yi_X10_init wd_66 wd_67 rfl (by decide) (by decide +kernel)) <|
  mF (sn_astore_n (pc := 7) (j := 1) X (by decide +kernel) rfl (by decide)) <|
  mF (sn_new (pc := 8) X rfl inw_11 ⟨tyX11_ok, nmX11⟩ (by decide) rfl wd_902 wd_903 wd_60 (by decide +kernel)) <|
  mF (sn_dup (pc := 11) X (by decide +kernel)) <|
  mF (sn_callI (pc := 12) X mc_X11_init (me_X11_init l B) yi_X11_init wd_904 wd_905 rfl (by decide) (by decide +kernel)) <|
  mF (sn_astore_n (pc := 15) (j := 2) X (by decide +kernel) rfl (by decide)) <|
  mF (sn_iconst (pc := 16) (n := 0) X (by decide +kernel) (by decide)) <|
  mF (sn_istore_n (pc := 17) (j := 3) X (by decide +kernel) rfl (by decide)) <|
  mF (sn_iload_n (pc := 18) (j := 3) X (by decide +kernel) rfl) <|
  mF (sn_aload_n (pc := 19) (j := 0) X (by decide +kernel) rfl) <|
  mF (sn_alen (pc := 20) X (by decide +kernel)) <|
  mF (sn_bipush (pc := 21) (n := 6) X (by decide +kernel) (by decide)) <|
  mF (sn_isub (pc := 23) X (by decide +kernel)) <|
  mF (sn_icmp_gt (pc := 24) (off := 1442) X (by decide +kernel) (by decide)) <|
  mF (sn_aload_n (pc := 27) (j := 0) X (by decide +kernel) rfl) <|
  mF (sn_iload_n (pc := 28) (j := 3) X (by decide +kernel) rfl) <|
  mF (sn_iaload (pc := 29) X (by decide +kernel)) <|
  mF (sn_bipush (pc := 30) (n := 63) X (by decide +kernel) (by decide)) <|
  mF (sn_iand (pc := 32) X (by decide +kernel)) <|
  mF (sn_ts (pc := 33) (dflt := 1427) (lo := 0) (hi := 33) (offs := #[151, 205, 229, 273, 307, 361, 415, 469, 513, 547, 581, 625, 679, 723, 787, 821, 865, 909, 953, 987, 1011, 1045, 1069, 1093, 1147, 1171, 1205, 1249, 1273, 1327, 1351, 1365, 1389, 1403]) (len := 151) X (by decide +kernel) ⟨by decide, by decide, by decide⟩) <|
  mF (sn_aload_n (pc := 184) (j := 1) X (by decide +kernel) rfl) <|
  mF (sn_aload_n (pc := 185) (j := 0) X (by decide +kernel) rfl) <|
  mF (sn_iload_n (pc := 186) (j := 3) X (by decide +kernel) rfl) <|
  mF (sn_iconst (pc := 187) (n := 1) X (by decide +kernel) (by decide)) <|
  mF (sn_iadd (pc := 188) X (by decide +kernel)) <|
  mF (sn_iaload (pc := 189) X (by decide +kernel)) <|
  mF (sn_aload_n (pc := 190) (j := 0) X (by decide +kernel) rfl) <|
  mF (sn_iload_n (pc := 191) (j := 3) X (by decide +kernel) rfl) <|
  mF (sn_iconst (pc := 192) (n := 2) X (by decide +kernel) (by decide)) <|
  mF (sn_iadd (pc := 193) X (by decide +kernel)) <|
  mF (sn_iaload (pc := 194) X (by decide +kernel)) <|
  mF (sn_aload_n (pc := 195) (j := 0) X (by decide +kernel) rfl) <|
  mF (sn_iload_n (pc := 196) (j := 3) X (by decide +kernel) rfl) <|
  mF (sn_iconst (pc := 197) (n := 3) X (by decide +kernel) (by decide)) <|
  mF (sn_iadd (pc := 198) X (by decide +kernel)) <|
  mF (sn_iaload (pc := 199) X (by decide +kernel)) <|
  mF (sn_aload_n (pc := 200) (j := 0) X (by decide +kernel) rfl) <|
  mF (sn_iload_n (pc := 201) (j := 3) X (by decide +kernel) rfl) <|
  mF (sn_iconst (pc := 202) (n := 4) X (by decide +kernel) (by decide)) <|
  mF (sn_iadd (pc := 203) X (by decide +kernel)) <|
  mF (sn_iaload (pc := 204) X (by decide +kernel)) <|
  mF (sn_callV (pc := 205) X mc_X10_limb (me_X10_limb l B) yi_X10_limb wd_421 wd_422 wd_423 (T := TX10) (N := 11) rfl (by decide) (by decide +kernel)) <|
  mF (sn_aload_n (pc := 208) (j := 2) X (by decide +kernel) rfl) <|
  mF (sn_aload_n (pc := 209) (j := 0) X (by decide +kernel) rfl) <|
  mF (sn_iload_n (pc := 210) (j := 3) X (by decide +kernel) rfl) <|
  mF (sn_iconst (pc := 211) (n := 1) X (by decide +kernel) (by decide)) <|
  mF (sn_iadd (pc := 212) X (by decide +kernel)) <|
  mF (sn_iaload (pc := 213) X (by decide +kernel)) <|
  mF (sn_aload_n (pc := 214) (j := 0) X (by decide +kernel) rfl) <|
  mF (sn_iload_n (pc := 215) (j := 3) X (by decide +kernel) rfl) <|
  mF (sn_iconst (pc := 216) (n := 2) X (by decide +kernel) (by decide)) <|
  mF (sn_iadd (pc := 217) X (by decide +kernel)) <|
  mF (sn_iaload (pc := 218) X (by decide +kernel)) <|
  mF (sn_aload_n (pc := 219) (j := 0) X (by decide +kernel) rfl) <|
  mF (sn_iload_n (pc := 220) (j := 3) X (by decide +kernel) rfl) <|
  mF (sn_iconst (pc := 221) (n := 3) X (by decide +kernel) (by decide)) <|
  mF (sn_iadd (pc := 222) X (by decide +kernel)) <|
  mF (sn_iaload (pc := 223) X (by decide +kernel)) <|
  mF (sn_aload_n (pc := 224) (j := 0) X (by decide +kernel) rfl) <|
  mF (sn_iload_n (pc := 225) (j := 3) X (by decide +kernel) rfl) <|
  mF (sn_iconst (pc := 226) (n := 4) X (by decide +kernel) (by decide)) <|
  mF (sn_iadd (pc := 227) X (by decide +kernel)) <|
  mF (sn_iaload (pc := 228) X (by decide +kernel)) <|
  mF (sn_callV (pc := 229) X mc_X11_limb (me_X11_limb l B) yi_X11_limb wd_985 wd_986 wd_987 (T := TX11) (N := 22) rfl (by decide) (by decide +kernel)) <|
  mF (sn_lcmp (pc := 232) X (by decide +kernel)) <|
  mF (sn_if_eq (pc := 233) (off := 1227) X (by decide +kernel) (by decide)) <|
  mF (sn_iconst (pc := 236) (n := 0) X (by decide +kernel) (by decide)) <|
  mF (sn_lwret (pc := 237) X hr hk hb (by decide +kernel)) <|
  mF0
set_option maxRecDepth 100000 in
set_option maxHeartbeats 4000000 in
theorem sd_L_law_c1 (l : Launch) (B : mBs) (p : Program) (e : Env) (s : State) (m : MethodId) (xb : Nat) (below : List Frame) (meth : Method) (c : Code) (X : mCx l B RL code 4 p s m #[Value.ref xb] c) (hr : meth.sig.returnType = ret) (hk : meth.locks = false) (hb : bb B = s.heap.size) : ∀ q ∈ tb_L_law_c1, mSnd l B 4 p e (mRm 12 600000 7302250) s m #[Value.ref xb] below meth c (lw_Z below #[Value.ref xb] s) (fun r _ => r = some (.int 1)) q.2 q.1 :=
  mF (sn_aload_n (pc := 238) (j := 1) X (by decide +kernel) rfl) <|
  mF (sn_aload_n (pc := 239) (j := 0) X (by decide +kernel) rfl) <|
  mF (sn_iload_n (pc := 240) (j := 3) X (by decide +kernel) rfl) <|
  mF (sn_iconst (pc := 241) (n := 1) X (by decide +kernel) (by decide)) <|
  mF (sn_iadd (pc := 242) X (by decide +kernel)) <|
  mF (sn_iaload (pc := 243) X (by decide +kernel)) <|
  mF (sn_callV (pc := 244) X mc_X10_lose (me_X10_lose l B) yi_X10_lose wd_501 wd_502 wd_503 (T := TX10) (N := 11) rfl (by decide) (by decide +kernel)) <|
  mF (sn_aload_n (pc := 247) (j := 2) X (by decide +kernel) rfl) <|
  mF (sn_aload_n (pc := 248) (j := 0) X (by decide +kernel) rfl) <|
  mF (sn_iload_n (pc := 249) (j := 3) X (by decide +kernel) rfl) <|
  mF (sn_iconst (pc := 250) (n := 1) X (by decide +kernel) (by decide)) <|
  mF (sn_iadd (pc := 251) X (by decide +kernel)) <|
  mF (sn_iaload (pc := 252) X (by decide +kernel)) <|
  mF (sn_callV (pc := 253) X mc_X11_lose (me_X11_lose l B) yi_X11_lose wd_1017 wd_1018 wd_1019 (T := TX11) (N := 22) rfl (by decide) (by decide +kernel)) <|
  mF (sn_lcmp (pc := 256) X (by decide +kernel)) <|
  mF (sn_if_eq (pc := 257) (off := 1203) X (by decide +kernel) (by decide)) <|
  mF (sn_iconst (pc := 260) (n := 0) X (by decide +kernel) (by decide)) <|
  mF (sn_lwret (pc := 261) X hr hk hb (by decide +kernel)) <|
  mF (sn_aload_n (pc := 262) (j := 1) X (by decide +kernel) rfl) <|
  mF (sn_aload_n (pc := 263) (j := 0) X (by decide +kernel) rfl) <|
  mF (sn_iload_n (pc := 264) (j := 3) X (by decide +kernel) rfl) <|
  mF (sn_iconst (pc := 265) (n := 1) X (by decide +kernel) (by decide)) <|
  mF (sn_iadd (pc := 266) X (by decide +kernel)) <|
  mF (sn_iaload (pc := 267) X (by decide +kernel)) <|
  mF (sn_aload_n (pc := 268) (j := 0) X (by decide +kernel) rfl) <|
  mF (sn_iload_n (pc := 269) (j := 3) X (by decide +kernel) rfl) <|
  mF (sn_iconst (pc := 270) (n := 2) X (by decide +kernel) (by decide)) <|
  mF (sn_iadd (pc := 271) X (by decide +kernel)) <|
  mF (sn_iaload (pc := 272) X (by decide +kernel)) <|
  mF (sn_aload_n (pc := 273) (j := 0) X (by decide +kernel) rfl) <|
  mF (sn_iload_n (pc := 274) (j := 3) X (by decide +kernel) rfl) <|
  mF (sn_iconst (pc := 275) (n := 3) X (by decide +kernel) (by decide)) <|
  mF (sn_iadd (pc := 276) X (by decide +kernel)) <|
  mF (sn_iaload (pc := 277) X (by decide +kernel)) <|
  mF (sn_callV (pc := 278) X mc_X10_pin (me_X10_pin l B) yi_X10_pin wd_521 wd_522 wd_523 (T := TX10) (N := 11) rfl (by decide) (by decide +kernel)) <|
  mF (sn_aload_n (pc := 281) (j := 2) X (by decide +kernel) rfl) <|
  mF (sn_aload_n (pc := 282) (j := 0) X (by decide +kernel) rfl) <|
  mF (sn_iload_n (pc := 283) (j := 3) X (by decide +kernel) rfl) <|
  mF (sn_iconst (pc := 284) (n := 1) X (by decide +kernel) (by decide)) <|
  mF (sn_iadd (pc := 285) X (by decide +kernel)) <|
  mF (sn_iaload (pc := 286) X (by decide +kernel)) <|
  mF (sn_aload_n (pc := 287) (j := 0) X (by decide +kernel) rfl) <|
  mF (sn_iload_n (pc := 288) (j := 3) X (by decide +kernel) rfl) <|
  mF (sn_iconst (pc := 289) (n := 2) X (by decide +kernel) (by decide)) <|
  mF (sn_iadd (pc := 290) X (by decide +kernel)) <|
  mF (sn_iaload (pc := 291) X (by decide +kernel)) <|
  mF (sn_aload_n (pc := 292) (j := 0) X (by decide +kernel) rfl) <|
  mF (sn_iload_n (pc := 293) (j := 3) X (by decide +kernel) rfl) <|
  mF (sn_iconst (pc := 294) (n := 3) X (by decide +kernel) (by decide)) <|
  mF (sn_iadd (pc := 295) X (by decide +kernel)) <|
  mF (sn_iaload (pc := 296) X (by decide +kernel)) <|
  mF (sn_callV (pc := 297) X mc_X11_pin (me_X11_pin l B) yi_X11_pin wd_1029 wd_1030 wd_1031 (T := TX11) (N := 22) rfl (by decide) (by decide +kernel)) <|
  mF (sn_lcmp (pc := 300) X (by decide +kernel)) <|
  mF (sn_if_eq (pc := 301) (off := 1159) X (by decide +kernel) (by decide)) <|
  mF (sn_iconst (pc := 304) (n := 0) X (by decide +kernel) (by decide)) <|
  mF (sn_lwret (pc := 305) X hr hk hb (by decide +kernel)) <|
  mF (sn_aload_n (pc := 306) (j := 1) X (by decide +kernel) rfl) <|
  mF (sn_aload_n (pc := 307) (j := 0) X (by decide +kernel) rfl) <|
  mF (sn_iload_n (pc := 308) (j := 3) X (by decide +kernel) rfl) <|
  mF (sn_iconst (pc := 309) (n := 1) X (by decide +kernel) (by decide)) <|
  mF (sn_iadd (pc := 310) X (by decide +kernel)) <|
  mF (sn_iaload (pc := 311) X (by decide +kernel)) <|
  mF (sn_aload_n (pc := 312) (j := 0) X (by decide +kernel) rfl) <|
  mF (sn_iload_n (pc := 313) (j := 3) X (by decide +kernel) rfl) <|
  mF (sn_iconst (pc := 314) (n := 2) X (by decide +kernel) (by decide)) <|
  mF (sn_iadd (pc := 315) X (by decide +kernel)) <|
  mF (sn_iaload (pc := 316) X (by decide +kernel)) <|
  mF (sn_callV (pc := 317) X mc_X10_spans (me_X10_spans l B) yi_X10_spans wd_528 wd_529 wd_530 (T := TX10) (N := 11) rfl (by decide) (by decide +kernel)) <|
  mF (sn_aload_n (pc := 320) (j := 2) X (by decide +kernel) rfl) <|
  mF (sn_aload_n (pc := 321) (j := 0) X (by decide +kernel) rfl) <|
  mF0
set_option maxRecDepth 100000 in
set_option maxHeartbeats 4000000 in
theorem sd_L_law_c2 (l : Launch) (B : mBs) (p : Program) (e : Env) (s : State) (m : MethodId) (xb : Nat) (below : List Frame) (meth : Method) (c : Code) (X : mCx l B RL code 4 p s m #[Value.ref xb] c) (hr : meth.sig.returnType = ret) (hk : meth.locks = false) (hb : bb B = s.heap.size) : ∀ q ∈ tb_L_law_c2, mSnd l B 4 p e (mRm 12 600000 7302250) s m #[Value.ref xb] below meth c (lw_Z below #[Value.ref xb] s) (fun r _ => r = some (.int 1)) q.2 q.1 :=
  mF (sn_iload_n (pc := 322) (j := 3) X (by decide +kernel) rfl) <|
  mF (sn_iconst (pc := 323) (n := 1) X (by decide +kernel) (by decide)) <|
  mF (sn_iadd (pc := 324) X (by decide +kernel)) <|
  mF (sn_iaload (pc := 325) X (by decide +kernel)) <|
  mF (sn_aload_n (pc := 326) (j := 0) X (by decide +kernel) rfl) <|
  mF (sn_iload_n (pc := 327) (j := 3) X (by decide +kernel) rfl) <|
  mF (sn_iconst (pc := 328) (n := 2) X (by decide +kernel) (by decide)) <|
  mF (sn_iadd (pc := 329) X (by decide +kernel)) <|
  mF (sn_iaload (pc := 330) X (by decide +kernel)) <|
  mF (sn_callV (pc := 331) X mc_X11_spans (me_X11_spans l B) yi_X11_spans wd_1036 wd_1037 wd_1038 (T := TX11) (N := 22) rfl (by decide) (by decide +kernel)) <|
  mF (sn_lcmp (pc := 334) X (by decide +kernel)) <|
  mF (sn_if_eq (pc := 335) (off := 1125) X (by decide +kernel) (by decide)) <|
  mF (sn_iconst (pc := 338) (n := 0) X (by decide +kernel) (by decide)) <|
  mF (sn_lwret (pc := 339) X hr hk hb (by decide +kernel)) <|
  mF (sn_aload_n (pc := 340) (j := 1) X (by decide +kernel) rfl) <|
  mF (sn_aload_n (pc := 341) (j := 0) X (by decide +kernel) rfl) <|
  mF (sn_iload_n (pc := 342) (j := 3) X (by decide +kernel) rfl) <|
  mF (sn_iconst (pc := 343) (n := 1) X (by decide +kernel) (by decide)) <|
  mF (sn_iadd (pc := 344) X (by decide +kernel)) <|
  mF (sn_iaload (pc := 345) X (by decide +kernel)) <|
  mF (sn_aload_n (pc := 346) (j := 0) X (by decide +kernel) rfl) <|
  mF (sn_iload_n (pc := 347) (j := 3) X (by decide +kernel) rfl) <|
  mF (sn_iconst (pc := 348) (n := 2) X (by decide +kernel) (by decide)) <|
  mF (sn_iadd (pc := 349) X (by decide +kernel)) <|
  mF (sn_iaload (pc := 350) X (by decide +kernel)) <|
  mF (sn_aload_n (pc := 351) (j := 0) X (by decide +kernel) rfl) <|
  mF (sn_iload_n (pc := 352) (j := 3) X (by decide +kernel) rfl) <|
  mF (sn_iconst (pc := 353) (n := 3) X (by decide +kernel) (by decide)) <|
  mF (sn_iadd (pc := 354) X (by decide +kernel)) <|
  mF (sn_iaload (pc := 355) X (by decide +kernel)) <|
  mF (sn_aload_n (pc := 356) (j := 0) X (by decide +kernel) rfl) <|
  mF (sn_iload_n (pc := 357) (j := 3) X (by decide +kernel) rfl) <|
  mF (sn_iconst (pc := 358) (n := 4) X (by decide +kernel) (by decide)) <|
  mF (sn_iadd (pc := 359) X (by decide +kernel)) <|
  mF (sn_iaload (pc := 360) X (by decide +kernel)) <|
  mF (sn_callV (pc := 361) X mc_X10_span (me_X10_span l B) yi_X10_span wd_536 wd_537 wd_538 (T := TX10) (N := 11) rfl (by decide) (by decide +kernel)) <|
  mF (sn_aload_n (pc := 364) (j := 2) X (by decide +kernel) rfl) <|
  mF (sn_aload_n (pc := 365) (j := 0) X (by decide +kernel) rfl) <|
  mF (sn_iload_n (pc := 366) (j := 3) X (by decide +kernel) rfl) <|
  mF (sn_iconst (pc := 367) (n := 1) X (by decide +kernel) (by decide)) <|
  mF (sn_iadd (pc := 368) X (by decide +kernel)) <|
  mF (sn_iaload (pc := 369) X (by decide +kernel)) <|
  mF (sn_aload_n (pc := 370) (j := 0) X (by decide +kernel) rfl) <|
  mF (sn_iload_n (pc := 371) (j := 3) X (by decide +kernel) rfl) <|
  mF (sn_iconst (pc := 372) (n := 2) X (by decide +kernel) (by decide)) <|
  mF (sn_iadd (pc := 373) X (by decide +kernel)) <|
  mF (sn_iaload (pc := 374) X (by decide +kernel)) <|
  mF (sn_aload_n (pc := 375) (j := 0) X (by decide +kernel) rfl) <|
  mF (sn_iload_n (pc := 376) (j := 3) X (by decide +kernel) rfl) <|
  mF (sn_iconst (pc := 377) (n := 3) X (by decide +kernel) (by decide)) <|
  mF (sn_iadd (pc := 378) X (by decide +kernel)) <|
  mF (sn_iaload (pc := 379) X (by decide +kernel)) <|
  mF (sn_aload_n (pc := 380) (j := 0) X (by decide +kernel) rfl) <|
  mF (sn_iload_n (pc := 381) (j := 3) X (by decide +kernel) rfl) <|
  mF (sn_iconst (pc := 382) (n := 4) X (by decide +kernel) (by decide)) <|
  mF (sn_iadd (pc := 383) X (by decide +kernel)) <|
  mF (sn_iaload (pc := 384) X (by decide +kernel)) <|
  mF (sn_callV (pc := 385) X mc_X11_span (me_X11_span l B) yi_X11_span wd_1040 wd_1041 wd_1042 (T := TX11) (N := 22) rfl (by decide) (by decide +kernel)) <|
  mF (sn_lcmp (pc := 388) X (by decide +kernel)) <|
  mF (sn_if_eq (pc := 389) (off := 1071) X (by decide +kernel) (by decide)) <|
  mF (sn_iconst (pc := 392) (n := 0) X (by decide +kernel) (by decide)) <|
  mF (sn_lwret (pc := 393) X hr hk hb (by decide +kernel)) <|
  mF (sn_aload_n (pc := 394) (j := 1) X (by decide +kernel) rfl) <|
  mF (sn_aload_n (pc := 395) (j := 0) X (by decide +kernel) rfl) <|
  mF (sn_iload_n (pc := 396) (j := 3) X (by decide +kernel) rfl) <|
  mF (sn_iconst (pc := 397) (n := 1) X (by decide +kernel) (by decide)) <|
  mF (sn_iadd (pc := 398) X (by decide +kernel)) <|
  mF (sn_iaload (pc := 399) X (by decide +kernel)) <|
  mF (sn_aload_n (pc := 400) (j := 0) X (by decide +kernel) rfl) <|
  mF (sn_iload_n (pc := 401) (j := 3) X (by decide +kernel) rfl) <|
  mF0
set_option maxRecDepth 100000 in
set_option maxHeartbeats 4000000 in
theorem sd_L_law_c3 (l : Launch) (B : mBs) (p : Program) (e : Env) (s : State) (m : MethodId) (xb : Nat) (below : List Frame) (meth : Method) (c : Code) (X : mCx l B RL code 4 p s m #[Value.ref xb] c) (hr : meth.sig.returnType = ret) (hk : meth.locks = false) (hb : bb B = s.heap.size) : ∀ q ∈ tb_L_law_c3, mSnd l B 4 p e (mRm 12 600000 7302250) s m #[Value.ref xb] below meth c (lw_Z below #[Value.ref xb] s) (fun r _ => r = some (.int 1)) q.2 q.1 :=
  mF (sn_iconst (pc := 402) (n := 2) X (by decide +kernel) (by decide)) <|
  mF (sn_iadd (pc := 403) X (by decide +kernel)) <|
  mF (sn_iaload (pc := 404) X (by decide +kernel)) <|
  mF (sn_aload_n (pc := 405) (j := 0) X (by decide +kernel) rfl) <|
  mF (sn_iload_n (pc := 406) (j := 3) X (by decide +kernel) rfl) <|
  mF (sn_iconst (pc := 407) (n := 3) X (by decide +kernel) (by decide)) <|
  mF (sn_iadd (pc := 408) X (by decide +kernel)) <|
  mF (sn_iaload (pc := 409) X (by decide +kernel)) <|
  mF (sn_aload_n (pc := 410) (j := 0) X (by decide +kernel) rfl) <|
  mF (sn_iload_n (pc := 411) (j := 3) X (by decide +kernel) rfl) <|
  mF (sn_iconst (pc := 412) (n := 4) X (by decide +kernel) (by decide)) <|
  mF (sn_iadd (pc := 413) X (by decide +kernel)) <|
  mF (sn_iaload (pc := 414) X (by decide +kernel)) <|
  mF (sn_callV (pc := 415) X mc_X10_cross (me_X10_cross l B) yi_X10_cross wd_550 wd_551 wd_552 (T := TX10) (N := 11) rfl (by decide) (by decide +kernel)) <|
  mF (sn_aload_n (pc := 418) (j := 2) X (by decide +kernel) rfl) <|
  mF (sn_aload_n (pc := 419) (j := 0) X (by decide +kernel) rfl) <|
  mF (sn_iload_n (pc := 420) (j := 3) X (by decide +kernel) rfl) <|
  mF (sn_iconst (pc := 421) (n := 1) X (by decide +kernel) (by decide)) <|
  mF (sn_iadd (pc := 422) X (by decide +kernel)) <|
  mF (sn_iaload (pc := 423) X (by decide +kernel)) <|
  mF (sn_aload_n (pc := 424) (j := 0) X (by decide +kernel) rfl) <|
  mF (sn_iload_n (pc := 425) (j := 3) X (by decide +kernel) rfl) <|
  mF (sn_iconst (pc := 426) (n := 2) X (by decide +kernel) (by decide)) <|
  mF (sn_iadd (pc := 427) X (by decide +kernel)) <|
  mF (sn_iaload (pc := 428) X (by decide +kernel)) <|
  mF (sn_aload_n (pc := 429) (j := 0) X (by decide +kernel) rfl) <|
  mF (sn_iload_n (pc := 430) (j := 3) X (by decide +kernel) rfl) <|
  mF (sn_iconst (pc := 431) (n := 3) X (by decide +kernel) (by decide)) <|
  mF (sn_iadd (pc := 432) X (by decide +kernel)) <|
  mF (sn_iaload (pc := 433) X (by decide +kernel)) <|
  mF (sn_aload_n (pc := 434) (j := 0) X (by decide +kernel) rfl) <|
  mF (sn_iload_n (pc := 435) (j := 3) X (by decide +kernel) rfl) <|
  mF (sn_iconst (pc := 436) (n := 4) X (by decide +kernel) (by decide)) <|
  mF (sn_iadd (pc := 437) X (by decide +kernel)) <|
  mF (sn_iaload (pc := 438) X (by decide +kernel)) <|
  mF (sn_callV (pc := 439) X mc_X11_cross (me_X11_cross l B) yi_X11_cross wd_1046 wd_1047 wd_1048 (T := TX11) (N := 22) rfl (by decide) (by decide +kernel)) <|
  mF (sn_lcmp (pc := 442) X (by decide +kernel)) <|
  mF (sn_if_eq (pc := 443) (off := 1017) X (by decide +kernel) (by decide)) <|
  mF (sn_iconst (pc := 446) (n := 0) X (by decide +kernel) (by decide)) <|
  mF (sn_lwret (pc := 447) X hr hk hb (by decide +kernel)) <|
  mF (sn_aload_n (pc := 448) (j := 1) X (by decide +kernel) rfl) <|
  mF (sn_aload_n (pc := 449) (j := 0) X (by decide +kernel) rfl) <|
  mF (sn_iload_n (pc := 450) (j := 3) X (by decide +kernel) rfl) <|
  mF (sn_iconst (pc := 451) (n := 1) X (by decide +kernel) (by decide)) <|
  mF (sn_iadd (pc := 452) X (by decide +kernel)) <|
  mF (sn_iaload (pc := 453) X (by decide +kernel)) <|
  mF (sn_aload_n (pc := 454) (j := 0) X (by decide +kernel) rfl) <|
  mF (sn_iload_n (pc := 455) (j := 3) X (by decide +kernel) rfl) <|
  mF (sn_iconst (pc := 456) (n := 2) X (by decide +kernel) (by decide)) <|
  mF (sn_iadd (pc := 457) X (by decide +kernel)) <|
  mF (sn_iaload (pc := 458) X (by decide +kernel)) <|
  mF (sn_aload_n (pc := 459) (j := 0) X (by decide +kernel) rfl) <|
  mF (sn_iload_n (pc := 460) (j := 3) X (by decide +kernel) rfl) <|
  mF (sn_iconst (pc := 461) (n := 3) X (by decide +kernel) (by decide)) <|
  mF (sn_iadd (pc := 462) X (by decide +kernel)) <|
  mF (sn_iaload (pc := 463) X (by decide +kernel)) <|
  mF (sn_aload_n (pc := 464) (j := 0) X (by decide +kernel) rfl) <|
  mF (sn_iload_n (pc := 465) (j := 3) X (by decide +kernel) rfl) <|
  mF (sn_iconst (pc := 466) (n := 4) X (by decide +kernel) (by decide)) <|
  mF (sn_iadd (pc := 467) X (by decide +kernel)) <|
  mF (sn_iaload (pc := 468) X (by decide +kernel)) <|
  mF (sn_callV (pc := 469) X mc_X10_bar (me_X10_bar l B) yi_X10_bar wd_555 wd_556 wd_557 (T := TX10) (N := 11) rfl (by decide) (by decide +kernel)) <|
  mF (sn_aload_n (pc := 472) (j := 2) X (by decide +kernel) rfl) <|
  mF (sn_aload_n (pc := 473) (j := 0) X (by decide +kernel) rfl) <|
  mF (sn_iload_n (pc := 474) (j := 3) X (by decide +kernel) rfl) <|
  mF (sn_iconst (pc := 475) (n := 1) X (by decide +kernel) (by decide)) <|
  mF (sn_iadd (pc := 476) X (by decide +kernel)) <|
  mF (sn_iaload (pc := 477) X (by decide +kernel)) <|
  mF (sn_aload_n (pc := 478) (j := 0) X (by decide +kernel) rfl) <|
  mF (sn_iload_n (pc := 479) (j := 3) X (by decide +kernel) rfl) <|
  mF0
set_option maxRecDepth 100000 in
set_option maxHeartbeats 4000000 in
theorem sd_L_law_c4 (l : Launch) (B : mBs) (p : Program) (e : Env) (s : State) (m : MethodId) (xb : Nat) (below : List Frame) (meth : Method) (c : Code) (X : mCx l B RL code 4 p s m #[Value.ref xb] c) (hr : meth.sig.returnType = ret) (hk : meth.locks = false) (hb : bb B = s.heap.size) : ∀ q ∈ tb_L_law_c4, mSnd l B 4 p e (mRm 12 600000 7302250) s m #[Value.ref xb] below meth c (lw_Z below #[Value.ref xb] s) (fun r _ => r = some (.int 1)) q.2 q.1 :=
  mF (sn_iconst (pc := 480) (n := 2) X (by decide +kernel) (by decide)) <|
  mF (sn_iadd (pc := 481) X (by decide +kernel)) <|
  mF (sn_iaload (pc := 482) X (by decide +kernel)) <|
  mF (sn_aload_n (pc := 483) (j := 0) X (by decide +kernel) rfl) <|
  mF (sn_iload_n (pc := 484) (j := 3) X (by decide +kernel) rfl) <|
  mF (sn_iconst (pc := 485) (n := 3) X (by decide +kernel) (by decide)) <|
  mF (sn_iadd (pc := 486) X (by decide +kernel)) <|
  mF (sn_iaload (pc := 487) X (by decide +kernel)) <|
  mF (sn_aload_n (pc := 488) (j := 0) X (by decide +kernel) rfl) <|
  mF (sn_iload_n (pc := 489) (j := 3) X (by decide +kernel) rfl) <|
  mF (sn_iconst (pc := 490) (n := 4) X (by decide +kernel) (by decide)) <|
  mF (sn_iadd (pc := 491) X (by decide +kernel)) <|
  mF (sn_iaload (pc := 492) X (by decide +kernel)) <|
  mF (sn_callV (pc := 493) X mc_X11_bar (me_X11_bar l B) yi_X11_bar wd_1054 wd_1055 wd_1056 (T := TX11) (N := 22) rfl (by decide) (by decide +kernel)) <|
  mF (sn_lcmp (pc := 496) X (by decide +kernel)) <|
  mF (sn_if_eq (pc := 497) (off := 963) X (by decide +kernel) (by decide)) <|
  mF (sn_iconst (pc := 500) (n := 0) X (by decide +kernel) (by decide)) <|
  mF (sn_lwret (pc := 501) X hr hk hb (by decide +kernel)) <|
  mF (sn_aload_n (pc := 502) (j := 1) X (by decide +kernel) rfl) <|
  mF (sn_aload_n (pc := 503) (j := 0) X (by decide +kernel) rfl) <|
  mF (sn_iload_n (pc := 504) (j := 3) X (by decide +kernel) rfl) <|
  mF (sn_iconst (pc := 505) (n := 1) X (by decide +kernel) (by decide)) <|
  mF (sn_iadd (pc := 506) X (by decide +kernel)) <|
  mF (sn_iaload (pc := 507) X (by decide +kernel)) <|
  mF (sn_aload_n (pc := 508) (j := 0) X (by decide +kernel) rfl) <|
  mF (sn_iload_n (pc := 509) (j := 3) X (by decide +kernel) rfl) <|
  mF (sn_iconst (pc := 510) (n := 2) X (by decide +kernel) (by decide)) <|
  mF (sn_iadd (pc := 511) X (by decide +kernel)) <|
  mF (sn_iaload (pc := 512) X (by decide +kernel)) <|
  mF (sn_aload_n (pc := 513) (j := 0) X (by decide +kernel) rfl) <|
  mF (sn_iload_n (pc := 514) (j := 3) X (by decide +kernel) rfl) <|
  mF (sn_iconst (pc := 515) (n := 3) X (by decide +kernel) (by decide)) <|
  mF (sn_iadd (pc := 516) X (by decide +kernel)) <|
  mF (sn_iaload (pc := 517) X (by decide +kernel)) <|
  mF (sn_callV (pc := 518) X mc_X10_bend (me_X10_bend l B) yi_X10_bend wd_562 wd_563 wd_564 (T := TX10) (N := 11) rfl (by decide) (by decide +kernel)) <|
  mF (sn_aload_n (pc := 521) (j := 2) X (by decide +kernel) rfl) <|
  mF (sn_aload_n (pc := 522) (j := 0) X (by decide +kernel) rfl) <|
  mF (sn_iload_n (pc := 523) (j := 3) X (by decide +kernel) rfl) <|
  mF (sn_iconst (pc := 524) (n := 1) X (by decide +kernel) (by decide)) <|
  mF (sn_iadd (pc := 525) X (by decide +kernel)) <|
  mF (sn_iaload (pc := 526) X (by decide +kernel)) <|
  mF (sn_aload_n (pc := 527) (j := 0) X (by decide +kernel) rfl) <|
  mF (sn_iload_n (pc := 528) (j := 3) X (by decide +kernel) rfl) <|
  mF (sn_iconst (pc := 529) (n := 2) X (by decide +kernel) (by decide)) <|
  mF (sn_iadd (pc := 530) X (by decide +kernel)) <|
  mF (sn_iaload (pc := 531) X (by decide +kernel)) <|
  mF (sn_aload_n (pc := 532) (j := 0) X (by decide +kernel) rfl) <|
  mF (sn_iload_n (pc := 533) (j := 3) X (by decide +kernel) rfl) <|
  mF (sn_iconst (pc := 534) (n := 3) X (by decide +kernel) (by decide)) <|
  mF (sn_iadd (pc := 535) X (by decide +kernel)) <|
  mF (sn_iaload (pc := 536) X (by decide +kernel)) <|
  mF (sn_callV (pc := 537) X mc_X11_bend (me_X11_bend l B) yi_X11_bend wd_1058 wd_1059 wd_1060 (T := TX11) (N := 22) rfl (by decide) (by decide +kernel)) <|
  mF (sn_lcmp (pc := 540) X (by decide +kernel)) <|
  mF (sn_if_eq (pc := 541) (off := 919) X (by decide +kernel) (by decide)) <|
  mF (sn_iconst (pc := 544) (n := 0) X (by decide +kernel) (by decide)) <|
  mF (sn_lwret (pc := 545) X hr hk hb (by decide +kernel)) <|
  mF (sn_aload_n (pc := 546) (j := 1) X (by decide +kernel) rfl) <|
  mF (sn_aload_n (pc := 547) (j := 0) X (by decide +kernel) rfl) <|
  mF (sn_iload_n (pc := 548) (j := 3) X (by decide +kernel) rfl) <|
  mF (sn_iconst (pc := 549) (n := 1) X (by decide +kernel) (by decide)) <|
  mF (sn_iadd (pc := 550) X (by decide +kernel)) <|
  mF (sn_iaload (pc := 551) X (by decide +kernel)) <|
  mF (sn_aload_n (pc := 552) (j := 0) X (by decide +kernel) rfl) <|
  mF (sn_iload_n (pc := 553) (j := 3) X (by decide +kernel) rfl) <|
  mF (sn_iconst (pc := 554) (n := 2) X (by decide +kernel) (by decide)) <|
  mF (sn_iadd (pc := 555) X (by decide +kernel)) <|
  mF (sn_iaload (pc := 556) X (by decide +kernel)) <|
  mF (sn_callV (pc := 557) X mc_X10_hand (me_X10_hand l B) yi_X10_hand wd_566 wd_567 wd_568 (T := TX10) (N := 11) rfl (by decide) (by decide +kernel)) <|
  mF (sn_aload_n (pc := 560) (j := 2) X (by decide +kernel) rfl) <|
  mF (sn_aload_n (pc := 561) (j := 0) X (by decide +kernel) rfl) <|
  mF0
set_option maxRecDepth 100000 in
set_option maxHeartbeats 4000000 in
theorem sd_L_law_c5 (l : Launch) (B : mBs) (p : Program) (e : Env) (s : State) (m : MethodId) (xb : Nat) (below : List Frame) (meth : Method) (c : Code) (X : mCx l B RL code 4 p s m #[Value.ref xb] c) (hr : meth.sig.returnType = ret) (hk : meth.locks = false) (hb : bb B = s.heap.size) : ∀ q ∈ tb_L_law_c5, mSnd l B 4 p e (mRm 12 600000 7302250) s m #[Value.ref xb] below meth c (lw_Z below #[Value.ref xb] s) (fun r _ => r = some (.int 1)) q.2 q.1 :=
  mF (sn_iload_n (pc := 562) (j := 3) X (by decide +kernel) rfl) <|
  mF (sn_iconst (pc := 563) (n := 1) X (by decide +kernel) (by decide)) <|
  mF (sn_iadd (pc := 564) X (by decide +kernel)) <|
  mF (sn_iaload (pc := 565) X (by decide +kernel)) <|
  mF (sn_aload_n (pc := 566) (j := 0) X (by decide +kernel) rfl) <|
  mF (sn_iload_n (pc := 567) (j := 3) X (by decide +kernel) rfl) <|
  mF (sn_iconst (pc := 568) (n := 2) X (by decide +kernel) (by decide)) <|
  mF (sn_iadd (pc := 569) X (by decide +kernel)) <|
  mF (sn_iaload (pc := 570) X (by decide +kernel)) <|
  mF (sn_callV (pc := 571) X mc_X11_hand (me_X11_hand l B) yi_X11_hand wd_1070 wd_1071 wd_1072 (T := TX11) (N := 22) rfl (by decide) (by decide +kernel)) <|
  mF (sn_lcmp (pc := 574) X (by decide +kernel)) <|
  mF (sn_if_eq (pc := 575) (off := 885) X (by decide +kernel) (by decide)) <|
  mF (sn_iconst (pc := 578) (n := 0) X (by decide +kernel) (by decide)) <|
  mF (sn_lwret (pc := 579) X hr hk hb (by decide +kernel)) <|
  mF (sn_aload_n (pc := 580) (j := 1) X (by decide +kernel) rfl) <|
  mF (sn_aload_n (pc := 581) (j := 0) X (by decide +kernel) rfl) <|
  mF (sn_iload_n (pc := 582) (j := 3) X (by decide +kernel) rfl) <|
  mF (sn_iconst (pc := 583) (n := 1) X (by decide +kernel) (by decide)) <|
  mF (sn_iadd (pc := 584) X (by decide +kernel)) <|
  mF (sn_iaload (pc := 585) X (by decide +kernel)) <|
  mF (sn_aload_n (pc := 586) (j := 0) X (by decide +kernel) rfl) <|
  mF (sn_iload_n (pc := 587) (j := 3) X (by decide +kernel) rfl) <|
  mF (sn_iconst (pc := 588) (n := 2) X (by decide +kernel) (by decide)) <|
  mF (sn_iadd (pc := 589) X (by decide +kernel)) <|
  mF (sn_iaload (pc := 590) X (by decide +kernel)) <|
  mF (sn_callV (pc := 591) X mc_X10_about (me_X10_about l B) yi_X10_about wd_570 wd_571 wd_572 (T := TX10) (N := 11) rfl (by decide) (by decide +kernel)) <|
  mF (sn_aload_n (pc := 594) (j := 2) X (by decide +kernel) rfl) <|
  mF (sn_aload_n (pc := 595) (j := 0) X (by decide +kernel) rfl) <|
  mF (sn_iload_n (pc := 596) (j := 3) X (by decide +kernel) rfl) <|
  mF (sn_iconst (pc := 597) (n := 1) X (by decide +kernel) (by decide)) <|
  mF (sn_iadd (pc := 598) X (by decide +kernel)) <|
  mF (sn_iaload (pc := 599) X (by decide +kernel)) <|
  mF (sn_aload_n (pc := 600) (j := 0) X (by decide +kernel) rfl) <|
  mF (sn_iload_n (pc := 601) (j := 3) X (by decide +kernel) rfl) <|
  mF (sn_iconst (pc := 602) (n := 2) X (by decide +kernel) (by decide)) <|
  mF (sn_iadd (pc := 603) X (by decide +kernel)) <|
  mF (sn_iaload (pc := 604) X (by decide +kernel)) <|
  mF (sn_callV (pc := 605) X mc_X11_about (me_X11_about l B) yi_X11_about wd_1074 wd_1075 wd_1076 (T := TX11) (N := 22) rfl (by decide) (by decide +kernel)) <|
  mF (sn_lcmp (pc := 608) X (by decide +kernel)) <|
  mF (sn_if_eq (pc := 609) (off := 851) X (by decide +kernel) (by decide)) <|
  mF (sn_iconst (pc := 612) (n := 0) X (by decide +kernel) (by decide)) <|
  mF (sn_lwret (pc := 613) X hr hk hb (by decide +kernel)) <|
  mF (sn_aload_n (pc := 614) (j := 1) X (by decide +kernel) rfl) <|
  mF (sn_aload_n (pc := 615) (j := 0) X (by decide +kernel) rfl) <|
  mF (sn_iload_n (pc := 616) (j := 3) X (by decide +kernel) rfl) <|
  mF (sn_iconst (pc := 617) (n := 1) X (by decide +kernel) (by decide)) <|
  mF (sn_iadd (pc := 618) X (by decide +kernel)) <|
  mF (sn_iaload (pc := 619) X (by decide +kernel)) <|
  mF (sn_aload_n (pc := 620) (j := 0) X (by decide +kernel) rfl) <|
  mF (sn_iload_n (pc := 621) (j := 3) X (by decide +kernel) rfl) <|
  mF (sn_iconst (pc := 622) (n := 2) X (by decide +kernel) (by decide)) <|
  mF (sn_iadd (pc := 623) X (by decide +kernel)) <|
  mF (sn_iaload (pc := 624) X (by decide +kernel)) <|
  mF (sn_aload_n (pc := 625) (j := 0) X (by decide +kernel) rfl) <|
  mF (sn_iload_n (pc := 626) (j := 3) X (by decide +kernel) rfl) <|
  mF (sn_iconst (pc := 627) (n := 3) X (by decide +kernel) (by decide)) <|
  mF (sn_iadd (pc := 628) X (by decide +kernel)) <|
  mF (sn_iaload (pc := 629) X (by decide +kernel)) <|
  mF (sn_callV (pc := 630) X mc_X10_told (me_X10_told l B) yi_X10_told wd_575 wd_576 wd_577 (T := TX10) (N := 11) rfl (by decide) (by decide +kernel)) <|
  mF (sn_aload_n (pc := 633) (j := 2) X (by decide +kernel) rfl) <|
  mF (sn_aload_n (pc := 634) (j := 0) X (by decide +kernel) rfl) <|
  mF (sn_iload_n (pc := 635) (j := 3) X (by decide +kernel) rfl) <|
  mF (sn_iconst (pc := 636) (n := 1) X (by decide +kernel) (by decide)) <|
  mF (sn_iadd (pc := 637) X (by decide +kernel)) <|
  mF (sn_iaload (pc := 638) X (by decide +kernel)) <|
  mF (sn_aload_n (pc := 639) (j := 0) X (by decide +kernel) rfl) <|
  mF (sn_iload_n (pc := 640) (j := 3) X (by decide +kernel) rfl) <|
  mF (sn_iconst (pc := 641) (n := 2) X (by decide +kernel) (by decide)) <|
  mF (sn_iadd (pc := 642) X (by decide +kernel)) <|
  mF (sn_iaload (pc := 643) X (by decide +kernel)) <|
  mF0
set_option maxRecDepth 100000 in
set_option maxHeartbeats 4000000 in
theorem sd_L_law_c6 (l : Launch) (B : mBs) (p : Program) (e : Env) (s : State) (m : MethodId) (xb : Nat) (below : List Frame) (meth : Method) (c : Code) (X : mCx l B RL code 4 p s m #[Value.ref xb] c) (hr : meth.sig.returnType = ret) (hk : meth.locks = false) (hb : bb B = s.heap.size) : ∀ q ∈ tb_L_law_c6, mSnd l B 4 p e (mRm 12 600000 7302250) s m #[Value.ref xb] below meth c (lw_Z below #[Value.ref xb] s) (fun r _ => r = some (.int 1)) q.2 q.1 :=
  mF (sn_aload_n (pc := 644) (j := 0) X (by decide +kernel) rfl) <|
  mF (sn_iload_n (pc := 645) (j := 3) X (by decide +kernel) rfl) <|
  mF (sn_iconst (pc := 646) (n := 3) X (by decide +kernel) (by decide)) <|
  mF (sn_iadd (pc := 647) X (by decide +kernel)) <|
  mF (sn_iaload (pc := 648) X (by decide +kernel)) <|
  mF (sn_callV (pc := 649) X mc_X11_told (me_X11_told l B) yi_X11_told wd_1079 wd_1080 wd_1081 (T := TX11) (N := 22) rfl (by decide) (by decide +kernel)) <|
  mF (sn_lcmp (pc := 652) X (by decide +kernel)) <|
  mF (sn_if_eq (pc := 653) (off := 807) X (by decide +kernel) (by decide)) <|
  mF (sn_iconst (pc := 656) (n := 0) X (by decide +kernel) (by decide)) <|
  mF (sn_lwret (pc := 657) X hr hk hb (by decide +kernel)) <|
  mF (sn_aload_n (pc := 658) (j := 1) X (by decide +kernel) rfl) <|
  mF (sn_aload_n (pc := 659) (j := 0) X (by decide +kernel) rfl) <|
  mF (sn_iload_n (pc := 660) (j := 3) X (by decide +kernel) rfl) <|
  mF (sn_iconst (pc := 661) (n := 1) X (by decide +kernel) (by decide)) <|
  mF (sn_iadd (pc := 662) X (by decide +kernel)) <|
  mF (sn_iaload (pc := 663) X (by decide +kernel)) <|
  mF (sn_aload_n (pc := 664) (j := 0) X (by decide +kernel) rfl) <|
  mF (sn_iload_n (pc := 665) (j := 3) X (by decide +kernel) rfl) <|
  mF (sn_iconst (pc := 666) (n := 2) X (by decide +kernel) (by decide)) <|
  mF (sn_iadd (pc := 667) X (by decide +kernel)) <|
  mF (sn_iaload (pc := 668) X (by decide +kernel)) <|
  mF (sn_aload_n (pc := 669) (j := 0) X (by decide +kernel) rfl) <|
  mF (sn_iload_n (pc := 670) (j := 3) X (by decide +kernel) rfl) <|
  mF (sn_iconst (pc := 671) (n := 3) X (by decide +kernel) (by decide)) <|
  mF (sn_iadd (pc := 672) X (by decide +kernel)) <|
  mF (sn_iaload (pc := 673) X (by decide +kernel)) <|
  mF (sn_aload_n (pc := 674) (j := 0) X (by decide +kernel) rfl) <|
  mF (sn_iload_n (pc := 675) (j := 3) X (by decide +kernel) rfl) <|
  mF (sn_iconst (pc := 676) (n := 4) X (by decide +kernel) (by decide)) <|
  mF (sn_iadd (pc := 677) X (by decide +kernel)) <|
  mF (sn_iaload (pc := 678) X (by decide +kernel)) <|
  mF (sn_callV (pc := 679) X mc_X10_at (me_X10_at l B) yi_X10_at wd_601 wd_602 wd_603 (T := TX10) (N := 11) rfl (by decide) (by decide +kernel)) <|
  mF (sn_aload_n (pc := 682) (j := 2) X (by decide +kernel) rfl) <|
  mF (sn_aload_n (pc := 683) (j := 0) X (by decide +kernel) rfl) <|
  mF (sn_iload_n (pc := 684) (j := 3) X (by decide +kernel) rfl) <|
  mF (sn_iconst (pc := 685) (n := 1) X (by decide +kernel) (by decide)) <|
  mF (sn_iadd (pc := 686) X (by decide +kernel)) <|
  mF (sn_iaload (pc := 687) X (by decide +kernel)) <|
  mF (sn_aload_n (pc := 688) (j := 0) X (by decide +kernel) rfl) <|
  mF (sn_iload_n (pc := 689) (j := 3) X (by decide +kernel) rfl) <|
  mF (sn_iconst (pc := 690) (n := 2) X (by decide +kernel) (by decide)) <|
  mF (sn_iadd (pc := 691) X (by decide +kernel)) <|
  mF (sn_iaload (pc := 692) X (by decide +kernel)) <|
  mF (sn_aload_n (pc := 693) (j := 0) X (by decide +kernel) rfl) <|
  mF (sn_iload_n (pc := 694) (j := 3) X (by decide +kernel) rfl) <|
  mF (sn_iconst (pc := 695) (n := 3) X (by decide +kernel) (by decide)) <|
  mF (sn_iadd (pc := 696) X (by decide +kernel)) <|
  mF (sn_iaload (pc := 697) X (by decide +kernel)) <|
  mF (sn_aload_n (pc := 698) (j := 0) X (by decide +kernel) rfl) <|
  mF (sn_iload_n (pc := 699) (j := 3) X (by decide +kernel) rfl) <|
  mF (sn_iconst (pc := 700) (n := 4) X (by decide +kernel) (by decide)) <|
  mF (sn_iadd (pc := 701) X (by decide +kernel)) <|
  mF (sn_iaload (pc := 702) X (by decide +kernel)) <|
  mF (sn_callV (pc := 703) X mc_X11_at (me_X11_at l B) yi_X11_at wd_1104 wd_1105 wd_1106 (T := TX11) (N := 22) rfl (by decide) (by decide +kernel)) <|
  mF (sn_lcmp (pc := 706) X (by decide +kernel)) <|
  mF (sn_if_eq (pc := 707) (off := 753) X (by decide +kernel) (by decide)) <|
  mF (sn_iconst (pc := 710) (n := 0) X (by decide +kernel) (by decide)) <|
  mF (sn_lwret (pc := 711) X hr hk hb (by decide +kernel)) <|
  mF (sn_aload_n (pc := 712) (j := 1) X (by decide +kernel) rfl) <|
  mF (sn_aload_n (pc := 713) (j := 0) X (by decide +kernel) rfl) <|
  mF (sn_iload_n (pc := 714) (j := 3) X (by decide +kernel) rfl) <|
  mF (sn_iconst (pc := 715) (n := 1) X (by decide +kernel) (by decide)) <|
  mF (sn_iadd (pc := 716) X (by decide +kernel)) <|
  mF (sn_iaload (pc := 717) X (by decide +kernel)) <|
  mF (sn_aload_n (pc := 718) (j := 0) X (by decide +kernel) rfl) <|
  mF (sn_iload_n (pc := 719) (j := 3) X (by decide +kernel) rfl) <|
  mF (sn_iconst (pc := 720) (n := 2) X (by decide +kernel) (by decide)) <|
  mF (sn_iadd (pc := 721) X (by decide +kernel)) <|
  mF (sn_iaload (pc := 722) X (by decide +kernel)) <|
  mF (sn_aload_n (pc := 723) (j := 0) X (by decide +kernel) rfl) <|
  mF0
set_option maxRecDepth 100000 in
set_option maxHeartbeats 4000000 in
theorem sd_L_law_c7 (l : Launch) (B : mBs) (p : Program) (e : Env) (s : State) (m : MethodId) (xb : Nat) (below : List Frame) (meth : Method) (c : Code) (X : mCx l B RL code 4 p s m #[Value.ref xb] c) (hr : meth.sig.returnType = ret) (hk : meth.locks = false) (hb : bb B = s.heap.size) : ∀ q ∈ tb_L_law_c7, mSnd l B 4 p e (mRm 12 600000 7302250) s m #[Value.ref xb] below meth c (lw_Z below #[Value.ref xb] s) (fun r _ => r = some (.int 1)) q.2 q.1 :=
  mF (sn_iload_n (pc := 724) (j := 3) X (by decide +kernel) rfl) <|
  mF (sn_iconst (pc := 725) (n := 3) X (by decide +kernel) (by decide)) <|
  mF (sn_iadd (pc := 726) X (by decide +kernel)) <|
  mF (sn_iaload (pc := 727) X (by decide +kernel)) <|
  mF (sn_callV (pc := 728) X mc_X10_barAt (me_X10_barAt l B) yi_X10_barAt wd_607 wd_608 wd_609 (T := TX10) (N := 11) rfl (by decide) (by decide +kernel)) <|
  mF (sn_aload_n (pc := 731) (j := 2) X (by decide +kernel) rfl) <|
  mF (sn_aload_n (pc := 732) (j := 0) X (by decide +kernel) rfl) <|
  mF (sn_iload_n (pc := 733) (j := 3) X (by decide +kernel) rfl) <|
  mF (sn_iconst (pc := 734) (n := 1) X (by decide +kernel) (by decide)) <|
  mF (sn_iadd (pc := 735) X (by decide +kernel)) <|
  mF (sn_iaload (pc := 736) X (by decide +kernel)) <|
  mF (sn_aload_n (pc := 737) (j := 0) X (by decide +kernel) rfl) <|
  mF (sn_iload_n (pc := 738) (j := 3) X (by decide +kernel) rfl) <|
  mF (sn_iconst (pc := 739) (n := 2) X (by decide +kernel) (by decide)) <|
  mF (sn_iadd (pc := 740) X (by decide +kernel)) <|
  mF (sn_iaload (pc := 741) X (by decide +kernel)) <|
  mF (sn_aload_n (pc := 742) (j := 0) X (by decide +kernel) rfl) <|
  mF (sn_iload_n (pc := 743) (j := 3) X (by decide +kernel) rfl) <|
  mF (sn_iconst (pc := 744) (n := 3) X (by decide +kernel) (by decide)) <|
  mF (sn_iadd (pc := 745) X (by decide +kernel)) <|
  mF (sn_iaload (pc := 746) X (by decide +kernel)) <|
  mF (sn_callV (pc := 747) X mc_X11_barAt (me_X11_barAt l B) yi_X11_barAt wd_1108 wd_1109 wd_1110 (T := TX11) (N := 22) rfl (by decide) (by decide +kernel)) <|
  mF (sn_lcmp (pc := 750) X (by decide +kernel)) <|
  mF (sn_if_eq (pc := 751) (off := 709) X (by decide +kernel) (by decide)) <|
  mF (sn_iconst (pc := 754) (n := 0) X (by decide +kernel) (by decide)) <|
  mF (sn_lwret (pc := 755) X hr hk hb (by decide +kernel)) <|
  mF (sn_aload_n (pc := 756) (j := 1) X (by decide +kernel) rfl) <|
  mF (sn_aload_n (pc := 757) (j := 0) X (by decide +kernel) rfl) <|
  mF (sn_iload_n (pc := 758) (j := 3) X (by decide +kernel) rfl) <|
  mF (sn_iconst (pc := 759) (n := 1) X (by decide +kernel) (by decide)) <|
  mF (sn_iadd (pc := 760) X (by decide +kernel)) <|
  mF (sn_iaload (pc := 761) X (by decide +kernel)) <|
  mF (sn_aload_n (pc := 762) (j := 0) X (by decide +kernel) rfl) <|
  mF (sn_iload_n (pc := 763) (j := 3) X (by decide +kernel) rfl) <|
  mF (sn_iconst (pc := 764) (n := 2) X (by decide +kernel) (by decide)) <|
  mF (sn_iadd (pc := 765) X (by decide +kernel)) <|
  mF (sn_iaload (pc := 766) X (by decide +kernel)) <|
  mF (sn_aload_n (pc := 767) (j := 0) X (by decide +kernel) rfl) <|
  mF (sn_iload_n (pc := 768) (j := 3) X (by decide +kernel) rfl) <|
  mF (sn_iconst (pc := 769) (n := 3) X (by decide +kernel) (by decide)) <|
  mF (sn_iadd (pc := 770) X (by decide +kernel)) <|
  mF (sn_iaload (pc := 771) X (by decide +kernel)) <|
  mF (sn_aload_n (pc := 772) (j := 0) X (by decide +kernel) rfl) <|
  mF (sn_iload_n (pc := 773) (j := 3) X (by decide +kernel) rfl) <|
  mF (sn_iconst (pc := 774) (n := 4) X (by decide +kernel) (by decide)) <|
  mF (sn_iadd (pc := 775) X (by decide +kernel)) <|
  mF (sn_iaload (pc := 776) X (by decide +kernel)) <|
  mF (sn_aload_n (pc := 777) (j := 0) X (by decide +kernel) rfl) <|
  mF (sn_iload_n (pc := 778) (j := 3) X (by decide +kernel) rfl) <|
  mF (sn_iconst (pc := 779) (n := 5) X (by decide +kernel) (by decide)) <|
  mF (sn_iadd (pc := 780) X (by decide +kernel)) <|
  mF (sn_iaload (pc := 781) X (by decide +kernel)) <|
  mF (sn_callV (pc := 782) X mc_X10_hold (me_X10_hold l B) yi_X10_hold wd_615 wd_616 wd_617 (T := TX10) (N := 11) rfl (by decide) (by decide +kernel)) <|
  mF (sn_aload_n (pc := 785) (j := 2) X (by decide +kernel) rfl) <|
  mF (sn_aload_n (pc := 786) (j := 0) X (by decide +kernel) rfl) <|
  mF (sn_iload_n (pc := 787) (j := 3) X (by decide +kernel) rfl) <|
  mF (sn_iconst (pc := 788) (n := 1) X (by decide +kernel) (by decide)) <|
  mF (sn_iadd (pc := 789) X (by decide +kernel)) <|
  mF (sn_iaload (pc := 790) X (by decide +kernel)) <|
  mF (sn_aload_n (pc := 791) (j := 0) X (by decide +kernel) rfl) <|
  mF (sn_iload_n (pc := 792) (j := 3) X (by decide +kernel) rfl) <|
  mF (sn_iconst (pc := 793) (n := 2) X (by decide +kernel) (by decide)) <|
  mF (sn_iadd (pc := 794) X (by decide +kernel)) <|
  mF (sn_iaload (pc := 795) X (by decide +kernel)) <|
  mF (sn_aload_n (pc := 796) (j := 0) X (by decide +kernel) rfl) <|
  mF (sn_iload_n (pc := 797) (j := 3) X (by decide +kernel) rfl) <|
  mF (sn_iconst (pc := 798) (n := 3) X (by decide +kernel) (by decide)) <|
  mF (sn_iadd (pc := 799) X (by decide +kernel)) <|
  mF (sn_iaload (pc := 800) X (by decide +kernel)) <|
  mF (sn_aload_n (pc := 801) (j := 0) X (by decide +kernel) rfl) <|
  mF0
set_option maxRecDepth 100000 in
set_option maxHeartbeats 4000000 in
theorem sd_L_law_c8 (l : Launch) (B : mBs) (p : Program) (e : Env) (s : State) (m : MethodId) (xb : Nat) (below : List Frame) (meth : Method) (c : Code) (X : mCx l B RL code 4 p s m #[Value.ref xb] c) (hr : meth.sig.returnType = ret) (hk : meth.locks = false) (hb : bb B = s.heap.size) : ∀ q ∈ tb_L_law_c8, mSnd l B 4 p e (mRm 12 600000 7302250) s m #[Value.ref xb] below meth c (lw_Z below #[Value.ref xb] s) (fun r _ => r = some (.int 1)) q.2 q.1 :=
  mF (sn_iload_n (pc := 802) (j := 3) X (by decide +kernel) rfl) <|
  mF (sn_iconst (pc := 803) (n := 4) X (by decide +kernel) (by decide)) <|
  mF (sn_iadd (pc := 804) X (by decide +kernel)) <|
  mF (sn_iaload (pc := 805) X (by decide +kernel)) <|
  mF (sn_aload_n (pc := 806) (j := 0) X (by decide +kernel) rfl) <|
  mF (sn_iload_n (pc := 807) (j := 3) X (by decide +kernel) rfl) <|
  mF (sn_iconst (pc := 808) (n := 5) X (by decide +kernel) (by decide)) <|
  mF (sn_iadd (pc := 809) X (by decide +kernel)) <|
  mF (sn_iaload (pc := 810) X (by decide +kernel)) <|
  mF (sn_callV (pc := 811) X mc_X11_hold (me_X11_hold l B) yi_X11_hold wd_1120 wd_1121 wd_1122 (T := TX11) (N := 22) rfl (by decide) (by decide +kernel)) <|
  mF (sn_lcmp (pc := 814) X (by decide +kernel)) <|
  mF (sn_if_eq (pc := 815) (off := 645) X (by decide +kernel) (by decide)) <|
  mF (sn_iconst (pc := 818) (n := 0) X (by decide +kernel) (by decide)) <|
  mF (sn_lwret (pc := 819) X hr hk hb (by decide +kernel)) <|
  mF (sn_aload_n (pc := 820) (j := 1) X (by decide +kernel) rfl) <|
  mF (sn_aload_n (pc := 821) (j := 0) X (by decide +kernel) rfl) <|
  mF (sn_iload_n (pc := 822) (j := 3) X (by decide +kernel) rfl) <|
  mF (sn_iconst (pc := 823) (n := 1) X (by decide +kernel) (by decide)) <|
  mF (sn_iadd (pc := 824) X (by decide +kernel)) <|
  mF (sn_iaload (pc := 825) X (by decide +kernel)) <|
  mF (sn_aload_n (pc := 826) (j := 0) X (by decide +kernel) rfl) <|
  mF (sn_iload_n (pc := 827) (j := 3) X (by decide +kernel) rfl) <|
  mF (sn_iconst (pc := 828) (n := 2) X (by decide +kernel) (by decide)) <|
  mF (sn_iadd (pc := 829) X (by decide +kernel)) <|
  mF (sn_iaload (pc := 830) X (by decide +kernel)) <|
  mF (sn_callV (pc := 831) X mc_X10_drop (me_X10_drop l B) yi_X10_drop wd_626 wd_627 wd_628 (T := TX10) (N := 11) rfl (by decide) (by decide +kernel)) <|
  mF (sn_aload_n (pc := 834) (j := 2) X (by decide +kernel) rfl) <|
  mF (sn_aload_n (pc := 835) (j := 0) X (by decide +kernel) rfl) <|
  mF (sn_iload_n (pc := 836) (j := 3) X (by decide +kernel) rfl) <|
  mF (sn_iconst (pc := 837) (n := 1) X (by decide +kernel) (by decide)) <|
  mF (sn_iadd (pc := 838) X (by decide +kernel)) <|
  mF (sn_iaload (pc := 839) X (by decide +kernel)) <|
  mF (sn_aload_n (pc := 840) (j := 0) X (by decide +kernel) rfl) <|
  mF (sn_iload_n (pc := 841) (j := 3) X (by decide +kernel) rfl) <|
  mF (sn_iconst (pc := 842) (n := 2) X (by decide +kernel) (by decide)) <|
  mF (sn_iadd (pc := 843) X (by decide +kernel)) <|
  mF (sn_iaload (pc := 844) X (by decide +kernel)) <|
  mF (sn_callV (pc := 845) X mc_X11_drop (me_X11_drop l B) yi_X11_drop wd_1124 wd_1125 wd_1126 (T := TX11) (N := 22) rfl (by decide) (by decide +kernel)) <|
  mF (sn_lcmp (pc := 848) X (by decide +kernel)) <|
  mF (sn_if_eq (pc := 849) (off := 611) X (by decide +kernel) (by decide)) <|
  mF (sn_iconst (pc := 852) (n := 0) X (by decide +kernel) (by decide)) <|
  mF (sn_lwret (pc := 853) X hr hk hb (by decide +kernel)) <|
  mF (sn_aload_n (pc := 854) (j := 1) X (by decide +kernel) rfl) <|
  mF (sn_aload_n (pc := 855) (j := 0) X (by decide +kernel) rfl) <|
  mF (sn_iload_n (pc := 856) (j := 3) X (by decide +kernel) rfl) <|
  mF (sn_iconst (pc := 857) (n := 1) X (by decide +kernel) (by decide)) <|
  mF (sn_iadd (pc := 858) X (by decide +kernel)) <|
  mF (sn_iaload (pc := 859) X (by decide +kernel)) <|
  mF (sn_aload_n (pc := 860) (j := 0) X (by decide +kernel) rfl) <|
  mF (sn_iload_n (pc := 861) (j := 3) X (by decide +kernel) rfl) <|
  mF (sn_iconst (pc := 862) (n := 2) X (by decide +kernel) (by decide)) <|
  mF (sn_iadd (pc := 863) X (by decide +kernel)) <|
  mF (sn_iaload (pc := 864) X (by decide +kernel)) <|
  mF (sn_aload_n (pc := 865) (j := 0) X (by decide +kernel) rfl) <|
  mF (sn_iload_n (pc := 866) (j := 3) X (by decide +kernel) rfl) <|
  mF (sn_iconst (pc := 867) (n := 3) X (by decide +kernel) (by decide)) <|
  mF (sn_iadd (pc := 868) X (by decide +kernel)) <|
  mF (sn_iaload (pc := 869) X (by decide +kernel)) <|
  mF (sn_callV (pc := 870) X mc_X10_pluck (me_X10_pluck l B) yi_X10_pluck wd_635 wd_636 wd_637 (T := TX10) (N := 11) rfl (by decide) (by decide +kernel)) <|
  mF (sn_aload_n (pc := 873) (j := 2) X (by decide +kernel) rfl) <|
  mF (sn_aload_n (pc := 874) (j := 0) X (by decide +kernel) rfl) <|
  mF (sn_iload_n (pc := 875) (j := 3) X (by decide +kernel) rfl) <|
  mF (sn_iconst (pc := 876) (n := 1) X (by decide +kernel) (by decide)) <|
  mF (sn_iadd (pc := 877) X (by decide +kernel)) <|
  mF (sn_iaload (pc := 878) X (by decide +kernel)) <|
  mF (sn_aload_n (pc := 879) (j := 0) X (by decide +kernel) rfl) <|
  mF (sn_iload_n (pc := 880) (j := 3) X (by decide +kernel) rfl) <|
  mF (sn_iconst (pc := 881) (n := 2) X (by decide +kernel) (by decide)) <|
  mF (sn_iadd (pc := 882) X (by decide +kernel)) <|
  mF (sn_iaload (pc := 883) X (by decide +kernel)) <|
  mF0
set_option maxRecDepth 100000 in
set_option maxHeartbeats 4000000 in
theorem sd_L_law_c9 (l : Launch) (B : mBs) (p : Program) (e : Env) (s : State) (m : MethodId) (xb : Nat) (below : List Frame) (meth : Method) (c : Code) (X : mCx l B RL code 4 p s m #[Value.ref xb] c) (hr : meth.sig.returnType = ret) (hk : meth.locks = false) (hb : bb B = s.heap.size) : ∀ q ∈ tb_L_law_c9, mSnd l B 4 p e (mRm 12 600000 7302250) s m #[Value.ref xb] below meth c (lw_Z below #[Value.ref xb] s) (fun r _ => r = some (.int 1)) q.2 q.1 :=
  mF (sn_aload_n (pc := 884) (j := 0) X (by decide +kernel) rfl) <|
  mF (sn_iload_n (pc := 885) (j := 3) X (by decide +kernel) rfl) <|
  mF (sn_iconst (pc := 886) (n := 3) X (by decide +kernel) (by decide)) <|
  mF (sn_iadd (pc := 887) X (by decide +kernel)) <|
  mF (sn_iaload (pc := 888) X (by decide +kernel)) <|
  mF (sn_callV (pc := 889) X mc_X11_pluck (me_X11_pluck l B) yi_X11_pluck wd_1132 wd_1133 wd_1134 (T := TX11) (N := 22) rfl (by decide) (by decide +kernel)) <|
  mF (sn_lcmp (pc := 892) X (by decide +kernel)) <|
  mF (sn_if_eq (pc := 893) (off := 567) X (by decide +kernel) (by decide)) <|
  mF (sn_iconst (pc := 896) (n := 0) X (by decide +kernel) (by decide)) <|
  mF (sn_lwret (pc := 897) X hr hk hb (by decide +kernel)) <|
  mF (sn_aload_n (pc := 898) (j := 1) X (by decide +kernel) rfl) <|
  mF (sn_aload_n (pc := 899) (j := 0) X (by decide +kernel) rfl) <|
  mF (sn_iload_n (pc := 900) (j := 3) X (by decide +kernel) rfl) <|
  mF (sn_iconst (pc := 901) (n := 1) X (by decide +kernel) (by decide)) <|
  mF (sn_iadd (pc := 902) X (by decide +kernel)) <|
  mF (sn_iaload (pc := 903) X (by decide +kernel)) <|
  mF (sn_aload_n (pc := 904) (j := 0) X (by decide +kernel) rfl) <|
  mF (sn_iload_n (pc := 905) (j := 3) X (by decide +kernel) rfl) <|
  mF (sn_iconst (pc := 906) (n := 2) X (by decide +kernel) (by decide)) <|
  mF (sn_iadd (pc := 907) X (by decide +kernel)) <|
  mF (sn_iaload (pc := 908) X (by decide +kernel)) <|
  mF (sn_aload_n (pc := 909) (j := 0) X (by decide +kernel) rfl) <|
  mF (sn_iload_n (pc := 910) (j := 3) X (by decide +kernel) rfl) <|
  mF (sn_iconst (pc := 911) (n := 3) X (by decide +kernel) (by decide)) <|
  mF (sn_iadd (pc := 912) X (by decide +kernel)) <|
  mF (sn_iaload (pc := 913) X (by decide +kernel)) <|
  mF (sn_callV (pc := 914) X mc_X10_holds (me_X10_holds l B) yi_X10_holds wd_639 wd_640 wd_641 (T := TX10) (N := 11) rfl (by decide) (by decide +kernel)) <|
  mF (sn_aload_n (pc := 917) (j := 2) X (by decide +kernel) rfl) <|
  mF (sn_aload_n (pc := 918) (j := 0) X (by decide +kernel) rfl) <|
  mF (sn_iload_n (pc := 919) (j := 3) X (by decide +kernel) rfl) <|
  mF (sn_iconst (pc := 920) (n := 1) X (by decide +kernel) (by decide)) <|
  mF (sn_iadd (pc := 921) X (by decide +kernel)) <|
  mF (sn_iaload (pc := 922) X (by decide +kernel)) <|
  mF (sn_aload_n (pc := 923) (j := 0) X (by decide +kernel) rfl) <|
  mF (sn_iload_n (pc := 924) (j := 3) X (by decide +kernel) rfl) <|
  mF (sn_iconst (pc := 925) (n := 2) X (by decide +kernel) (by decide)) <|
  mF (sn_iadd (pc := 926) X (by decide +kernel)) <|
  mF (sn_iaload (pc := 927) X (by decide +kernel)) <|
  mF (sn_aload_n (pc := 928) (j := 0) X (by decide +kernel) rfl) <|
  mF (sn_iload_n (pc := 929) (j := 3) X (by decide +kernel) rfl) <|
  mF (sn_iconst (pc := 930) (n := 3) X (by decide +kernel) (by decide)) <|
  mF (sn_iadd (pc := 931) X (by decide +kernel)) <|
  mF (sn_iaload (pc := 932) X (by decide +kernel)) <|
  mF (sn_callV (pc := 933) X mc_X11_holds (me_X11_holds l B) yi_X11_holds wd_1136 wd_1137 wd_1138 (T := TX11) (N := 22) rfl (by decide) (by decide +kernel)) <|
  mF (sn_lcmp (pc := 936) X (by decide +kernel)) <|
  mF (sn_if_eq (pc := 937) (off := 523) X (by decide +kernel) (by decide)) <|
  mF (sn_iconst (pc := 940) (n := 0) X (by decide +kernel) (by decide)) <|
  mF (sn_lwret (pc := 941) X hr hk hb (by decide +kernel)) <|
  mF (sn_aload_n (pc := 942) (j := 1) X (by decide +kernel) rfl) <|
  mF (sn_aload_n (pc := 943) (j := 0) X (by decide +kernel) rfl) <|
  mF (sn_iload_n (pc := 944) (j := 3) X (by decide +kernel) rfl) <|
  mF (sn_iconst (pc := 945) (n := 1) X (by decide +kernel) (by decide)) <|
  mF (sn_iadd (pc := 946) X (by decide +kernel)) <|
  mF (sn_iaload (pc := 947) X (by decide +kernel)) <|
  mF (sn_aload_n (pc := 948) (j := 0) X (by decide +kernel) rfl) <|
  mF (sn_iload_n (pc := 949) (j := 3) X (by decide +kernel) rfl) <|
  mF (sn_iconst (pc := 950) (n := 2) X (by decide +kernel) (by decide)) <|
  mF (sn_iadd (pc := 951) X (by decide +kernel)) <|
  mF (sn_iaload (pc := 952) X (by decide +kernel)) <|
  mF (sn_aload_n (pc := 953) (j := 0) X (by decide +kernel) rfl) <|
  mF (sn_iload_n (pc := 954) (j := 3) X (by decide +kernel) rfl) <|
  mF (sn_iconst (pc := 955) (n := 3) X (by decide +kernel) (by decide)) <|
  mF (sn_iadd (pc := 956) X (by decide +kernel)) <|
  mF (sn_iaload (pc := 957) X (by decide +kernel)) <|
  mF (sn_callV (pc := 958) X mc_X10_isOf (me_X10_isOf l B) yi_X10_isOf wd_685 wd_686 wd_687 (T := TX10) (N := 11) rfl (by decide) (by decide +kernel)) <|
  mF (sn_aload_n (pc := 961) (j := 2) X (by decide +kernel) rfl) <|
  mF (sn_aload_n (pc := 962) (j := 0) X (by decide +kernel) rfl) <|
  mF (sn_iload_n (pc := 963) (j := 3) X (by decide +kernel) rfl) <|
  mF (sn_iconst (pc := 964) (n := 1) X (by decide +kernel) (by decide)) <|
  mF (sn_iadd (pc := 965) X (by decide +kernel)) <|
  mF0
set_option maxRecDepth 100000 in
set_option maxHeartbeats 4000000 in
theorem sd_L_law_c10 (l : Launch) (B : mBs) (p : Program) (e : Env) (s : State) (m : MethodId) (xb : Nat) (below : List Frame) (meth : Method) (c : Code) (X : mCx l B RL code 4 p s m #[Value.ref xb] c) (hr : meth.sig.returnType = ret) (hk : meth.locks = false) (hb : bb B = s.heap.size) : ∀ q ∈ tb_L_law_c10, mSnd l B 4 p e (mRm 12 600000 7302250) s m #[Value.ref xb] below meth c (lw_Z below #[Value.ref xb] s) (fun r _ => r = some (.int 1)) q.2 q.1 :=
  mF (sn_iaload (pc := 966) X (by decide +kernel)) <|
  mF (sn_aload_n (pc := 967) (j := 0) X (by decide +kernel) rfl) <|
  mF (sn_iload_n (pc := 968) (j := 3) X (by decide +kernel) rfl) <|
  mF (sn_iconst (pc := 969) (n := 2) X (by decide +kernel) (by decide)) <|
  mF (sn_iadd (pc := 970) X (by decide +kernel)) <|
  mF (sn_iaload (pc := 971) X (by decide +kernel)) <|
  mF (sn_aload_n (pc := 972) (j := 0) X (by decide +kernel) rfl) <|
  mF (sn_iload_n (pc := 973) (j := 3) X (by decide +kernel) rfl) <|
  mF (sn_iconst (pc := 974) (n := 3) X (by decide +kernel) (by decide)) <|
  mF (sn_iadd (pc := 975) X (by decide +kernel)) <|
  mF (sn_iaload (pc := 976) X (by decide +kernel)) <|
  mF (sn_callV (pc := 977) X mc_X11_isOf (me_X11_isOf l B) yi_X11_isOf wd_1165 wd_1166 wd_1167 (T := TX11) (N := 22) rfl (by decide) (by decide +kernel)) <|
  mF (sn_lcmp (pc := 980) X (by decide +kernel)) <|
  mF (sn_if_eq (pc := 981) (off := 479) X (by decide +kernel) (by decide)) <|
  mF (sn_iconst (pc := 984) (n := 0) X (by decide +kernel) (by decide)) <|
  mF (sn_lwret (pc := 985) X hr hk hb (by decide +kernel)) <|
  mF (sn_aload_n (pc := 986) (j := 1) X (by decide +kernel) rfl) <|
  mF (sn_aload_n (pc := 987) (j := 0) X (by decide +kernel) rfl) <|
  mF (sn_iload_n (pc := 988) (j := 3) X (by decide +kernel) rfl) <|
  mF (sn_iconst (pc := 989) (n := 1) X (by decide +kernel) (by decide)) <|
  mF (sn_iadd (pc := 990) X (by decide +kernel)) <|
  mF (sn_iaload (pc := 991) X (by decide +kernel)) <|
  mF (sn_aload_n (pc := 992) (j := 0) X (by decide +kernel) rfl) <|
  mF (sn_iload_n (pc := 993) (j := 3) X (by decide +kernel) rfl) <|
  mF (sn_iconst (pc := 994) (n := 2) X (by decide +kernel) (by decide)) <|
  mF (sn_iadd (pc := 995) X (by decide +kernel)) <|
  mF (sn_iaload (pc := 996) X (by decide +kernel)) <|
  mF (sn_callV (pc := 997) X mc_X10_lies (me_X10_lies l B) yi_X10_lies wd_689 wd_690 wd_691 (T := TX10) (N := 11) rfl (by decide) (by decide +kernel)) <|
  mF (sn_aload_n (pc := 1000) (j := 2) X (by decide +kernel) rfl) <|
  mF (sn_aload_n (pc := 1001) (j := 0) X (by decide +kernel) rfl) <|
  mF (sn_iload_n (pc := 1002) (j := 3) X (by decide +kernel) rfl) <|
  mF (sn_iconst (pc := 1003) (n := 1) X (by decide +kernel) (by decide)) <|
  mF (sn_iadd (pc := 1004) X (by decide +kernel)) <|
  mF (sn_iaload (pc := 1005) X (by decide +kernel)) <|
  mF (sn_aload_n (pc := 1006) (j := 0) X (by decide +kernel) rfl) <|
  mF (sn_iload_n (pc := 1007) (j := 3) X (by decide +kernel) rfl) <|
  mF (sn_iconst (pc := 1008) (n := 2) X (by decide +kernel) (by decide)) <|
  mF (sn_iadd (pc := 1009) X (by decide +kernel)) <|
  mF (sn_iaload (pc := 1010) X (by decide +kernel)) <|
  mF (sn_callV (pc := 1011) X mc_X11_lies (me_X11_lies l B) yi_X11_lies wd_1169 wd_1170 wd_1171 (T := TX11) (N := 22) rfl (by decide) (by decide +kernel)) <|
  mF (sn_lcmp (pc := 1014) X (by decide +kernel)) <|
  mF (sn_if_eq (pc := 1015) (off := 445) X (by decide +kernel) (by decide)) <|
  mF (sn_iconst (pc := 1018) (n := 0) X (by decide +kernel) (by decide)) <|
  mF (sn_lwret (pc := 1019) X hr hk hb (by decide +kernel)) <|
  mF (sn_aload_n (pc := 1020) (j := 1) X (by decide +kernel) rfl) <|
  mF (sn_aload_n (pc := 1021) (j := 0) X (by decide +kernel) rfl) <|
  mF (sn_iload_n (pc := 1022) (j := 3) X (by decide +kernel) rfl) <|
  mF (sn_iconst (pc := 1023) (n := 1) X (by decide +kernel) (by decide)) <|
  mF (sn_iadd (pc := 1024) X (by decide +kernel)) <|
  mF (sn_iaload (pc := 1025) X (by decide +kernel)) <|
  mF (sn_callV (pc := 1026) X mc_X10_why (me_X10_why l B) yi_X10_why wd_709 wd_710 wd_711 (T := TX10) (N := 11) rfl (by decide) (by decide +kernel)) <|
  mF (sn_aload_n (pc := 1029) (j := 2) X (by decide +kernel) rfl) <|
  mF (sn_aload_n (pc := 1030) (j := 0) X (by decide +kernel) rfl) <|
  mF (sn_iload_n (pc := 1031) (j := 3) X (by decide +kernel) rfl) <|
  mF (sn_iconst (pc := 1032) (n := 1) X (by decide +kernel) (by decide)) <|
  mF (sn_iadd (pc := 1033) X (by decide +kernel)) <|
  mF (sn_iaload (pc := 1034) X (by decide +kernel)) <|
  mF (sn_callV (pc := 1035) X mc_X11_why (me_X11_why l B) yi_X11_why wd_1181 wd_1182 wd_1183 (T := TX11) (N := 22) rfl (by decide) (by decide +kernel)) <|
  mF (sn_lcmp (pc := 1038) X (by decide +kernel)) <|
  mF (sn_if_eq (pc := 1039) (off := 421) X (by decide +kernel) (by decide)) <|
  mF (sn_iconst (pc := 1042) (n := 0) X (by decide +kernel) (by decide)) <|
  mF (sn_lwret (pc := 1043) X hr hk hb (by decide +kernel)) <|
  mF (sn_aload_n (pc := 1044) (j := 1) X (by decide +kernel) rfl) <|
  mF (sn_aload_n (pc := 1045) (j := 0) X (by decide +kernel) rfl) <|
  mF (sn_iload_n (pc := 1046) (j := 3) X (by decide +kernel) rfl) <|
  mF (sn_iconst (pc := 1047) (n := 1) X (by decide +kernel) (by decide)) <|
  mF (sn_iadd (pc := 1048) X (by decide +kernel)) <|
  mF (sn_iaload (pc := 1049) X (by decide +kernel)) <|
  mF (sn_aload_n (pc := 1050) (j := 0) X (by decide +kernel) rfl) <|
  mF (sn_iload_n (pc := 1051) (j := 3) X (by decide +kernel) rfl) <|
  mF0
set_option maxRecDepth 100000 in
set_option maxHeartbeats 4000000 in
theorem sd_L_law_c11 (l : Launch) (B : mBs) (p : Program) (e : Env) (s : State) (m : MethodId) (xb : Nat) (below : List Frame) (meth : Method) (c : Code) (X : mCx l B RL code 4 p s m #[Value.ref xb] c) (hr : meth.sig.returnType = ret) (hk : meth.locks = false) (hb : bb B = s.heap.size) : ∀ q ∈ tb_L_law_c11, mSnd l B 4 p e (mRm 12 600000 7302250) s m #[Value.ref xb] below meth c (lw_Z below #[Value.ref xb] s) (fun r _ => r = some (.int 1)) q.2 q.1 :=
  mF (sn_iconst (pc := 1052) (n := 2) X (by decide +kernel) (by decide)) <|
  mF (sn_iadd (pc := 1053) X (by decide +kernel)) <|
  mF (sn_iaload (pc := 1054) X (by decide +kernel)) <|
  mF (sn_callV (pc := 1055) X mc_X10_rest (me_X10_rest l B) yi_X10_rest wd_713 wd_714 wd_715 (T := TX10) (N := 11) rfl (by decide) (by decide +kernel)) <|
  mF (sn_aload_n (pc := 1058) (j := 2) X (by decide +kernel) rfl) <|
  mF (sn_aload_n (pc := 1059) (j := 0) X (by decide +kernel) rfl) <|
  mF (sn_iload_n (pc := 1060) (j := 3) X (by decide +kernel) rfl) <|
  mF (sn_iconst (pc := 1061) (n := 1) X (by decide +kernel) (by decide)) <|
  mF (sn_iadd (pc := 1062) X (by decide +kernel)) <|
  mF (sn_iaload (pc := 1063) X (by decide +kernel)) <|
  mF (sn_aload_n (pc := 1064) (j := 0) X (by decide +kernel) rfl) <|
  mF (sn_iload_n (pc := 1065) (j := 3) X (by decide +kernel) rfl) <|
  mF (sn_iconst (pc := 1066) (n := 2) X (by decide +kernel) (by decide)) <|
  mF (sn_iadd (pc := 1067) X (by decide +kernel)) <|
  mF (sn_iaload (pc := 1068) X (by decide +kernel)) <|
  mF (sn_callV (pc := 1069) X mc_X11_rest (me_X11_rest l B) yi_X11_rest wd_1185 wd_1186 wd_1187 (T := TX11) (N := 22) rfl (by decide) (by decide +kernel)) <|
  mF (sn_lcmp (pc := 1072) X (by decide +kernel)) <|
  mF (sn_if_eq (pc := 1073) (off := 387) X (by decide +kernel) (by decide)) <|
  mF (sn_iconst (pc := 1076) (n := 0) X (by decide +kernel) (by decide)) <|
  mF (sn_lwret (pc := 1077) X hr hk hb (by decide +kernel)) <|
  mF (sn_aload_n (pc := 1078) (j := 1) X (by decide +kernel) rfl) <|
  mF (sn_aload_n (pc := 1079) (j := 0) X (by decide +kernel) rfl) <|
  mF (sn_iload_n (pc := 1080) (j := 3) X (by decide +kernel) rfl) <|
  mF (sn_iconst (pc := 1081) (n := 1) X (by decide +kernel) (by decide)) <|
  mF (sn_iadd (pc := 1082) X (by decide +kernel)) <|
  mF (sn_iaload (pc := 1083) X (by decide +kernel)) <|
  mF (sn_callV (pc := 1084) X mc_X10_isStill (me_X10_isStill l B) yi_X10_isStill wd_745 wd_746 wd_747 (T := TX10) (N := 11) rfl (by decide) (by decide +kernel)) <|
  mF (sn_aload_n (pc := 1087) (j := 2) X (by decide +kernel) rfl) <|
  mF (sn_aload_n (pc := 1088) (j := 0) X (by decide +kernel) rfl) <|
  mF (sn_iload_n (pc := 1089) (j := 3) X (by decide +kernel) rfl) <|
  mF (sn_iconst (pc := 1090) (n := 1) X (by decide +kernel) (by decide)) <|
  mF (sn_iadd (pc := 1091) X (by decide +kernel)) <|
  mF (sn_iaload (pc := 1092) X (by decide +kernel)) <|
  mF (sn_callV (pc := 1093) X mc_X11_isStill (me_X11_isStill l B) yi_X11_isStill wd_1209 wd_1210 wd_1211 (T := TX11) (N := 22) rfl (by decide) (by decide +kernel)) <|
  mF (sn_lcmp (pc := 1096) X (by decide +kernel)) <|
  mF (sn_if_eq (pc := 1097) (off := 363) X (by decide +kernel) (by decide)) <|
  mF (sn_iconst (pc := 1100) (n := 0) X (by decide +kernel) (by decide)) <|
  mF (sn_lwret (pc := 1101) X hr hk hb (by decide +kernel)) <|
  mF (sn_aload_n (pc := 1102) (j := 1) X (by decide +kernel) rfl) <|
  mF (sn_aload_n (pc := 1103) (j := 0) X (by decide +kernel) rfl) <|
  mF (sn_iload_n (pc := 1104) (j := 3) X (by decide +kernel) rfl) <|
  mF (sn_iconst (pc := 1105) (n := 1) X (by decide +kernel) (by decide)) <|
  mF (sn_iadd (pc := 1106) X (by decide +kernel)) <|
  mF (sn_iaload (pc := 1107) X (by decide +kernel)) <|
  mF (sn_callV (pc := 1108) X mc_X10_lowest (me_X10_lowest l B) yi_X10_lowest wd_750 wd_751 wd_752 (T := TX10) (N := 11) rfl (by decide) (by decide +kernel)) <|
  mF (sn_aload_n (pc := 1111) (j := 2) X (by decide +kernel) rfl) <|
  mF (sn_aload_n (pc := 1112) (j := 0) X (by decide +kernel) rfl) <|
  mF (sn_iload_n (pc := 1113) (j := 3) X (by decide +kernel) rfl) <|
  mF (sn_iconst (pc := 1114) (n := 1) X (by decide +kernel) (by decide)) <|
  mF (sn_iadd (pc := 1115) X (by decide +kernel)) <|
  mF (sn_iaload (pc := 1116) X (by decide +kernel)) <|
  mF (sn_callV (pc := 1117) X mc_X11_lowest (me_X11_lowest l B) yi_X11_lowest wd_1221 wd_1222 wd_1223 (T := TX11) (N := 22) rfl (by decide) (by decide +kernel)) <|
  mF (sn_lcmp (pc := 1120) X (by decide +kernel)) <|
  mF (sn_if_eq (pc := 1121) (off := 339) X (by decide +kernel) (by decide)) <|
  mF (sn_iconst (pc := 1124) (n := 0) X (by decide +kernel) (by decide)) <|
  mF (sn_lwret (pc := 1125) X hr hk hb (by decide +kernel)) <|
  mF (sn_aload_n (pc := 1126) (j := 1) X (by decide +kernel) rfl) <|
  mF (sn_aload_n (pc := 1127) (j := 0) X (by decide +kernel) rfl) <|
  mF (sn_iload_n (pc := 1128) (j := 3) X (by decide +kernel) rfl) <|
  mF (sn_iconst (pc := 1129) (n := 1) X (by decide +kernel) (by decide)) <|
  mF (sn_iadd (pc := 1130) X (by decide +kernel)) <|
  mF (sn_iaload (pc := 1131) X (by decide +kernel)) <|
  mF (sn_aload_n (pc := 1132) (j := 0) X (by decide +kernel) rfl) <|
  mF (sn_iload_n (pc := 1133) (j := 3) X (by decide +kernel) rfl) <|
  mF (sn_iconst (pc := 1134) (n := 2) X (by decide +kernel) (by decide)) <|
  mF (sn_iadd (pc := 1135) X (by decide +kernel)) <|
  mF (sn_iaload (pc := 1136) X (by decide +kernel)) <|
  mF (sn_aload_n (pc := 1137) (j := 0) X (by decide +kernel) rfl) <|
  mF (sn_iload_n (pc := 1138) (j := 3) X (by decide +kernel) rfl) <|
  mF (sn_iconst (pc := 1139) (n := 3) X (by decide +kernel) (by decide)) <|
  mF0
set_option maxRecDepth 100000 in
set_option maxHeartbeats 4000000 in
theorem sd_L_law_c12 (l : Launch) (B : mBs) (p : Program) (e : Env) (s : State) (m : MethodId) (xb : Nat) (below : List Frame) (meth : Method) (c : Code) (X : mCx l B RL code 4 p s m #[Value.ref xb] c) (hr : meth.sig.returnType = ret) (hk : meth.locks = false) (hb : bb B = s.heap.size) : ∀ q ∈ tb_L_law_c12, mSnd l B 4 p e (mRm 12 600000 7302250) s m #[Value.ref xb] below meth c (lw_Z below #[Value.ref xb] s) (fun r _ => r = some (.int 1)) q.2 q.1 :=
  mF (sn_iadd (pc := 1140) X (by decide +kernel)) <|
  mF (sn_iaload (pc := 1141) X (by decide +kernel)) <|
  mF (sn_aload_n (pc := 1142) (j := 0) X (by decide +kernel) rfl) <|
  mF (sn_iload_n (pc := 1143) (j := 3) X (by decide +kernel) rfl) <|
  mF (sn_iconst (pc := 1144) (n := 4) X (by decide +kernel) (by decide)) <|
  mF (sn_iadd (pc := 1145) X (by decide +kernel)) <|
  mF (sn_iaload (pc := 1146) X (by decide +kernel)) <|
  mF (sn_callV (pc := 1147) X mc_X10_tick (me_X10_tick l B) yi_X10_tick wd_761 wd_762 wd_763 (T := TX10) (N := 11) rfl (by decide) (by decide +kernel)) <|
  mF (sn_aload_n (pc := 1150) (j := 2) X (by decide +kernel) rfl) <|
  mF (sn_aload_n (pc := 1151) (j := 0) X (by decide +kernel) rfl) <|
  mF (sn_iload_n (pc := 1152) (j := 3) X (by decide +kernel) rfl) <|
  mF (sn_iconst (pc := 1153) (n := 1) X (by decide +kernel) (by decide)) <|
  mF (sn_iadd (pc := 1154) X (by decide +kernel)) <|
  mF (sn_iaload (pc := 1155) X (by decide +kernel)) <|
  mF (sn_aload_n (pc := 1156) (j := 0) X (by decide +kernel) rfl) <|
  mF (sn_iload_n (pc := 1157) (j := 3) X (by decide +kernel) rfl) <|
  mF (sn_iconst (pc := 1158) (n := 2) X (by decide +kernel) (by decide)) <|
  mF (sn_iadd (pc := 1159) X (by decide +kernel)) <|
  mF (sn_iaload (pc := 1160) X (by decide +kernel)) <|
  mF (sn_aload_n (pc := 1161) (j := 0) X (by decide +kernel) rfl) <|
  mF (sn_iload_n (pc := 1162) (j := 3) X (by decide +kernel) rfl) <|
  mF (sn_iconst (pc := 1163) (n := 3) X (by decide +kernel) (by decide)) <|
  mF (sn_iadd (pc := 1164) X (by decide +kernel)) <|
  mF (sn_iaload (pc := 1165) X (by decide +kernel)) <|
  mF (sn_aload_n (pc := 1166) (j := 0) X (by decide +kernel) rfl) <|
  mF (sn_iload_n (pc := 1167) (j := 3) X (by decide +kernel) rfl) <|
  mF (sn_iconst (pc := 1168) (n := 4) X (by decide +kernel) (by decide)) <|
  mF (sn_iadd (pc := 1169) X (by decide +kernel)) <|
  mF (sn_iaload (pc := 1170) X (by decide +kernel)) <|
  mF (sn_callV (pc := 1171) X mc_X11_tick (me_X11_tick l B) yi_X11_tick wd_1225 wd_1226 wd_1227 (T := TX11) (N := 22) rfl (by decide) (by decide +kernel)) <|
  mF (sn_lcmp (pc := 1174) X (by decide +kernel)) <|
  mF (sn_if_eq (pc := 1175) (off := 285) X (by decide +kernel) (by decide)) <|
  mF (sn_iconst (pc := 1178) (n := 0) X (by decide +kernel) (by decide)) <|
  mF (sn_lwret (pc := 1179) X hr hk hb (by decide +kernel)) <|
  mF (sn_aload_n (pc := 1180) (j := 1) X (by decide +kernel) rfl) <|
  mF (sn_aload_n (pc := 1181) (j := 0) X (by decide +kernel) rfl) <|
  mF (sn_iload_n (pc := 1182) (j := 3) X (by decide +kernel) rfl) <|
  mF (sn_iconst (pc := 1183) (n := 1) X (by decide +kernel) (by decide)) <|
  mF (sn_iadd (pc := 1184) X (by decide +kernel)) <|
  mF (sn_iaload (pc := 1185) X (by decide +kernel)) <|
  mF (sn_callV (pc := 1186) X mc_X10_calm (me_X10_calm l B) yi_X10_calm wd_769 wd_770 wd_771 (T := TX10) (N := 11) rfl (by decide) (by decide +kernel)) <|
  mF (sn_aload_n (pc := 1189) (j := 2) X (by decide +kernel) rfl) <|
  mF (sn_aload_n (pc := 1190) (j := 0) X (by decide +kernel) rfl) <|
  mF (sn_iload_n (pc := 1191) (j := 3) X (by decide +kernel) rfl) <|
  mF (sn_iconst (pc := 1192) (n := 1) X (by decide +kernel) (by decide)) <|
  mF (sn_iadd (pc := 1193) X (by decide +kernel)) <|
  mF (sn_iaload (pc := 1194) X (by decide +kernel)) <|
  mF (sn_callV (pc := 1195) X mc_X11_calm (me_X11_calm l B) yi_X11_calm wd_1229 wd_1230 wd_1231 (T := TX11) (N := 22) rfl (by decide) (by decide +kernel)) <|
  mF (sn_lcmp (pc := 1198) X (by decide +kernel)) <|
  mF (sn_if_eq (pc := 1199) (off := 261) X (by decide +kernel) (by decide)) <|
  mF (sn_iconst (pc := 1202) (n := 0) X (by decide +kernel) (by decide)) <|
  mF (sn_lwret (pc := 1203) X hr hk hb (by decide +kernel)) <|
  mF (sn_aload_n (pc := 1204) (j := 1) X (by decide +kernel) rfl) <|
  mF (sn_aload_n (pc := 1205) (j := 0) X (by decide +kernel) rfl) <|
  mF (sn_iload_n (pc := 1206) (j := 3) X (by decide +kernel) rfl) <|
  mF (sn_iconst (pc := 1207) (n := 1) X (by decide +kernel) (by decide)) <|
  mF (sn_iadd (pc := 1208) X (by decide +kernel)) <|
  mF (sn_iaload (pc := 1209) X (by decide +kernel)) <|
  mF (sn_aload_n (pc := 1210) (j := 0) X (by decide +kernel) rfl) <|
  mF (sn_iload_n (pc := 1211) (j := 3) X (by decide +kernel) rfl) <|
  mF (sn_iconst (pc := 1212) (n := 2) X (by decide +kernel) (by decide)) <|
  mF (sn_iadd (pc := 1213) X (by decide +kernel)) <|
  mF (sn_iaload (pc := 1214) X (by decide +kernel)) <|
  mF (sn_callV (pc := 1215) X mc_X10_play (me_X10_play l B) yi_X10_play wd_773 wd_774 wd_775 (T := TX10) (N := 11) rfl (by decide) (by decide +kernel)) <|
  mF (sn_aload_n (pc := 1218) (j := 2) X (by decide +kernel) rfl) <|
  mF (sn_aload_n (pc := 1219) (j := 0) X (by decide +kernel) rfl) <|
  mF (sn_iload_n (pc := 1220) (j := 3) X (by decide +kernel) rfl) <|
  mF (sn_iconst (pc := 1221) (n := 1) X (by decide +kernel) (by decide)) <|
  mF (sn_iadd (pc := 1222) X (by decide +kernel)) <|
  mF (sn_iaload (pc := 1223) X (by decide +kernel)) <|
  mF0
set_option maxRecDepth 100000 in
set_option maxHeartbeats 4000000 in
theorem sd_L_law_c13 (l : Launch) (B : mBs) (p : Program) (e : Env) (s : State) (m : MethodId) (xb : Nat) (below : List Frame) (meth : Method) (c : Code) (X : mCx l B RL code 4 p s m #[Value.ref xb] c) (hr : meth.sig.returnType = ret) (hk : meth.locks = false) (hb : bb B = s.heap.size) : ∀ q ∈ tb_L_law_c13, mSnd l B 4 p e (mRm 12 600000 7302250) s m #[Value.ref xb] below meth c (lw_Z below #[Value.ref xb] s) (fun r _ => r = some (.int 1)) q.2 q.1 :=
  mF (sn_aload_n (pc := 1224) (j := 0) X (by decide +kernel) rfl) <|
  mF (sn_iload_n (pc := 1225) (j := 3) X (by decide +kernel) rfl) <|
  mF (sn_iconst (pc := 1226) (n := 2) X (by decide +kernel) (by decide)) <|
  mF (sn_iadd (pc := 1227) X (by decide +kernel)) <|
  mF (sn_iaload (pc := 1228) X (by decide +kernel)) <|
  mF (sn_callV (pc := 1229) X mc_X11_play (me_X11_play l B) yi_X11_play wd_1233 wd_1234 wd_1235 (T := TX11) (N := 22) rfl (by decide) (by decide +kernel)) <|
  mF (sn_lcmp (pc := 1232) X (by decide +kernel)) <|
  mF (sn_if_eq (pc := 1233) (off := 227) X (by decide +kernel) (by decide)) <|
  mF (sn_iconst (pc := 1236) (n := 0) X (by decide +kernel) (by decide)) <|
  mF (sn_lwret (pc := 1237) X hr hk hb (by decide +kernel)) <|
  mF (sn_aload_n (pc := 1238) (j := 1) X (by decide +kernel) rfl) <|
  mF (sn_aload_n (pc := 1239) (j := 0) X (by decide +kernel) rfl) <|
  mF (sn_iload_n (pc := 1240) (j := 3) X (by decide +kernel) rfl) <|
  mF (sn_iconst (pc := 1241) (n := 1) X (by decide +kernel) (by decide)) <|
  mF (sn_iadd (pc := 1242) X (by decide +kernel)) <|
  mF (sn_iaload (pc := 1243) X (by decide +kernel)) <|
  mF (sn_aload_n (pc := 1244) (j := 0) X (by decide +kernel) rfl) <|
  mF (sn_iload_n (pc := 1245) (j := 3) X (by decide +kernel) rfl) <|
  mF (sn_iconst (pc := 1246) (n := 2) X (by decide +kernel) (by decide)) <|
  mF (sn_iadd (pc := 1247) X (by decide +kernel)) <|
  mF (sn_iaload (pc := 1248) X (by decide +kernel)) <|
  mF (sn_aload_n (pc := 1249) (j := 0) X (by decide +kernel) rfl) <|
  mF (sn_iload_n (pc := 1250) (j := 3) X (by decide +kernel) rfl) <|
  mF (sn_iconst (pc := 1251) (n := 3) X (by decide +kernel) (by decide)) <|
  mF (sn_iadd (pc := 1252) X (by decide +kernel)) <|
  mF (sn_iaload (pc := 1253) X (by decide +kernel)) <|
  mF (sn_callV (pc := 1254) X mc_X10_pose (me_X10_pose l B) yi_X10_pose wd_781 wd_782 wd_783 (T := TX10) (N := 11) rfl (by decide) (by decide +kernel)) <|
  mF (sn_aload_n (pc := 1257) (j := 2) X (by decide +kernel) rfl) <|
  mF (sn_aload_n (pc := 1258) (j := 0) X (by decide +kernel) rfl) <|
  mF (sn_iload_n (pc := 1259) (j := 3) X (by decide +kernel) rfl) <|
  mF (sn_iconst (pc := 1260) (n := 1) X (by decide +kernel) (by decide)) <|
  mF (sn_iadd (pc := 1261) X (by decide +kernel)) <|
  mF (sn_iaload (pc := 1262) X (by decide +kernel)) <|
  mF (sn_aload_n (pc := 1263) (j := 0) X (by decide +kernel) rfl) <|
  mF (sn_iload_n (pc := 1264) (j := 3) X (by decide +kernel) rfl) <|
  mF (sn_iconst (pc := 1265) (n := 2) X (by decide +kernel) (by decide)) <|
  mF (sn_iadd (pc := 1266) X (by decide +kernel)) <|
  mF (sn_iaload (pc := 1267) X (by decide +kernel)) <|
  mF (sn_aload_n (pc := 1268) (j := 0) X (by decide +kernel) rfl) <|
  mF (sn_iload_n (pc := 1269) (j := 3) X (by decide +kernel) rfl) <|
  mF (sn_iconst (pc := 1270) (n := 3) X (by decide +kernel) (by decide)) <|
  mF (sn_iadd (pc := 1271) X (by decide +kernel)) <|
  mF (sn_iaload (pc := 1272) X (by decide +kernel)) <|
  mF (sn_callV (pc := 1273) X mc_X11_pose (me_X11_pose l B) yi_X11_pose wd_1237 wd_1238 wd_1239 (T := TX11) (N := 22) rfl (by decide) (by decide +kernel)) <|
  mF (sn_lcmp (pc := 1276) X (by decide +kernel)) <|
  mF (sn_if_eq (pc := 1277) (off := 183) X (by decide +kernel) (by decide)) <|
  mF (sn_iconst (pc := 1280) (n := 0) X (by decide +kernel) (by decide)) <|
  mF (sn_lwret (pc := 1281) X hr hk hb (by decide +kernel)) <|
  mF (sn_aload_n (pc := 1282) (j := 1) X (by decide +kernel) rfl) <|
  mF (sn_aload_n (pc := 1283) (j := 0) X (by decide +kernel) rfl) <|
  mF (sn_iload_n (pc := 1284) (j := 3) X (by decide +kernel) rfl) <|
  mF (sn_iconst (pc := 1285) (n := 1) X (by decide +kernel) (by decide)) <|
  mF (sn_iadd (pc := 1286) X (by decide +kernel)) <|
  mF (sn_iaload (pc := 1287) X (by decide +kernel)) <|
  mF (sn_callV (pc := 1288) X mc_X10_round (me_X10_round l B) yi_X10_round wd_789 wd_790 wd_791 (T := TX10) (N := 11) rfl (by decide) (by decide +kernel)) <|
  mF (sn_aload_n (pc := 1291) (j := 2) X (by decide +kernel) rfl) <|
  mF (sn_aload_n (pc := 1292) (j := 0) X (by decide +kernel) rfl) <|
  mF (sn_iload_n (pc := 1293) (j := 3) X (by decide +kernel) rfl) <|
  mF (sn_iconst (pc := 1294) (n := 1) X (by decide +kernel) (by decide)) <|
  mF (sn_iadd (pc := 1295) X (by decide +kernel)) <|
  mF (sn_iaload (pc := 1296) X (by decide +kernel)) <|
  mF (sn_callV (pc := 1297) X mc_X11_round (me_X11_round l B) yi_X11_round wd_1241 wd_1242 wd_1243 (T := TX11) (N := 22) rfl (by decide) (by decide +kernel)) <|
  mF (sn_lcmp (pc := 1300) X (by decide +kernel)) <|
  mF (sn_if_eq (pc := 1301) (off := 159) X (by decide +kernel) (by decide)) <|
  mF (sn_iconst (pc := 1304) (n := 0) X (by decide +kernel) (by decide)) <|
  mF (sn_lwret (pc := 1305) X hr hk hb (by decide +kernel)) <|
  mF (sn_aload_n (pc := 1306) (j := 1) X (by decide +kernel) rfl) <|
  mF (sn_aload_n (pc := 1307) (j := 0) X (by decide +kernel) rfl) <|
  mF (sn_iload_n (pc := 1308) (j := 3) X (by decide +kernel) rfl) <|
  mF (sn_iconst (pc := 1309) (n := 1) X (by decide +kernel) (by decide)) <|
  mF0
set_option maxRecDepth 100000 in
set_option maxHeartbeats 4000000 in
theorem sd_L_law_c14 (l : Launch) (B : mBs) (p : Program) (e : Env) (s : State) (m : MethodId) (xb : Nat) (below : List Frame) (meth : Method) (c : Code) (X : mCx l B RL code 4 p s m #[Value.ref xb] c) (hr : meth.sig.returnType = ret) (hk : meth.locks = false) (hb : bb B = s.heap.size) : ∀ q ∈ tb_L_law_c14, mSnd l B 4 p e (mRm 12 600000 7302250) s m #[Value.ref xb] below meth c (lw_Z below #[Value.ref xb] s) (fun r _ => r = some (.int 1)) q.2 q.1 :=
  mF (sn_iadd (pc := 1310) X (by decide +kernel)) <|
  mF (sn_iaload (pc := 1311) X (by decide +kernel)) <|
  mF (sn_aload_n (pc := 1312) (j := 0) X (by decide +kernel) rfl) <|
  mF (sn_iload_n (pc := 1313) (j := 3) X (by decide +kernel) rfl) <|
  mF (sn_iconst (pc := 1314) (n := 2) X (by decide +kernel) (by decide)) <|
  mF (sn_iadd (pc := 1315) X (by decide +kernel)) <|
  mF (sn_iaload (pc := 1316) X (by decide +kernel)) <|
  mF (sn_aload_n (pc := 1317) (j := 0) X (by decide +kernel) rfl) <|
  mF (sn_iload_n (pc := 1318) (j := 3) X (by decide +kernel) rfl) <|
  mF (sn_iconst (pc := 1319) (n := 3) X (by decide +kernel) (by decide)) <|
  mF (sn_iadd (pc := 1320) X (by decide +kernel)) <|
  mF (sn_iaload (pc := 1321) X (by decide +kernel)) <|
  mF (sn_aload_n (pc := 1322) (j := 0) X (by decide +kernel) rfl) <|
  mF (sn_iload_n (pc := 1323) (j := 3) X (by decide +kernel) rfl) <|
  mF (sn_iconst (pc := 1324) (n := 4) X (by decide +kernel) (by decide)) <|
  mF (sn_iadd (pc := 1325) X (by decide +kernel)) <|
  mF (sn_iaload (pc := 1326) X (by decide +kernel)) <|
  mF (sn_callV (pc := 1327) X mc_X10_reach (me_X10_reach l B) yi_X10_reach wd_798 wd_799 wd_800 (T := TX10) (N := 11) rfl (by decide) (by decide +kernel)) <|
  mF (sn_aload_n (pc := 1330) (j := 2) X (by decide +kernel) rfl) <|
  mF (sn_aload_n (pc := 1331) (j := 0) X (by decide +kernel) rfl) <|
  mF (sn_iload_n (pc := 1332) (j := 3) X (by decide +kernel) rfl) <|
  mF (sn_iconst (pc := 1333) (n := 1) X (by decide +kernel) (by decide)) <|
  mF (sn_iadd (pc := 1334) X (by decide +kernel)) <|
  mF (sn_iaload (pc := 1335) X (by decide +kernel)) <|
  mF (sn_aload_n (pc := 1336) (j := 0) X (by decide +kernel) rfl) <|
  mF (sn_iload_n (pc := 1337) (j := 3) X (by decide +kernel) rfl) <|
  mF (sn_iconst (pc := 1338) (n := 2) X (by decide +kernel) (by decide)) <|
  mF (sn_iadd (pc := 1339) X (by decide +kernel)) <|
  mF (sn_iaload (pc := 1340) X (by decide +kernel)) <|
  mF (sn_aload_n (pc := 1341) (j := 0) X (by decide +kernel) rfl) <|
  mF (sn_iload_n (pc := 1342) (j := 3) X (by decide +kernel) rfl) <|
  mF (sn_iconst (pc := 1343) (n := 3) X (by decide +kernel) (by decide)) <|
  mF (sn_iadd (pc := 1344) X (by decide +kernel)) <|
  mF (sn_iaload (pc := 1345) X (by decide +kernel)) <|
  mF (sn_aload_n (pc := 1346) (j := 0) X (by decide +kernel) rfl) <|
  mF (sn_iload_n (pc := 1347) (j := 3) X (by decide +kernel) rfl) <|
  mF (sn_iconst (pc := 1348) (n := 4) X (by decide +kernel) (by decide)) <|
  mF (sn_iadd (pc := 1349) X (by decide +kernel)) <|
  mF (sn_iaload (pc := 1350) X (by decide +kernel)) <|
  mF (sn_callV (pc := 1351) X mc_X11_reach (me_X11_reach l B) yi_X11_reach wd_1245 wd_1246 wd_1247 (T := TX11) (N := 22) rfl (by decide) (by decide +kernel)) <|
  mF (sn_lcmp (pc := 1354) X (by decide +kernel)) <|
  mF (sn_if_eq (pc := 1355) (off := 105) X (by decide +kernel) (by decide)) <|
  mF (sn_iconst (pc := 1358) (n := 0) X (by decide +kernel) (by decide)) <|
  mF (sn_lwret (pc := 1359) X hr hk hb (by decide +kernel)) <|
  mF (sn_aload_n (pc := 1360) (j := 1) X (by decide +kernel) rfl) <|
  mF (sn_aload_n (pc := 1361) (j := 0) X (by decide +kernel) rfl) <|
  mF (sn_iload_n (pc := 1362) (j := 3) X (by decide +kernel) rfl) <|
  mF (sn_iconst (pc := 1363) (n := 1) X (by decide +kernel) (by decide)) <|
  mF (sn_iadd (pc := 1364) X (by decide +kernel)) <|
  mF (sn_iaload (pc := 1365) X (by decide +kernel)) <|
  mF (sn_callV (pc := 1366) X mc_X10_tangle (me_X10_tangle l B) yi_X10_tangle wd_806 wd_807 wd_808 (T := TX10) (N := 11) rfl (by decide) (by decide +kernel)) <|
  mF (sn_aload_n (pc := 1369) (j := 2) X (by decide +kernel) rfl) <|
  mF (sn_aload_n (pc := 1370) (j := 0) X (by decide +kernel) rfl) <|
  mF (sn_iload_n (pc := 1371) (j := 3) X (by decide +kernel) rfl) <|
  mF (sn_iconst (pc := 1372) (n := 1) X (by decide +kernel) (by decide)) <|
  mF (sn_iadd (pc := 1373) X (by decide +kernel)) <|
  mF (sn_iaload (pc := 1374) X (by decide +kernel)) <|
  mF (sn_callV (pc := 1375) X mc_X11_tangle (me_X11_tangle l B) yi_X11_tangle wd_1250 wd_1251 wd_1252 (T := TX11) (N := 22) rfl (by decide) (by decide +kernel)) <|
  mF (sn_lcmp (pc := 1378) X (by decide +kernel)) <|
  mF (sn_if_eq (pc := 1379) (off := 81) X (by decide +kernel) (by decide)) <|
  mF (sn_iconst (pc := 1382) (n := 0) X (by decide +kernel) (by decide)) <|
  mF (sn_lwret (pc := 1383) X hr hk hb (by decide +kernel)) <|
  mF (sn_aload_n (pc := 1384) (j := 1) X (by decide +kernel) rfl) <|
  mF (sn_callV (pc := 1385) X mc_X10_meet (me_X10_meet l B) yi_X10_meet wd_837 wd_838 wd_839 (T := TX10) (N := 11) rfl (by decide) (by decide +kernel)) <|
  mF (sn_aload_n (pc := 1388) (j := 2) X (by decide +kernel) rfl) <|
  mF (sn_callV (pc := 1389) X mc_X11_meet (me_X11_meet l B) yi_X11_meet wd_1266 wd_1267 wd_1268 (T := TX11) (N := 22) rfl (by decide) (by decide +kernel)) <|
  mF (sn_lcmp (pc := 1392) X (by decide +kernel)) <|
  mF (sn_if_eq (pc := 1393) (off := 67) X (by decide +kernel) (by decide)) <|
  mF (sn_iconst (pc := 1396) (n := 0) X (by decide +kernel) (by decide)) <|
  mF (sn_lwret (pc := 1397) X hr hk hb (by decide +kernel)) <|
  mF0
set_option maxRecDepth 100000 in
set_option maxHeartbeats 4000000 in
theorem sd_L_law_c15 (l : Launch) (B : mBs) (p : Program) (e : Env) (s : State) (m : MethodId) (xb : Nat) (below : List Frame) (meth : Method) (c : Code) (X : mCx l B RL code 4 p s m #[Value.ref xb] c) (hr : meth.sig.returnType = ret) (hk : meth.locks = false) (hb : bb B = s.heap.size) : ∀ q ∈ tb_L_law_c15, mSnd l B 4 p e (mRm 12 600000 7302250) s m #[Value.ref xb] below meth c (lw_Z below #[Value.ref xb] s) (fun r _ => r = some (.int 1)) q.2 q.1 :=
  mF (sn_aload_n (pc := 1398) (j := 1) X (by decide +kernel) rfl) <|
  mF (sn_aload_n (pc := 1399) (j := 0) X (by decide +kernel) rfl) <|
  mF (sn_iload_n (pc := 1400) (j := 3) X (by decide +kernel) rfl) <|
  mF (sn_iconst (pc := 1401) (n := 1) X (by decide +kernel) (by decide)) <|
  mF (sn_iadd (pc := 1402) X (by decide +kernel)) <|
  mF (sn_iaload (pc := 1403) X (by decide +kernel)) <|
  mF (sn_callV (pc := 1404) X mc_X10_mirror (me_X10_mirror l B) yi_X10_mirror wd_854 wd_855 wd_856 (T := TX10) (N := 11) rfl (by decide) (by decide +kernel)) <|
  mF (sn_aload_n (pc := 1407) (j := 2) X (by decide +kernel) rfl) <|
  mF (sn_aload_n (pc := 1408) (j := 0) X (by decide +kernel) rfl) <|
  mF (sn_iload_n (pc := 1409) (j := 3) X (by decide +kernel) rfl) <|
  mF (sn_iconst (pc := 1410) (n := 1) X (by decide +kernel) (by decide)) <|
  mF (sn_iadd (pc := 1411) X (by decide +kernel)) <|
  mF (sn_iaload (pc := 1412) X (by decide +kernel)) <|
  mF (sn_callV (pc := 1413) X mc_X11_mirror (me_X11_mirror l B) yi_X11_mirror wd_1281 wd_1282 wd_1283 (T := TX11) (N := 22) rfl (by decide) (by decide +kernel)) <|
  mF (sn_lcmp (pc := 1416) X (by decide +kernel)) <|
  mF (sn_if_eq (pc := 1417) (off := 43) X (by decide +kernel) (by decide)) <|
  mF (sn_iconst (pc := 1420) (n := 0) X (by decide +kernel) (by decide)) <|
  mF (sn_lwret (pc := 1421) X hr hk hb (by decide +kernel)) <|
  mF (sn_aload_n (pc := 1422) (j := 1) X (by decide +kernel) rfl) <|
  mF (sn_callV (pc := 1423) X mc_X10_undo (me_X10_undo l B) yi_X10_undo wd_890 wd_891 wd_892 (T := TX10) (N := 11) rfl (by decide) (by decide +kernel)) <|
  mF (sn_aload_n (pc := 1426) (j := 2) X (by decide +kernel) rfl) <|
  mF (sn_callV (pc := 1427) X mc_X11_undo (me_X11_undo l B) yi_X11_undo wd_980 wd_981 wd_982 (T := TX11) (N := 22) rfl (by decide) (by decide +kernel)) <|
  mF (sn_lcmp (pc := 1430) X (by decide +kernel)) <|
  mF (sn_if_eq (pc := 1431) (off := 29) X (by decide +kernel) (by decide)) <|
  mF (sn_iconst (pc := 1434) (n := 0) X (by decide +kernel) (by decide)) <|
  mF (sn_lwret (pc := 1435) X hr hk hb (by decide +kernel)) <|
  mF (sn_aload_n (pc := 1436) (j := 1) X (by decide +kernel) rfl) <|
  mF (sn_aload_n (pc := 1437) (j := 0) X (by decide +kernel) rfl) <|
  mF (sn_iload_n (pc := 1438) (j := 3) X (by decide +kernel) rfl) <|
  mF (sn_iconst (pc := 1439) (n := 1) X (by decide +kernel) (by decide)) <|
  mF (sn_iadd (pc := 1440) X (by decide +kernel)) <|
  mF (sn_iaload (pc := 1441) X (by decide +kernel)) <|
  mF (sn_callV (pc := 1442) X mc_X10_count (me_X10_count l B) yi_X10_count wd_898 wd_899 wd_900 (T := TX10) (N := 11) rfl (by decide) (by decide +kernel)) <|
  mF (sn_aload_n (pc := 1445) (j := 2) X (by decide +kernel) rfl) <|
  mF (sn_aload_n (pc := 1446) (j := 0) X (by decide +kernel) rfl) <|
  mF (sn_iload_n (pc := 1447) (j := 3) X (by decide +kernel) rfl) <|
  mF (sn_iconst (pc := 1448) (n := 1) X (by decide +kernel) (by decide)) <|
  mF (sn_iadd (pc := 1449) X (by decide +kernel)) <|
  mF (sn_iaload (pc := 1450) X (by decide +kernel)) <|
  mF (sn_callV (pc := 1451) X mc_X11_count (me_X11_count l B) yi_X11_count wd_1293 wd_1294 wd_1295 (T := TX11) (N := 22) rfl (by decide) (by decide +kernel)) <|
  mF (sn_lcmp (pc := 1454) X (by decide +kernel)) <|
  mF (sn_if_eq (pc := 1455) (off := 5) X (by decide +kernel) (by decide)) <|
  mF (sn_iconst (pc := 1458) (n := 0) X (by decide +kernel) (by decide)) <|
  mF (sn_lwret (pc := 1459) X hr hk hb (by decide +kernel)) <|
  mF (sn_iinc (pc := 1460) (n := 6) X (by decide +kernel) (by decide) (by decide)) <|
  mF (sn_goto (pc := 1463) (off := (-1445)) X (by decide +kernel) (by decide)) <|
  mF (sn_iconst (pc := 1466) (n := 1) X (by decide +kernel) (by decide)) <|
  mF (sn_lwret (pc := 1467) X hr hk hb (by decide +kernel)) <|
  mF0
theorem sd_L_law (l : Launch) (B : mBs) (p : Program) (e : Env) (s : State) (m : MethodId) (xb : Nat) (below : List Frame) (meth : Method) (c : Code) (X : mCx l B RL code 4 p s m #[Value.ref xb] c) (hr : meth.sig.returnType = ret) (hk : meth.locks = false) (hb : bb B = s.heap.size) : ∀ q ∈ tb_L_law, mSnd l B 4 p e (mRm 12 600000 7302250) s m #[Value.ref xb] below meth c (lw_Z below #[Value.ref xb] s) (fun r _ => r = some (.int 1)) q.2 q.1 := mFA (sd_L_law_c0 l B p e s m xb below meth c X hr hk hb) (mFA (sd_L_law_c1 l B p e s m xb below meth c X hr hk hb) (mFA (sd_L_law_c2 l B p e s m xb below meth c X hr hk hb) (mFA (sd_L_law_c3 l B p e s m xb below meth c X hr hk hb) (mFA (sd_L_law_c4 l B p e s m xb below meth c X hr hk hb) (mFA (sd_L_law_c5 l B p e s m xb below meth c X hr hk hb) (mFA (sd_L_law_c6 l B p e s m xb below meth c X hr hk hb) (mFA (sd_L_law_c7 l B p e s m xb below meth c X hr hk hb) (mFA (sd_L_law_c8 l B p e s m xb below meth c X hr hk hb) (mFA (sd_L_law_c9 l B p e s m xb below meth c X hr hk hb) (mFA (sd_L_law_c10 l B p e s m xb below meth c X hr hk hb) (mFA (sd_L_law_c11 l B p e s m xb below meth c X hr hk hb) (mFA (sd_L_law_c12 l B p e s m xb below meth c X hr hk hb) (mFA (sd_L_law_c13 l B p e s m xb below meth c X hr hk hb) (mFA (sd_L_law_c14 l B p e s m xb below meth c X hr hk hb) (sd_L_law_c15 l B p e s m xb below meth c X hr hk hb)))))))))))))))
