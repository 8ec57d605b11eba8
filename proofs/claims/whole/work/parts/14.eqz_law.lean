set_option maxRecDepth 100000 in
theorem e_L_law_0 {Q : mQo} {T : List mSh} {c s : Nat} {I : Nat → Nat → Int32} {L : Nat → Nat → Int64} {st : List Value} {a0 a1 a2 a3 : Option Value} : mWP tb_L_law Q 0 [a0, a1, a2, a3] st ((T, c, s), I, L) = ((c + 1 ≤ 600000 ∧ s + 11 ≤ 7302250) ∧ mWP tb_L_law Q 3 [a0, a1, a2, a3] (.ref T.length :: st) ((T ++ [(13, 11, [none, none, none, none, none, none, none, none, none, none, none])], c + 1, s + 11), zI I T.length, zL L T.length)) := mWP_eq mt_L_law _ _ _ _ _
set_option maxRecDepth 100000 in
theorem e_L_law_3 {Q : mQo} {T : List mSh} {c s : Nat} {I : Nat → Nat → Int32} {L : Nat → Nat → Int64} {st : List Value} {a0 a1 a2 a3 : Option Value} {x : Nat} : mWP tb_L_law Q 3 [a0, a1, a2, a3] (.ref x :: st) ((T, c, s), I, L) = mWP tb_L_law Q 4 [a0, a1, a2, a3] (.ref x :: .ref x :: st) ((T, c, s), I, L) := mWP_eq mt_L_law _ _ _ _ _
set_option maxRecDepth 100000 in
theorem e_L_law_3i {Q : mQo} {T : List mSh} {c s : Nat} {I : Nat → Nat → Int32} {L : Nat → Nat → Int64} {st : List Value} {a0 a1 a2 a3 : Option Value} {x : Int32} : mWP tb_L_law Q 3 [a0, a1, a2, a3] (.int x :: st) ((T, c, s), I, L) = mWP tb_L_law Q 4 [a0, a1, a2, a3] (.int x :: .int x :: st) ((T, c, s), I, L) := mWP_eq mt_L_law _ _ _ _ _
set_option maxRecDepth 100000 in
theorem e_L_law_4 {Q : mQo} {T : List mSh} {c s : Nat} {I : Nat → Nat → Int32} {L : Nat → Nat → Int64} {st : List Value} {a0 a1 a2 a3 : Option Value} {x : Nat} : mWP tb_L_law Q 4 [a0, a1, a2, a3] (.ref x :: st) ((T, c, s), I, L) = (((st.map Value.category).sum ≤ 8 ∧ c + 326 ≤ 600000 ∧ s + 3374 ≤ 7302250) ∧ C_X10_init [.ref x] ((T, 0, 0), I, L) (fun v h' => v = none ∧ (h'.1.2.1 = 326 ∧ h'.1.2.2 ≤ 3374) ∧ mWP tb_L_law Q 7 [a0, a1, a2, a3] st ((h'.1.1, c + 326, s + 3374), h'.2))) := mWP_eq mt_L_law _ _ _ _ _
set_option maxRecDepth 100000 in
theorem e_L_law_7 {Q : mQo} {T : List mSh} {c s : Nat} {I : Nat → Nat → Int32} {L : Nat → Nat → Int64} {st : List Value} {a0 a1 a2 a3 : Option Value} {x : Nat} : mWP tb_L_law Q 7 [a0, a1, a2, a3] (.ref x :: st) ((T, c, s), I, L) = mWP tb_L_law Q 8 [mNl a0, some (.ref x), a2, a3] st ((T, c, s), I, L) := mWP_eq mt_L_law _ _ _ _ _
set_option maxRecDepth 100000 in
theorem e_L_law_7n {Q : mQo} {T : List mSh} {c s : Nat} {I : Nat → Nat → Int32} {L : Nat → Nat → Int64} {st : List Value} {a0 a1 a2 a3 : Option Value} : mWP tb_L_law Q 7 [a0, a1, a2, a3] (.null :: st) ((T, c, s), I, L) = mWP tb_L_law Q 8 [mNl a0, some .null, a2, a3] st ((T, c, s), I, L) := mWP_eq mt_L_law _ _ _ _ _
set_option maxRecDepth 100000 in
theorem e_L_law_8 {Q : mQo} {T : List mSh} {c s : Nat} {I : Nat → Nat → Int32} {L : Nat → Nat → Int64} {st : List Value} {a0 a1 a2 a3 : Option Value} : mWP tb_L_law Q 8 [a0, a1, a2, a3] st ((T, c, s), I, L) = ((c + 1 ≤ 600000 ∧ s + 22 ≤ 7302250) ∧ mWP tb_L_law Q 11 [a0, a1, a2, a3] (.ref T.length :: st) ((T ++ [(14, 22, [none, none, none, none, none, none, none, none, none, none, none, none, none, none, none, none, none, none, none, none, none, none])], c + 1, s + 22), zI I T.length, zL L T.length)) := mWP_eq mt_L_law _ _ _ _ _
set_option maxRecDepth 100000 in
theorem e_L_law_11 {Q : mQo} {T : List mSh} {c s : Nat} {I : Nat → Nat → Int32} {L : Nat → Nat → Int64} {st : List Value} {a0 a1 a2 a3 : Option Value} {x : Nat} : mWP tb_L_law Q 11 [a0, a1, a2, a3] (.ref x :: st) ((T, c, s), I, L) = mWP tb_L_law Q 12 [a0, a1, a2, a3] (.ref x :: .ref x :: st) ((T, c, s), I, L) := mWP_eq mt_L_law _ _ _ _ _
set_option maxRecDepth 100000 in
theorem e_L_law_11i {Q : mQo} {T : List mSh} {c s : Nat} {I : Nat → Nat → Int32} {L : Nat → Nat → Int64} {st : List Value} {a0 a1 a2 a3 : Option Value} {x : Int32} : mWP tb_L_law Q 11 [a0, a1, a2, a3] (.int x :: st) ((T, c, s), I, L) = mWP tb_L_law Q 12 [a0, a1, a2, a3] (.int x :: .int x :: st) ((T, c, s), I, L) := mWP_eq mt_L_law _ _ _ _ _
set_option maxRecDepth 100000 in
theorem e_L_law_12 {Q : mQo} {T : List mSh} {c s : Nat} {I : Nat → Nat → Int32} {L : Nat → Nat → Int64} {st : List Value} {a0 a1 a2 a3 : Option Value} {x : Nat} : mWP tb_L_law Q 12 [a0, a1, a2, a3] (.ref x :: st) ((T, c, s), I, L) = (((st.map Value.category).sum ≤ 8 ∧ c + 10 ≤ 600000 ∧ s + 2974 ≤ 7302250) ∧ C_X11_init [.ref x] ((T, 0, 0), I, L) (fun v h' => v = none ∧ (h'.1.2.1 = 10 ∧ h'.1.2.2 ≤ 2974) ∧ mWP tb_L_law Q 15 [a0, a1, a2, a3] st ((h'.1.1, c + 10, s + 2974), h'.2))) := mWP_eq mt_L_law _ _ _ _ _
set_option maxRecDepth 100000 in
theorem e_L_law_15 {Q : mQo} {T : List mSh} {c s : Nat} {I : Nat → Nat → Int32} {L : Nat → Nat → Int64} {st : List Value} {a0 a1 a2 a3 : Option Value} {x : Nat} : mWP tb_L_law Q 15 [a0, a1, a2, a3] (.ref x :: st) ((T, c, s), I, L) = mWP tb_L_law Q 16 [a0, mNl a1, some (.ref x), a3] st ((T, c, s), I, L) := mWP_eq mt_L_law _ _ _ _ _
set_option maxRecDepth 100000 in
theorem e_L_law_15n {Q : mQo} {T : List mSh} {c s : Nat} {I : Nat → Nat → Int32} {L : Nat → Nat → Int64} {st : List Value} {a0 a1 a2 a3 : Option Value} : mWP tb_L_law Q 15 [a0, a1, a2, a3] (.null :: st) ((T, c, s), I, L) = mWP tb_L_law Q 16 [a0, mNl a1, some .null, a3] st ((T, c, s), I, L) := mWP_eq mt_L_law _ _ _ _ _
set_option maxRecDepth 100000 in
theorem e_L_law_16 {Q : mQo} {T : List mSh} {c s : Nat} {I : Nat → Nat → Int32} {L : Nat → Nat → Int64} {st : List Value} {a0 a1 a2 a3 : Option Value} : mWP tb_L_law Q 16 [a0, a1, a2, a3] st ((T, c, s), I, L) = mWP tb_L_law Q 17 [a0, a1, a2, a3] (.int 0 :: st) ((T, c, s), I, L) := mWP_eq mt_L_law _ _ _ _ _
set_option maxRecDepth 100000 in
theorem e_L_law_17 {Q : mQo} {T : List mSh} {c s : Nat} {I : Nat → Nat → Int32} {L : Nat → Nat → Int64} {st : List Value} {a0 a1 a2 a3 : Option Value} {x : Int32} : mWP tb_L_law Q 17 [a0, a1, a2, a3] (.int x :: st) ((T, c, s), I, L) = mWP tb_L_law Q 18 [a0, a1, mNl a2, some (.int x)] st ((T, c, s), I, L) := mWP_eq mt_L_law _ _ _ _ _
set_option maxRecDepth 100000 in
theorem e_L_law_18 {Q : mQo} {T : List mSh} {c s : Nat} {I : Nat → Nat → Int32} {L : Nat → Nat → Int64} {st : List Value} {a0 a1 a2 : Option Value} {x : Int32} : mWP tb_L_law Q 18 [a0, a1, a2, some (.int x)] st ((T, c, s), I, L) = mWP tb_L_law Q 19 [a0, a1, a2, some (.int x)] (.int x :: st) ((T, c, s), I, L) := mWP_eq mt_L_law _ _ _ _ _
set_option maxRecDepth 100000 in
theorem e_L_law_19 {Q : mQo} {T : List mSh} {c s : Nat} {I : Nat → Nat → Int32} {L : Nat → Nat → Int64} {st : List Value} {a1 a2 a3 : Option Value} {x : Nat} : mWP tb_L_law Q 19 [some (.ref x), a1, a2, a3] st ((T, c, s), I, L) = mWP tb_L_law Q 20 [some (.ref x), a1, a2, a3] (.ref x :: st) ((T, c, s), I, L) := mWP_eq mt_L_law _ _ _ _ _
set_option maxRecDepth 100000 in
theorem e_L_law_19n {Q : mQo} {T : List mSh} {c s : Nat} {I : Nat → Nat → Int32} {L : Nat → Nat → Int64} {st : List Value} {a1 a2 a3 : Option Value} : mWP tb_L_law Q 19 [some .null, a1, a2, a3] st ((T, c, s), I, L) = mWP tb_L_law Q 20 [some .null, a1, a2, a3] (.null :: st) ((T, c, s), I, L) := mWP_eq mt_L_law _ _ _ _ _
set_option maxRecDepth 100000 in
theorem e_L_law_20 {Q : mQo} {T : List mSh} {c s : Nat} {I : Nat → Nat → Int32} {L : Nat → Nat → Int64} {st : List Value} {a0 a1 a2 a3 : Option Value} {x : Nat} : mWP tb_L_law Q 20 [a0, a1, a2, a3] (.ref x :: st) ((T, c, s), I, L) = (mTg (T, c, s) x ≤ 2 ∧ mWP tb_L_law Q 21 [a0, a1, a2, a3] (.int (Int32.ofNat (mLn (T, c, s) x)) :: st) ((T, c, s), I, L)) := mWP_eq mt_L_law _ _ _ _ _
set_option maxRecDepth 100000 in
theorem e_L_law_21 {Q : mQo} {T : List mSh} {c s : Nat} {I : Nat → Nat → Int32} {L : Nat → Nat → Int64} {st : List Value} {a0 a1 a2 a3 : Option Value} : mWP tb_L_law Q 21 [a0, a1, a2, a3] st ((T, c, s), I, L) = mWP tb_L_law Q 23 [a0, a1, a2, a3] (.int 6 :: st) ((T, c, s), I, L) := mWP_eq mt_L_law _ _ _ _ _
set_option maxRecDepth 100000 in
theorem e_L_law_23 {Q : mQo} {T : List mSh} {c s : Nat} {I : Nat → Nat → Int32} {L : Nat → Nat → Int64} {st : List Value} {a0 a1 a2 a3 : Option Value} {x y : Int32} : mWP tb_L_law Q 23 [a0, a1, a2, a3] (.int y :: .int x :: st) ((T, c, s), I, L) = mWP tb_L_law Q 24 [a0, a1, a2, a3] (.int (x - y) :: st) ((T, c, s), I, L) := mWP_eq mt_L_law _ _ _ _ _
set_option maxRecDepth 100000 in
theorem e_L_law_24 {Q : mQo} {T : List mSh} {c s : Nat} {I : Nat → Nat → Int32} {L : Nat → Nat → Int64} {st : List Value} {a0 a1 a2 a3 : Option Value} {x y : Int32} : mWP tb_L_law Q 24 [a0, a1, a2, a3] (.int y :: .int x :: st) ((T, c, s), I, L) = ((y < x → mWP tb_L_law Q 1466 [a0, a1, a2, a3] st ((T, c, s), I, L)) ∧ (¬ (y < x) → mWP tb_L_law Q 27 [a0, a1, a2, a3] st ((T, c, s), I, L))) := mWP_eq mt_L_law _ _ _ _ _
set_option maxRecDepth 100000 in
theorem e_L_law_27 {Q : mQo} {T : List mSh} {c s : Nat} {I : Nat → Nat → Int32} {L : Nat → Nat → Int64} {st : List Value} {a1 a2 a3 : Option Value} {x : Nat} : mWP tb_L_law Q 27 [some (.ref x), a1, a2, a3] st ((T, c, s), I, L) = mWP tb_L_law Q 28 [some (.ref x), a1, a2, a3] (.ref x :: st) ((T, c, s), I, L) := mWP_eq mt_L_law _ _ _ _ _
set_option maxRecDepth 100000 in
theorem e_L_law_27n {Q : mQo} {T : List mSh} {c s : Nat} {I : Nat → Nat → Int32} {L : Nat → Nat → Int64} {st : List Value} {a1 a2 a3 : Option Value} : mWP tb_L_law Q 27 [some .null, a1, a2, a3] st ((T, c, s), I, L) = mWP tb_L_law Q 28 [some .null, a1, a2, a3] (.null :: st) ((T, c, s), I, L) := mWP_eq mt_L_law _ _ _ _ _
set_option maxRecDepth 100000 in
theorem e_L_law_28 {Q : mQo} {T : List mSh} {c s : Nat} {I : Nat → Nat → Int32} {L : Nat → Nat → Int64} {st : List Value} {a0 a1 a2 : Option Value} {x : Int32} : mWP tb_L_law Q 28 [a0, a1, a2, some (.int x)] st ((T, c, s), I, L) = mWP tb_L_law Q 29 [a0, a1, a2, some (.int x)] (.int x :: st) ((T, c, s), I, L) := mWP_eq mt_L_law _ _ _ _ _
set_option maxRecDepth 100000 in
theorem e_L_law_29 {Q : mQo} {T : List mSh} {c s : Nat} {I : Nat → Nat → Int32} {L : Nat → Nat → Int64} {st : List Value} {a0 a1 a2 a3 : Option Value} {x : Nat} {y : Int32} : mWP tb_L_law Q 29 [a0, a1, a2, a3] (.int y :: .ref x :: st) ((T, c, s), I, L) = (mTg (T, c, s) x = 0 ∧ vp_in y (mLn (T, c, s) x) ∧ mWP tb_L_law Q 30 [a0, a1, a2, a3] (.int (I x y.toNatClampNeg) :: st) ((T, c, s), I, L)) := mWP_eq mt_L_law _ _ _ _ _
set_option maxRecDepth 100000 in
theorem e_L_law_30 {Q : mQo} {T : List mSh} {c s : Nat} {I : Nat → Nat → Int32} {L : Nat → Nat → Int64} {st : List Value} {a0 a1 a2 a3 : Option Value} : mWP tb_L_law Q 30 [a0, a1, a2, a3] st ((T, c, s), I, L) = mWP tb_L_law Q 32 [a0, a1, a2, a3] (.int 63 :: st) ((T, c, s), I, L) := mWP_eq mt_L_law _ _ _ _ _
set_option maxRecDepth 100000 in
theorem e_L_law_32 {Q : mQo} {T : List mSh} {c s : Nat} {I : Nat → Nat → Int32} {L : Nat → Nat → Int64} {st : List Value} {a0 a1 a2 a3 : Option Value} {x y : Int32} : mWP tb_L_law Q 32 [a0, a1, a2, a3] (.int y :: .int x :: st) ((T, c, s), I, L) = mWP tb_L_law Q 33 [a0, a1, a2, a3] (.int (x &&& y) :: st) ((T, c, s), I, L) := mWP_eq mt_L_law _ _ _ _ _
set_option maxRecDepth 100000 in
theorem e_L_law_33 {Q : mQo} {T : List mSh} {c s : Nat} {I : Nat → Nat → Int32} {L : Nat → Nat → Int64} {st : List Value} {a0 a1 a2 a3 : Option Value} {x : Int32} : mWP tb_L_law Q 33 [a0, a1, a2, a3] (.int x :: st) ((T, c, s), I, L) = ((∀ q ∈ ([(0, 184), (1, 238), (2, 262), (3, 306), (4, 340), (5, 394), (6, 448), (7, 502), (8, 546), (9, 580), (10, 614), (11, 658), (12, 712), (13, 756), (14, 820), (15, 854), (16, 898), (17, 942), (18, 986), (19, 1020), (20, 1044), (21, 1078), (22, 1102), (23, 1126), (24, 1180), (25, 1204), (26, 1238), (27, 1282), (28, 1306), (29, 1360), (30, 1384), (31, 1398), (32, 1422), (33, 1436)] : List (Int32 × Nat)), x = q.1 → mWP tb_L_law Q q.2 [a0, a1, a2, a3] st ((T, c, s), I, L)) ∧ ((∀ q ∈ ([(0, 184), (1, 238), (2, 262), (3, 306), (4, 340), (5, 394), (6, 448), (7, 502), (8, 546), (9, 580), (10, 614), (11, 658), (12, 712), (13, 756), (14, 820), (15, 854), (16, 898), (17, 942), (18, 986), (19, 1020), (20, 1044), (21, 1078), (22, 1102), (23, 1126), (24, 1180), (25, 1204), (26, 1238), (27, 1282), (28, 1306), (29, 1360), (30, 1384), (31, 1398), (32, 1422), (33, 1436)] : List (Int32 × Nat)), ¬ x = q.1) → mWP tb_L_law Q 1460 [a0, a1, a2, a3] st ((T, c, s), I, L))) := mWP_eq mt_L_law _ _ _ _ _
set_option maxRecDepth 100000 in
theorem e_L_law_184 {Q : mQo} {T : List mSh} {c s : Nat} {I : Nat → Nat → Int32} {L : Nat → Nat → Int64} {st : List Value} {a0 a2 a3 : Option Value} {x : Nat} : mWP tb_L_law Q 184 [a0, some (.ref x), a2, a3] st ((T, c, s), I, L) = mWP tb_L_law Q 185 [a0, some (.ref x), a2, a3] (.ref x :: st) ((T, c, s), I, L) := mWP_eq mt_L_law _ _ _ _ _
set_option maxRecDepth 100000 in
theorem e_L_law_184n {Q : mQo} {T : List mSh} {c s : Nat} {I : Nat → Nat → Int32} {L : Nat → Nat → Int64} {st : List Value} {a0 a2 a3 : Option Value} : mWP tb_L_law Q 184 [a0, some .null, a2, a3] st ((T, c, s), I, L) = mWP tb_L_law Q 185 [a0, some .null, a2, a3] (.null :: st) ((T, c, s), I, L) := mWP_eq mt_L_law _ _ _ _ _
set_option maxRecDepth 100000 in
theorem e_L_law_185 {Q : mQo} {T : List mSh} {c s : Nat} {I : Nat → Nat → Int32} {L : Nat → Nat → Int64} {st : List Value} {a1 a2 a3 : Option Value} {x : Nat} : mWP tb_L_law Q 185 [some (.ref x), a1, a2, a3] st ((T, c, s), I, L) = mWP tb_L_law Q 186 [some (.ref x), a1, a2, a3] (.ref x :: st) ((T, c, s), I, L) := mWP_eq mt_L_law _ _ _ _ _
set_option maxRecDepth 100000 in
theorem e_L_law_185n {Q : mQo} {T : List mSh} {c s : Nat} {I : Nat → Nat → Int32} {L : Nat → Nat → Int64} {st : List Value} {a1 a2 a3 : Option Value} : mWP tb_L_law Q 185 [some .null, a1, a2, a3] st ((T, c, s), I, L) = mWP tb_L_law Q 186 [some .null, a1, a2, a3] (.null :: st) ((T, c, s), I, L) := mWP_eq mt_L_law _ _ _ _ _
set_option maxRecDepth 100000 in
theorem e_L_law_186 {Q : mQo} {T : List mSh} {c s : Nat} {I : Nat → Nat → Int32} {L : Nat → Nat → Int64} {st : List Value} {a0 a1 a2 : Option Value} {x : Int32} : mWP tb_L_law Q 186 [a0, a1, a2, some (.int x)] st ((T, c, s), I, L) = mWP tb_L_law Q 187 [a0, a1, a2, some (.int x)] (.int x :: st) ((T, c, s), I, L) := mWP_eq mt_L_law _ _ _ _ _
set_option maxRecDepth 100000 in
theorem e_L_law_187 {Q : mQo} {T : List mSh} {c s : Nat} {I : Nat → Nat → Int32} {L : Nat → Nat → Int64} {st : List Value} {a0 a1 a2 a3 : Option Value} : mWP tb_L_law Q 187 [a0, a1, a2, a3] st ((T, c, s), I, L) = mWP tb_L_law Q 188 [a0, a1, a2, a3] (.int 1 :: st) ((T, c, s), I, L) := mWP_eq mt_L_law _ _ _ _ _
set_option maxRecDepth 100000 in
theorem e_L_law_188 {Q : mQo} {T : List mSh} {c s : Nat} {I : Nat → Nat → Int32} {L : Nat → Nat → Int64} {st : List Value} {a0 a1 a2 a3 : Option Value} {x y : Int32} : mWP tb_L_law Q 188 [a0, a1, a2, a3] (.int y :: .int x :: st) ((T, c, s), I, L) = mWP tb_L_law Q 189 [a0, a1, a2, a3] (.int (x + y) :: st) ((T, c, s), I, L) := mWP_eq mt_L_law _ _ _ _ _
set_option maxRecDepth 100000 in
theorem e_L_law_189 {Q : mQo} {T : List mSh} {c s : Nat} {I : Nat → Nat → Int32} {L : Nat → Nat → Int64} {st : List Value} {a0 a1 a2 a3 : Option Value} {x : Nat} {y : Int32} : mWP tb_L_law Q 189 [a0, a1, a2, a3] (.int y :: .ref x :: st) ((T, c, s), I, L) = (mTg (T, c, s) x = 0 ∧ vp_in y (mLn (T, c, s) x) ∧ mWP tb_L_law Q 190 [a0, a1, a2, a3] (.int (I x y.toNatClampNeg) :: st) ((T, c, s), I, L)) := mWP_eq mt_L_law _ _ _ _ _
set_option maxRecDepth 100000 in
theorem e_L_law_190 {Q : mQo} {T : List mSh} {c s : Nat} {I : Nat → Nat → Int32} {L : Nat → Nat → Int64} {st : List Value} {a1 a2 a3 : Option Value} {x : Nat} : mWP tb_L_law Q 190 [some (.ref x), a1, a2, a3] st ((T, c, s), I, L) = mWP tb_L_law Q 191 [some (.ref x), a1, a2, a3] (.ref x :: st) ((T, c, s), I, L) := mWP_eq mt_L_law _ _ _ _ _
set_option maxRecDepth 100000 in
theorem e_L_law_190n {Q : mQo} {T : List mSh} {c s : Nat} {I : Nat → Nat → Int32} {L : Nat → Nat → Int64} {st : List Value} {a1 a2 a3 : Option Value} : mWP tb_L_law Q 190 [some .null, a1, a2, a3] st ((T, c, s), I, L) = mWP tb_L_law Q 191 [some .null, a1, a2, a3] (.null :: st) ((T, c, s), I, L) := mWP_eq mt_L_law _ _ _ _ _
set_option maxRecDepth 100000 in
theorem e_L_law_191 {Q : mQo} {T : List mSh} {c s : Nat} {I : Nat → Nat → Int32} {L : Nat → Nat → Int64} {st : List Value} {a0 a1 a2 : Option Value} {x : Int32} : mWP tb_L_law Q 191 [a0, a1, a2, some (.int x)] st ((T, c, s), I, L) = mWP tb_L_law Q 192 [a0, a1, a2, some (.int x)] (.int x :: st) ((T, c, s), I, L) := mWP_eq mt_L_law _ _ _ _ _
set_option maxRecDepth 100000 in
theorem e_L_law_192 {Q : mQo} {T : List mSh} {c s : Nat} {I : Nat → Nat → Int32} {L : Nat → Nat → Int64} {st : List Value} {a0 a1 a2 a3 : Option Value} : mWP tb_L_law Q 192 [a0, a1, a2, a3] st ((T, c, s), I, L) = mWP tb_L_law Q 193 [a0, a1, a2, a3] (.int 2 :: st) ((T, c, s), I, L) := mWP_eq mt_L_law _ _ _ _ _
set_option maxRecDepth 100000 in
theorem e_L_law_193 {Q : mQo} {T : List mSh} {c s : Nat} {I : Nat → Nat → Int32} {L : Nat → Nat → Int64} {st : List Value} {a0 a1 a2 a3 : Option Value} {x y : Int32} : mWP tb_L_law Q 193 [a0, a1, a2, a3] (.int y :: .int x :: st) ((T, c, s), I, L) = mWP tb_L_law Q 194 [a0, a1, a2, a3] (.int (x + y) :: st) ((T, c, s), I, L) := mWP_eq mt_L_law _ _ _ _ _
set_option maxRecDepth 100000 in
theorem e_L_law_194 {Q : mQo} {T : List mSh} {c s : Nat} {I : Nat → Nat → Int32} {L : Nat → Nat → Int64} {st : List Value} {a0 a1 a2 a3 : Option Value} {x : Nat} {y : Int32} : mWP tb_L_law Q 194 [a0, a1, a2, a3] (.int y :: .ref x :: st) ((T, c, s), I, L) = (mTg (T, c, s) x = 0 ∧ vp_in y (mLn (T, c, s) x) ∧ mWP tb_L_law Q 195 [a0, a1, a2, a3] (.int (I x y.toNatClampNeg) :: st) ((T, c, s), I, L)) := mWP_eq mt_L_law _ _ _ _ _
set_option maxRecDepth 100000 in
theorem e_L_law_195 {Q : mQo} {T : List mSh} {c s : Nat} {I : Nat → Nat → Int32} {L : Nat → Nat → Int64} {st : List Value} {a1 a2 a3 : Option Value} {x : Nat} : mWP tb_L_law Q 195 [some (.ref x), a1, a2, a3] st ((T, c, s), I, L) = mWP tb_L_law Q 196 [some (.ref x), a1, a2, a3] (.ref x :: st) ((T, c, s), I, L) := mWP_eq mt_L_law _ _ _ _ _
set_option maxRecDepth 100000 in
theorem e_L_law_195n {Q : mQo} {T : List mSh} {c s : Nat} {I : Nat → Nat → Int32} {L : Nat → Nat → Int64} {st : List Value} {a1 a2 a3 : Option Value} : mWP tb_L_law Q 195 [some .null, a1, a2, a3] st ((T, c, s), I, L) = mWP tb_L_law Q 196 [some .null, a1, a2, a3] (.null :: st) ((T, c, s), I, L) := mWP_eq mt_L_law _ _ _ _ _
set_option maxRecDepth 100000 in
theorem e_L_law_196 {Q : mQo} {T : List mSh} {c s : Nat} {I : Nat → Nat → Int32} {L : Nat → Nat → Int64} {st : List Value} {a0 a1 a2 : Option Value} {x : Int32} : mWP tb_L_law Q 196 [a0, a1, a2, some (.int x)] st ((T, c, s), I, L) = mWP tb_L_law Q 197 [a0, a1, a2, some (.int x)] (.int x :: st) ((T, c, s), I, L) := mWP_eq mt_L_law _ _ _ _ _
set_option maxRecDepth 100000 in
theorem e_L_law_197 {Q : mQo} {T : List mSh} {c s : Nat} {I : Nat → Nat → Int32} {L : Nat → Nat → Int64} {st : List Value} {a0 a1 a2 a3 : Option Value} : mWP tb_L_law Q 197 [a0, a1, a2, a3] st ((T, c, s), I, L) = mWP tb_L_law Q 198 [a0, a1, a2, a3] (.int 3 :: st) ((T, c, s), I, L) := mWP_eq mt_L_law _ _ _ _ _
set_option maxRecDepth 100000 in
theorem e_L_law_198 {Q : mQo} {T : List mSh} {c s : Nat} {I : Nat → Nat → Int32} {L : Nat → Nat → Int64} {st : List Value} {a0 a1 a2 a3 : Option Value} {x y : Int32} : mWP tb_L_law Q 198 [a0, a1, a2, a3] (.int y :: .int x :: st) ((T, c, s), I, L) = mWP tb_L_law Q 199 [a0, a1, a2, a3] (.int (x + y) :: st) ((T, c, s), I, L) := mWP_eq mt_L_law _ _ _ _ _
set_option maxRecDepth 100000 in
theorem e_L_law_199 {Q : mQo} {T : List mSh} {c s : Nat} {I : Nat → Nat → Int32} {L : Nat → Nat → Int64} {st : List Value} {a0 a1 a2 a3 : Option Value} {x : Nat} {y : Int32} : mWP tb_L_law Q 199 [a0, a1, a2, a3] (.int y :: .ref x :: st) ((T, c, s), I, L) = (mTg (T, c, s) x = 0 ∧ vp_in y (mLn (T, c, s) x) ∧ mWP tb_L_law Q 200 [a0, a1, a2, a3] (.int (I x y.toNatClampNeg) :: st) ((T, c, s), I, L)) := mWP_eq mt_L_law _ _ _ _ _
set_option maxRecDepth 100000 in
theorem e_L_law_200 {Q : mQo} {T : List mSh} {c s : Nat} {I : Nat → Nat → Int32} {L : Nat → Nat → Int64} {st : List Value} {a1 a2 a3 : Option Value} {x : Nat} : mWP tb_L_law Q 200 [some (.ref x), a1, a2, a3] st ((T, c, s), I, L) = mWP tb_L_law Q 201 [some (.ref x), a1, a2, a3] (.ref x :: st) ((T, c, s), I, L) := mWP_eq mt_L_law _ _ _ _ _
set_option maxRecDepth 100000 in
theorem e_L_law_200n {Q : mQo} {T : List mSh} {c s : Nat} {I : Nat → Nat → Int32} {L : Nat → Nat → Int64} {st : List Value} {a1 a2 a3 : Option Value} : mWP tb_L_law Q 200 [some .null, a1, a2, a3] st ((T, c, s), I, L) = mWP tb_L_law Q 201 [some .null, a1, a2, a3] (.null :: st) ((T, c, s), I, L) := mWP_eq mt_L_law _ _ _ _ _
set_option maxRecDepth 100000 in
theorem e_L_law_201 {Q : mQo} {T : List mSh} {c s : Nat} {I : Nat → Nat → Int32} {L : Nat → Nat → Int64} {st : List Value} {a0 a1 a2 : Option Value} {x : Int32} : mWP tb_L_law Q 201 [a0, a1, a2, some (.int x)] st ((T, c, s), I, L) = mWP tb_L_law Q 202 [a0, a1, a2, some (.int x)] (.int x :: st) ((T, c, s), I, L) := mWP_eq mt_L_law _ _ _ _ _
set_option maxRecDepth 100000 in
theorem e_L_law_202 {Q : mQo} {T : List mSh} {c s : Nat} {I : Nat → Nat → Int32} {L : Nat → Nat → Int64} {st : List Value} {a0 a1 a2 a3 : Option Value} : mWP tb_L_law Q 202 [a0, a1, a2, a3] st ((T, c, s), I, L) = mWP tb_L_law Q 203 [a0, a1, a2, a3] (.int 4 :: st) ((T, c, s), I, L) := mWP_eq mt_L_law _ _ _ _ _
set_option maxRecDepth 100000 in
theorem e_L_law_203 {Q : mQo} {T : List mSh} {c s : Nat} {I : Nat → Nat → Int32} {L : Nat → Nat → Int64} {st : List Value} {a0 a1 a2 a3 : Option Value} {x y : Int32} : mWP tb_L_law Q 203 [a0, a1, a2, a3] (.int y :: .int x :: st) ((T, c, s), I, L) = mWP tb_L_law Q 204 [a0, a1, a2, a3] (.int (x + y) :: st) ((T, c, s), I, L) := mWP_eq mt_L_law _ _ _ _ _
set_option maxRecDepth 100000 in
theorem e_L_law_204 {Q : mQo} {T : List mSh} {c s : Nat} {I : Nat → Nat → Int32} {L : Nat → Nat → Int64} {st : List Value} {a0 a1 a2 a3 : Option Value} {x : Nat} {y : Int32} : mWP tb_L_law Q 204 [a0, a1, a2, a3] (.int y :: .ref x :: st) ((T, c, s), I, L) = (mTg (T, c, s) x = 0 ∧ vp_in y (mLn (T, c, s) x) ∧ mWP tb_L_law Q 205 [a0, a1, a2, a3] (.int (I x y.toNatClampNeg) :: st) ((T, c, s), I, L)) := mWP_eq mt_L_law _ _ _ _ _
set_option maxRecDepth 100000 in
theorem e_L_law_205 {Q : mQo} {T : List mSh} {c s : Nat} {I : Nat → Nat → Int32} {L : Nat → Nat → Int64} {st : List Value} {a0 a1 a2 a3 : Option Value} {v0 : Int32} {v1 : Int32} {v2 : Int32} {v3 : Int32} {o : Nat} : mWP tb_L_law Q 205 [a0, a1, a2, a3] (.int v3 :: .int v2 :: .int v1 :: .int v0 :: .ref o :: st) ((T, c, s), I, L) = (mTg (T, c, s) o = 13 ∧ (st.map Value.category).sum ≤ 8 ∧ C_X10_limb [.ref o, .int v0, .int v1, .int v2, .int v3] (mZr (T, c, s), I, L) (fun r h' => h'.1 = mZr (T, c, s) ∧ mWP tb_L_law Q 208 [a0, a1, a2, a3] (r.toList ++ st) ((T, c, s), h'.2))) := (mWP_eq mt_L_law _ _ _ _ _).trans (eq_CV (Q := Q) 4 rfl)
set_option maxRecDepth 100000 in
theorem e_L_law_208 {Q : mQo} {T : List mSh} {c s : Nat} {I : Nat → Nat → Int32} {L : Nat → Nat → Int64} {st : List Value} {a0 a1 a3 : Option Value} {x : Nat} : mWP tb_L_law Q 208 [a0, a1, some (.ref x), a3] st ((T, c, s), I, L) = mWP tb_L_law Q 209 [a0, a1, some (.ref x), a3] (.ref x :: st) ((T, c, s), I, L) := mWP_eq mt_L_law _ _ _ _ _
set_option maxRecDepth 100000 in
theorem e_L_law_208n {Q : mQo} {T : List mSh} {c s : Nat} {I : Nat → Nat → Int32} {L : Nat → Nat → Int64} {st : List Value} {a0 a1 a3 : Option Value} : mWP tb_L_law Q 208 [a0, a1, some .null, a3] st ((T, c, s), I, L) = mWP tb_L_law Q 209 [a0, a1, some .null, a3] (.null :: st) ((T, c, s), I, L) := mWP_eq mt_L_law _ _ _ _ _
set_option maxRecDepth 100000 in
theorem e_L_law_209 {Q : mQo} {T : List mSh} {c s : Nat} {I : Nat → Nat → Int32} {L : Nat → Nat → Int64} {st : List Value} {a1 a2 a3 : Option Value} {x : Nat} : mWP tb_L_law Q 209 [some (.ref x), a1, a2, a3] st ((T, c, s), I, L) = mWP tb_L_law Q 210 [some (.ref x), a1, a2, a3] (.ref x :: st) ((T, c, s), I, L) := mWP_eq mt_L_law _ _ _ _ _
set_option maxRecDepth 100000 in
theorem e_L_law_209n {Q : mQo} {T : List mSh} {c s : Nat} {I : Nat → Nat → Int32} {L : Nat → Nat → Int64} {st : List Value} {a1 a2 a3 : Option Value} : mWP tb_L_law Q 209 [some .null, a1, a2, a3] st ((T, c, s), I, L) = mWP tb_L_law Q 210 [some .null, a1, a2, a3] (.null :: st) ((T, c, s), I, L) := mWP_eq mt_L_law _ _ _ _ _
set_option maxRecDepth 100000 in
theorem e_L_law_210 {Q : mQo} {T : List mSh} {c s : Nat} {I : Nat → Nat → Int32} {L : Nat → Nat → Int64} {st : List Value} {a0 a1 a2 : Option Value} {x : Int32} : mWP tb_L_law Q 210 [a0, a1, a2, some (.int x)] st ((T, c, s), I, L) = mWP tb_L_law Q 211 [a0, a1, a2, some (.int x)] (.int x :: st) ((T, c, s), I, L) := mWP_eq mt_L_law _ _ _ _ _
set_option maxRecDepth 100000 in
theorem e_L_law_211 {Q : mQo} {T : List mSh} {c s : Nat} {I : Nat → Nat → Int32} {L : Nat → Nat → Int64} {st : List Value} {a0 a1 a2 a3 : Option Value} : mWP tb_L_law Q 211 [a0, a1, a2, a3] st ((T, c, s), I, L) = mWP tb_L_law Q 212 [a0, a1, a2, a3] (.int 1 :: st) ((T, c, s), I, L) := mWP_eq mt_L_law _ _ _ _ _
set_option maxRecDepth 100000 in
theorem e_L_law_212 {Q : mQo} {T : List mSh} {c s : Nat} {I : Nat → Nat → Int32} {L : Nat → Nat → Int64} {st : List Value} {a0 a1 a2 a3 : Option Value} {x y : Int32} : mWP tb_L_law Q 212 [a0, a1, a2, a3] (.int y :: .int x :: st) ((T, c, s), I, L) = mWP tb_L_law Q 213 [a0, a1, a2, a3] (.int (x + y) :: st) ((T, c, s), I, L) := mWP_eq mt_L_law _ _ _ _ _
set_option maxRecDepth 100000 in
theorem e_L_law_213 {Q : mQo} {T : List mSh} {c s : Nat} {I : Nat → Nat → Int32} {L : Nat → Nat → Int64} {st : List Value} {a0 a1 a2 a3 : Option Value} {x : Nat} {y : Int32} : mWP tb_L_law Q 213 [a0, a1, a2, a3] (.int y :: .ref x :: st) ((T, c, s), I, L) = (mTg (T, c, s) x = 0 ∧ vp_in y (mLn (T, c, s) x) ∧ mWP tb_L_law Q 214 [a0, a1, a2, a3] (.int (I x y.toNatClampNeg) :: st) ((T, c, s), I, L)) := mWP_eq mt_L_law _ _ _ _ _
set_option maxRecDepth 100000 in
theorem e_L_law_214 {Q : mQo} {T : List mSh} {c s : Nat} {I : Nat → Nat → Int32} {L : Nat → Nat → Int64} {st : List Value} {a1 a2 a3 : Option Value} {x : Nat} : mWP tb_L_law Q 214 [some (.ref x), a1, a2, a3] st ((T, c, s), I, L) = mWP tb_L_law Q 215 [some (.ref x), a1, a2, a3] (.ref x :: st) ((T, c, s), I, L) := mWP_eq mt_L_law _ _ _ _ _
set_option maxRecDepth 100000 in
theorem e_L_law_214n {Q : mQo} {T : List mSh} {c s : Nat} {I : Nat → Nat → Int32} {L : Nat → Nat → Int64} {st : List Value} {a1 a2 a3 : Option Value} : mWP tb_L_law Q 214 [some .null, a1, a2, a3] st ((T, c, s), I, L) = mWP tb_L_law Q 215 [some .null, a1, a2, a3] (.null :: st) ((T, c, s), I, L) := mWP_eq mt_L_law _ _ _ _ _
set_option maxRecDepth 100000 in
theorem e_L_law_215 {Q : mQo} {T : List mSh} {c s : Nat} {I : Nat → Nat → Int32} {L : Nat → Nat → Int64} {st : List Value} {a0 a1 a2 : Option Value} {x : Int32} : mWP tb_L_law Q 215 [a0, a1, a2, some (.int x)] st ((T, c, s), I, L) = mWP tb_L_law Q 216 [a0, a1, a2, some (.int x)] (.int x :: st) ((T, c, s), I, L) := mWP_eq mt_L_law _ _ _ _ _
set_option maxRecDepth 100000 in
theorem e_L_law_216 {Q : mQo} {T : List mSh} {c s : Nat} {I : Nat → Nat → Int32} {L : Nat → Nat → Int64} {st : List Value} {a0 a1 a2 a3 : Option Value} : mWP tb_L_law Q 216 [a0, a1, a2, a3] st ((T, c, s), I, L) = mWP tb_L_law Q 217 [a0, a1, a2, a3] (.int 2 :: st) ((T, c, s), I, L) := mWP_eq mt_L_law _ _ _ _ _
set_option maxRecDepth 100000 in
theorem e_L_law_217 {Q : mQo} {T : List mSh} {c s : Nat} {I : Nat → Nat → Int32} {L : Nat → Nat → Int64} {st : List Value} {a0 a1 a2 a3 : Option Value} {x y : Int32} : mWP tb_L_law Q 217 [a0, a1, a2, a3] (.int y :: .int x :: st) ((T, c, s), I, L) = mWP tb_L_law Q 218 [a0, a1, a2, a3] (.int (x + y) :: st) ((T, c, s), I, L) := mWP_eq mt_L_law _ _ _ _ _
set_option maxRecDepth 100000 in
theorem e_L_law_218 {Q : mQo} {T : List mSh} {c s : Nat} {I : Nat → Nat → Int32} {L : Nat → Nat → Int64} {st : List Value} {a0 a1 a2 a3 : Option Value} {x : Nat} {y : Int32} : mWP tb_L_law Q 218 [a0, a1, a2, a3] (.int y :: .ref x :: st) ((T, c, s), I, L) = (mTg (T, c, s) x = 0 ∧ vp_in y (mLn (T, c, s) x) ∧ mWP tb_L_law Q 219 [a0, a1, a2, a3] (.int (I x y.toNatClampNeg) :: st) ((T, c, s), I, L)) := mWP_eq mt_L_law _ _ _ _ _
set_option maxRecDepth 100000 in
theorem e_L_law_219 {Q : mQo} {T : List mSh} {c s : Nat} {I : Nat → Nat → Int32} {L : Nat → Nat → Int64} {st : List Value} {a1 a2 a3 : Option Value} {x : Nat} : mWP tb_L_law Q 219 [some (.ref x), a1, a2, a3] st ((T, c, s), I, L) = mWP tb_L_law Q 220 [some (.ref x), a1, a2, a3] (.ref x :: st) ((T, c, s), I, L) := mWP_eq mt_L_law _ _ _ _ _
set_option maxRecDepth 100000 in
theorem e_L_law_219n {Q : mQo} {T : List mSh} {c s : Nat} {I : Nat → Nat → Int32} {L : Nat → Nat → Int64} {st : List Value} {a1 a2 a3 : Option Value} : mWP tb_L_law Q 219 [some .null, a1, a2, a3] st ((T, c, s), I, L) = mWP tb_L_law Q 220 [some .null, a1, a2, a3] (.null :: st) ((T, c, s), I, L) := mWP_eq mt_L_law _ _ _ _ _
set_option maxRecDepth 100000 in
theorem e_L_law_220 {Q : mQo} {T : List mSh} {c s : Nat} {I : Nat → Nat → Int32} {L : Nat → Nat → Int64} {st : List Value} {a0 a1 a2 : Option Value} {x : Int32} : mWP tb_L_law Q 220 [a0, a1, a2, some (.int x)] st ((T, c, s), I, L) = mWP tb_L_law Q 221 [a0, a1, a2, some (.int x)] (.int x :: st) ((T, c, s), I, L) := mWP_eq mt_L_law _ _ _ _ _
set_option maxRecDepth 100000 in
theorem e_L_law_221 {Q : mQo} {T : List mSh} {c s : Nat} {I : Nat → Nat → Int32} {L : Nat → Nat → Int64} {st : List Value} {a0 a1 a2 a3 : Option Value} : mWP tb_L_law Q 221 [a0, a1, a2, a3] st ((T, c, s), I, L) = mWP tb_L_law Q 222 [a0, a1, a2, a3] (.int 3 :: st) ((T, c, s), I, L) := mWP_eq mt_L_law _ _ _ _ _
set_option maxRecDepth 100000 in
theorem e_L_law_222 {Q : mQo} {T : List mSh} {c s : Nat} {I : Nat → Nat → Int32} {L : Nat → Nat → Int64} {st : List Value} {a0 a1 a2 a3 : Option Value} {x y : Int32} : mWP tb_L_law Q 222 [a0, a1, a2, a3] (.int y :: .int x :: st) ((T, c, s), I, L) = mWP tb_L_law Q 223 [a0, a1, a2, a3] (.int (x + y) :: st) ((T, c, s), I, L) := mWP_eq mt_L_law _ _ _ _ _
set_option maxRecDepth 100000 in
theorem e_L_law_223 {Q : mQo} {T : List mSh} {c s : Nat} {I : Nat → Nat → Int32} {L : Nat → Nat → Int64} {st : List Value} {a0 a1 a2 a3 : Option Value} {x : Nat} {y : Int32} : mWP tb_L_law Q 223 [a0, a1, a2, a3] (.int y :: .ref x :: st) ((T, c, s), I, L) = (mTg (T, c, s) x = 0 ∧ vp_in y (mLn (T, c, s) x) ∧ mWP tb_L_law Q 224 [a0, a1, a2, a3] (.int (I x y.toNatClampNeg) :: st) ((T, c, s), I, L)) := mWP_eq mt_L_law _ _ _ _ _
set_option maxRecDepth 100000 in
theorem e_L_law_224 {Q : mQo} {T : List mSh} {c s : Nat} {I : Nat → Nat → Int32} {L : Nat → Nat → Int64} {st : List Value} {a1 a2 a3 : Option Value} {x : Nat} : mWP tb_L_law Q 224 [some (.ref x), a1, a2, a3] st ((T, c, s), I, L) = mWP tb_L_law Q 225 [some (.ref x), a1, a2, a3] (.ref x :: st) ((T, c, s), I, L) := mWP_eq mt_L_law _ _ _ _ _
set_option maxRecDepth 100000 in
theorem e_L_law_224n {Q : mQo} {T : List mSh} {c s : Nat} {I : Nat → Nat → Int32} {L : Nat → Nat → Int64} {st : List Value} {a1 a2 a3 : Option Value} : mWP tb_L_law Q 224 [some .null, a1, a2, a3] st ((T, c, s), I, L) = mWP tb_L_law Q 225 [some .null, a1, a2, a3] (.null :: st) ((T, c, s), I, L) := mWP_eq mt_L_law _ _ _ _ _
set_option maxRecDepth 100000 in
theorem e_L_law_225 {Q : mQo} {T : List mSh} {c s : Nat} {I : Nat → Nat → Int32} {L : Nat → Nat → Int64} {st : List Value} {a0 a1 a2 : Option Value} {x : Int32} : mWP tb_L_law Q 225 [a0, a1, a2, some (.int x)] st ((T, c, s), I, L) = mWP tb_L_law Q 226 [a0, a1, a2, some (.int x)] (.int x :: st) ((T, c, s), I, L) := mWP_eq mt_L_law _ _ _ _ _
set_option maxRecDepth 100000 in
theorem e_L_law_226 {Q : mQo} {T : List mSh} {c s : Nat} {I : Nat → Nat → Int32} {L : Nat → Nat → Int64} {st : List Value} {a0 a1 a2 a3 : Option Value} : mWP tb_L_law Q 226 [a0, a1, a2, a3] st ((T, c, s), I, L) = mWP tb_L_law Q 227 [a0, a1, a2, a3] (.int 4 :: st) ((T, c, s), I, L) := mWP_eq mt_L_law _ _ _ _ _
set_option maxRecDepth 100000 in
theorem e_L_law_227 {Q : mQo} {T : List mSh} {c s : Nat} {I : Nat → Nat → Int32} {L : Nat → Nat → Int64} {st : List Value} {a0 a1 a2 a3 : Option Value} {x y : Int32} : mWP tb_L_law Q 227 [a0, a1, a2, a3] (.int y :: .int x :: st) ((T, c, s), I, L) = mWP tb_L_law Q 228 [a0, a1, a2, a3] (.int (x + y) :: st) ((T, c, s), I, L) := mWP_eq mt_L_law _ _ _ _ _
set_option maxRecDepth 100000 in
theorem e_L_law_228 {Q : mQo} {T : List mSh} {c s : Nat} {I : Nat → Nat → Int32} {L : Nat → Nat → Int64} {st : List Value} {a0 a1 a2 a3 : Option Value} {x : Nat} {y : Int32} : mWP tb_L_law Q 228 [a0, a1, a2, a3] (.int y :: .ref x :: st) ((T, c, s), I, L) = (mTg (T, c, s) x = 0 ∧ vp_in y (mLn (T, c, s) x) ∧ mWP tb_L_law Q 229 [a0, a1, a2, a3] (.int (I x y.toNatClampNeg) :: st) ((T, c, s), I, L)) := mWP_eq mt_L_law _ _ _ _ _
set_option maxRecDepth 100000 in
theorem e_L_law_229 {Q : mQo} {T : List mSh} {c s : Nat} {I : Nat → Nat → Int32} {L : Nat → Nat → Int64} {st : List Value} {a0 a1 a2 a3 : Option Value} {v0 : Int32} {v1 : Int32} {v2 : Int32} {v3 : Int32} {o : Nat} : mWP tb_L_law Q 229 [a0, a1, a2, a3] (.int v3 :: .int v2 :: .int v1 :: .int v0 :: .ref o :: st) ((T, c, s), I, L) = (mTg (T, c, s) o = 14 ∧ (st.map Value.category).sum ≤ 8 ∧ C_X11_limb [.ref o, .int v0, .int v1, .int v2, .int v3] (mZr (T, c, s), I, L) (fun r h' => h'.1 = mZr (T, c, s) ∧ mWP tb_L_law Q 232 [a0, a1, a2, a3] (r.toList ++ st) ((T, c, s), h'.2))) := (mWP_eq mt_L_law _ _ _ _ _).trans (eq_CV (Q := Q) 4 rfl)
set_option maxRecDepth 100000 in
theorem e_L_law_232 {Q : mQo} {T : List mSh} {c s : Nat} {I : Nat → Nat → Int32} {L : Nat → Nat → Int64} {st : List Value} {a0 a1 a2 a3 : Option Value} {x y : Int64} : mWP tb_L_law Q 232 [a0, a1, a2, a3] (.long y :: .long x :: st) ((T, c, s), I, L) = mWP tb_L_law Q 233 [a0, a1, a2, a3] (.int (lg_cmp x y) :: st) ((T, c, s), I, L) := mWP_eq mt_L_law _ _ _ _ _
set_option maxRecDepth 100000 in
theorem e_L_law_233 {Q : mQo} {T : List mSh} {c s : Nat} {I : Nat → Nat → Int32} {L : Nat → Nat → Int64} {st : List Value} {a0 a1 a2 a3 : Option Value} {x : Int32} : mWP tb_L_law Q 233 [a0, a1, a2, a3] (.int x :: st) ((T, c, s), I, L) = ((x = 0 → mWP tb_L_law Q 1460 [a0, a1, a2, a3] st ((T, c, s), I, L)) ∧ (¬ (x = 0) → mWP tb_L_law Q 236 [a0, a1, a2, a3] st ((T, c, s), I, L))) := mWP_eq mt_L_law _ _ _ _ _
set_option maxRecDepth 100000 in
theorem e_L_law_236 {Q : mQo} {T : List mSh} {c s : Nat} {I : Nat → Nat → Int32} {L : Nat → Nat → Int64} {st : List Value} {a0 a1 a2 a3 : Option Value} : mWP tb_L_law Q 236 [a0, a1, a2, a3] st ((T, c, s), I, L) = mWP tb_L_law Q 237 [a0, a1, a2, a3] (.int 0 :: st) ((T, c, s), I, L) := mWP_eq mt_L_law _ _ _ _ _
set_option maxRecDepth 100000 in
theorem e_L_law_237 {Q : mQo} {T : List mSh} {c s : Nat} {I : Nat → Nat → Int32} {L : Nat → Nat → Int64} {a0 a1 a2 a3 : Option Value} {x : Int32} : mWP tb_L_law Q 237 [a0, a1, a2, a3] [.int x] ((T, c, s), I, L) = ((x = 0 ∨ x = 1) ∧ Q (some (.int x)) ((T, c, s), I, L)) := mWP_eq mt_L_law _ _ _ _ _
set_option maxRecDepth 100000 in
theorem e_L_law_238 {Q : mQo} {T : List mSh} {c s : Nat} {I : Nat → Nat → Int32} {L : Nat → Nat → Int64} {st : List Value} {a0 a2 a3 : Option Value} {x : Nat} : mWP tb_L_law Q 238 [a0, some (.ref x), a2, a3] st ((T, c, s), I, L) = mWP tb_L_law Q 239 [a0, some (.ref x), a2, a3] (.ref x :: st) ((T, c, s), I, L) := mWP_eq mt_L_law _ _ _ _ _
set_option maxRecDepth 100000 in
theorem e_L_law_238n {Q : mQo} {T : List mSh} {c s : Nat} {I : Nat → Nat → Int32} {L : Nat → Nat → Int64} {st : List Value} {a0 a2 a3 : Option Value} : mWP tb_L_law Q 238 [a0, some .null, a2, a3] st ((T, c, s), I, L) = mWP tb_L_law Q 239 [a0, some .null, a2, a3] (.null :: st) ((T, c, s), I, L) := mWP_eq mt_L_law _ _ _ _ _
set_option maxRecDepth 100000 in
theorem e_L_law_239 {Q : mQo} {T : List mSh} {c s : Nat} {I : Nat → Nat → Int32} {L : Nat → Nat → Int64} {st : List Value} {a1 a2 a3 : Option Value} {x : Nat} : mWP tb_L_law Q 239 [some (.ref x), a1, a2, a3] st ((T, c, s), I, L) = mWP tb_L_law Q 240 [some (.ref x), a1, a2, a3] (.ref x :: st) ((T, c, s), I, L) := mWP_eq mt_L_law _ _ _ _ _
set_option maxRecDepth 100000 in
theorem e_L_law_239n {Q : mQo} {T : List mSh} {c s : Nat} {I : Nat → Nat → Int32} {L : Nat → Nat → Int64} {st : List Value} {a1 a2 a3 : Option Value} : mWP tb_L_law Q 239 [some .null, a1, a2, a3] st ((T, c, s), I, L) = mWP tb_L_law Q 240 [some .null, a1, a2, a3] (.null :: st) ((T, c, s), I, L) := mWP_eq mt_L_law _ _ _ _ _
set_option maxRecDepth 100000 in
theorem e_L_law_240 {Q : mQo} {T : List mSh} {c s : Nat} {I : Nat → Nat → Int32} {L : Nat → Nat → Int64} {st : List Value} {a0 a1 a2 : Option Value} {x : Int32} : mWP tb_L_law Q 240 [a0, a1, a2, some (.int x)] st ((T, c, s), I, L) = mWP tb_L_law Q 241 [a0, a1, a2, some (.int x)] (.int x :: st) ((T, c, s), I, L) := mWP_eq mt_L_law _ _ _ _ _
set_option maxRecDepth 100000 in
theorem e_L_law_241 {Q : mQo} {T : List mSh} {c s : Nat} {I : Nat → Nat → Int32} {L : Nat → Nat → Int64} {st : List Value} {a0 a1 a2 a3 : Option Value} : mWP tb_L_law Q 241 [a0, a1, a2, a3] st ((T, c, s), I, L) = mWP tb_L_law Q 242 [a0, a1, a2, a3] (.int 1 :: st) ((T, c, s), I, L) := mWP_eq mt_L_law _ _ _ _ _
set_option maxRecDepth 100000 in
theorem e_L_law_242 {Q : mQo} {T : List mSh} {c s : Nat} {I : Nat → Nat → Int32} {L : Nat → Nat → Int64} {st : List Value} {a0 a1 a2 a3 : Option Value} {x y : Int32} : mWP tb_L_law Q 242 [a0, a1, a2, a3] (.int y :: .int x :: st) ((T, c, s), I, L) = mWP tb_L_law Q 243 [a0, a1, a2, a3] (.int (x + y) :: st) ((T, c, s), I, L) := mWP_eq mt_L_law _ _ _ _ _
set_option maxRecDepth 100000 in
theorem e_L_law_243 {Q : mQo} {T : List mSh} {c s : Nat} {I : Nat → Nat → Int32} {L : Nat → Nat → Int64} {st : List Value} {a0 a1 a2 a3 : Option Value} {x : Nat} {y : Int32} : mWP tb_L_law Q 243 [a0, a1, a2, a3] (.int y :: .ref x :: st) ((T, c, s), I, L) = (mTg (T, c, s) x = 0 ∧ vp_in y (mLn (T, c, s) x) ∧ mWP tb_L_law Q 244 [a0, a1, a2, a3] (.int (I x y.toNatClampNeg) :: st) ((T, c, s), I, L)) := mWP_eq mt_L_law _ _ _ _ _
set_option maxRecDepth 100000 in
theorem e_L_law_244 {Q : mQo} {T : List mSh} {c s : Nat} {I : Nat → Nat → Int32} {L : Nat → Nat → Int64} {st : List Value} {a0 a1 a2 a3 : Option Value} {v0 : Int32} {o : Nat} : mWP tb_L_law Q 244 [a0, a1, a2, a3] (.int v0 :: .ref o :: st) ((T, c, s), I, L) = (mTg (T, c, s) o = 13 ∧ (st.map Value.category).sum ≤ 8 ∧ C_X10_lose [.ref o, .int v0] (mZr (T, c, s), I, L) (fun r h' => h'.1 = mZr (T, c, s) ∧ mWP tb_L_law Q 247 [a0, a1, a2, a3] (r.toList ++ st) ((T, c, s), h'.2))) := (mWP_eq mt_L_law _ _ _ _ _).trans (eq_CV (Q := Q) 1 rfl)
set_option maxRecDepth 100000 in
theorem e_L_law_247 {Q : mQo} {T : List mSh} {c s : Nat} {I : Nat → Nat → Int32} {L : Nat → Nat → Int64} {st : List Value} {a0 a1 a3 : Option Value} {x : Nat} : mWP tb_L_law Q 247 [a0, a1, some (.ref x), a3] st ((T, c, s), I, L) = mWP tb_L_law Q 248 [a0, a1, some (.ref x), a3] (.ref x :: st) ((T, c, s), I, L) := mWP_eq mt_L_law _ _ _ _ _
set_option maxRecDepth 100000 in
theorem e_L_law_247n {Q : mQo} {T : List mSh} {c s : Nat} {I : Nat → Nat → Int32} {L : Nat → Nat → Int64} {st : List Value} {a0 a1 a3 : Option Value} : mWP tb_L_law Q 247 [a0, a1, some .null, a3] st ((T, c, s), I, L) = mWP tb_L_law Q 248 [a0, a1, some .null, a3] (.null :: st) ((T, c, s), I, L) := mWP_eq mt_L_law _ _ _ _ _
set_option maxRecDepth 100000 in
theorem e_L_law_248 {Q : mQo} {T : List mSh} {c s : Nat} {I : Nat → Nat → Int32} {L : Nat → Nat → Int64} {st : List Value} {a1 a2 a3 : Option Value} {x : Nat} : mWP tb_L_law Q 248 [some (.ref x), a1, a2, a3] st ((T, c, s), I, L) = mWP tb_L_law Q 249 [some (.ref x), a1, a2, a3] (.ref x :: st) ((T, c, s), I, L) := mWP_eq mt_L_law _ _ _ _ _
set_option maxRecDepth 100000 in
theorem e_L_law_248n {Q : mQo} {T : List mSh} {c s : Nat} {I : Nat → Nat → Int32} {L : Nat → Nat → Int64} {st : List Value} {a1 a2 a3 : Option Value} : mWP tb_L_law Q 248 [some .null, a1, a2, a3] st ((T, c, s), I, L) = mWP tb_L_law Q 249 [some .null, a1, a2, a3] (.null :: st) ((T, c, s), I, L) := mWP_eq mt_L_law _ _ _ _ _
set_option maxRecDepth 100000 in
theorem e_L_law_249 {Q : mQo} {T : List mSh} {c s : Nat} {I : Nat → Nat → Int32} {L : Nat → Nat → Int64} {st : List Value} {a0 a1 a2 : Option Value} {x : Int32} : mWP tb_L_law Q 249 [a0, a1, a2, some (.int x)] st ((T, c, s), I, L) = mWP tb_L_law Q 250 [a0, a1, a2, some (.int x)] (.int x :: st) ((T, c, s), I, L) := mWP_eq mt_L_law _ _ _ _ _
set_option maxRecDepth 100000 in
theorem e_L_law_250 {Q : mQo} {T : List mSh} {c s : Nat} {I : Nat → Nat → Int32} {L : Nat → Nat → Int64} {st : List Value} {a0 a1 a2 a3 : Option Value} : mWP tb_L_law Q 250 [a0, a1, a2, a3] st ((T, c, s), I, L) = mWP tb_L_law Q 251 [a0, a1, a2, a3] (.int 1 :: st) ((T, c, s), I, L) := mWP_eq mt_L_law _ _ _ _ _
set_option maxRecDepth 100000 in
theorem e_L_law_251 {Q : mQo} {T : List mSh} {c s : Nat} {I : Nat → Nat → Int32} {L : Nat → Nat → Int64} {st : List Value} {a0 a1 a2 a3 : Option Value} {x y : Int32} : mWP tb_L_law Q 251 [a0, a1, a2, a3] (.int y :: .int x :: st) ((T, c, s), I, L) = mWP tb_L_law Q 252 [a0, a1, a2, a3] (.int (x + y) :: st) ((T, c, s), I, L) := mWP_eq mt_L_law _ _ _ _ _
set_option maxRecDepth 100000 in
theorem e_L_law_252 {Q : mQo} {T : List mSh} {c s : Nat} {I : Nat → Nat → Int32} {L : Nat → Nat → Int64} {st : List Value} {a0 a1 a2 a3 : Option Value} {x : Nat} {y : Int32} : mWP tb_L_law Q 252 [a0, a1, a2, a3] (.int y :: .ref x :: st) ((T, c, s), I, L) = (mTg (T, c, s) x = 0 ∧ vp_in y (mLn (T, c, s) x) ∧ mWP tb_L_law Q 253 [a0, a1, a2, a3] (.int (I x y.toNatClampNeg) :: st) ((T, c, s), I, L)) := mWP_eq mt_L_law _ _ _ _ _
set_option maxRecDepth 100000 in
theorem e_L_law_253 {Q : mQo} {T : List mSh} {c s : Nat} {I : Nat → Nat → Int32} {L : Nat → Nat → Int64} {st : List Value} {a0 a1 a2 a3 : Option Value} {v0 : Int32} {o : Nat} : mWP tb_L_law Q 253 [a0, a1, a2, a3] (.int v0 :: .ref o :: st) ((T, c, s), I, L) = (mTg (T, c, s) o = 14 ∧ (st.map Value.category).sum ≤ 8 ∧ C_X11_lose [.ref o, .int v0] (mZr (T, c, s), I, L) (fun r h' => h'.1 = mZr (T, c, s) ∧ mWP tb_L_law Q 256 [a0, a1, a2, a3] (r.toList ++ st) ((T, c, s), h'.2))) := (mWP_eq mt_L_law _ _ _ _ _).trans (eq_CV (Q := Q) 1 rfl)
set_option maxRecDepth 100000 in
theorem e_L_law_256 {Q : mQo} {T : List mSh} {c s : Nat} {I : Nat → Nat → Int32} {L : Nat → Nat → Int64} {st : List Value} {a0 a1 a2 a3 : Option Value} {x y : Int64} : mWP tb_L_law Q 256 [a0, a1, a2, a3] (.long y :: .long x :: st) ((T, c, s), I, L) = mWP tb_L_law Q 257 [a0, a1, a2, a3] (.int (lg_cmp x y) :: st) ((T, c, s), I, L) := mWP_eq mt_L_law _ _ _ _ _
set_option maxRecDepth 100000 in
theorem e_L_law_257 {Q : mQo} {T : List mSh} {c s : Nat} {I : Nat → Nat → Int32} {L : Nat → Nat → Int64} {st : List Value} {a0 a1 a2 a3 : Option Value} {x : Int32} : mWP tb_L_law Q 257 [a0, a1, a2, a3] (.int x :: st) ((T, c, s), I, L) = ((x = 0 → mWP tb_L_law Q 1460 [a0, a1, a2, a3] st ((T, c, s), I, L)) ∧ (¬ (x = 0) → mWP tb_L_law Q 260 [a0, a1, a2, a3] st ((T, c, s), I, L))) := mWP_eq mt_L_law _ _ _ _ _
set_option maxRecDepth 100000 in
theorem e_L_law_260 {Q : mQo} {T : List mSh} {c s : Nat} {I : Nat → Nat → Int32} {L : Nat → Nat → Int64} {st : List Value} {a0 a1 a2 a3 : Option Value} : mWP tb_L_law Q 260 [a0, a1, a2, a3] st ((T, c, s), I, L) = mWP tb_L_law Q 261 [a0, a1, a2, a3] (.int 0 :: st) ((T, c, s), I, L) := mWP_eq mt_L_law _ _ _ _ _
set_option maxRecDepth 100000 in
theorem e_L_law_261 {Q : mQo} {T : List mSh} {c s : Nat} {I : Nat → Nat → Int32} {L : Nat → Nat → Int64} {a0 a1 a2 a3 : Option Value} {x : Int32} : mWP tb_L_law Q 261 [a0, a1, a2, a3] [.int x] ((T, c, s), I, L) = ((x = 0 ∨ x = 1) ∧ Q (some (.int x)) ((T, c, s), I, L)) := mWP_eq mt_L_law _ _ _ _ _
set_option maxRecDepth 100000 in
theorem e_L_law_262 {Q : mQo} {T : List mSh} {c s : Nat} {I : Nat → Nat → Int32} {L : Nat → Nat → Int64} {st : List Value} {a0 a2 a3 : Option Value} {x : Nat} : mWP tb_L_law Q 262 [a0, some (.ref x), a2, a3] st ((T, c, s), I, L) = mWP tb_L_law Q 263 [a0, some (.ref x), a2, a3] (.ref x :: st) ((T, c, s), I, L) := mWP_eq mt_L_law _ _ _ _ _
set_option maxRecDepth 100000 in
theorem e_L_law_262n {Q : mQo} {T : List mSh} {c s : Nat} {I : Nat → Nat → Int32} {L : Nat → Nat → Int64} {st : List Value} {a0 a2 a3 : Option Value} : mWP tb_L_law Q 262 [a0, some .null, a2, a3] st ((T, c, s), I, L) = mWP tb_L_law Q 263 [a0, some .null, a2, a3] (.null :: st) ((T, c, s), I, L) := mWP_eq mt_L_law _ _ _ _ _
set_option maxRecDepth 100000 in
theorem e_L_law_263 {Q : mQo} {T : List mSh} {c s : Nat} {I : Nat → Nat → Int32} {L : Nat → Nat → Int64} {st : List Value} {a1 a2 a3 : Option Value} {x : Nat} : mWP tb_L_law Q 263 [some (.ref x), a1, a2, a3] st ((T, c, s), I, L) = mWP tb_L_law Q 264 [some (.ref x), a1, a2, a3] (.ref x :: st) ((T, c, s), I, L) := mWP_eq mt_L_law _ _ _ _ _
set_option maxRecDepth 100000 in
theorem e_L_law_263n {Q : mQo} {T : List mSh} {c s : Nat} {I : Nat → Nat → Int32} {L : Nat → Nat → Int64} {st : List Value} {a1 a2 a3 : Option Value} : mWP tb_L_law Q 263 [some .null, a1, a2, a3] st ((T, c, s), I, L) = mWP tb_L_law Q 264 [some .null, a1, a2, a3] (.null :: st) ((T, c, s), I, L) := mWP_eq mt_L_law _ _ _ _ _
set_option maxRecDepth 100000 in
theorem e_L_law_264 {Q : mQo} {T : List mSh} {c s : Nat} {I : Nat → Nat → Int32} {L : Nat → Nat → Int64} {st : List Value} {a0 a1 a2 : Option Value} {x : Int32} : mWP tb_L_law Q 264 [a0, a1, a2, some (.int x)] st ((T, c, s), I, L) = mWP tb_L_law Q 265 [a0, a1, a2, some (.int x)] (.int x :: st) ((T, c, s), I, L) := mWP_eq mt_L_law _ _ _ _ _
set_option maxRecDepth 100000 in
theorem e_L_law_265 {Q : mQo} {T : List mSh} {c s : Nat} {I : Nat → Nat → Int32} {L : Nat → Nat → Int64} {st : List Value} {a0 a1 a2 a3 : Option Value} : mWP tb_L_law Q 265 [a0, a1, a2, a3] st ((T, c, s), I, L) = mWP tb_L_law Q 266 [a0, a1, a2, a3] (.int 1 :: st) ((T, c, s), I, L) := mWP_eq mt_L_law _ _ _ _ _
set_option maxRecDepth 100000 in
theorem e_L_law_266 {Q : mQo} {T : List mSh} {c s : Nat} {I : Nat → Nat → Int32} {L : Nat → Nat → Int64} {st : List Value} {a0 a1 a2 a3 : Option Value} {x y : Int32} : mWP tb_L_law Q 266 [a0, a1, a2, a3] (.int y :: .int x :: st) ((T, c, s), I, L) = mWP tb_L_law Q 267 [a0, a1, a2, a3] (.int (x + y) :: st) ((T, c, s), I, L) := mWP_eq mt_L_law _ _ _ _ _
set_option maxRecDepth 100000 in
theorem e_L_law_267 {Q : mQo} {T : List mSh} {c s : Nat} {I : Nat → Nat → Int32} {L : Nat → Nat → Int64} {st : List Value} {a0 a1 a2 a3 : Option Value} {x : Nat} {y : Int32} : mWP tb_L_law Q 267 [a0, a1, a2, a3] (.int y :: .ref x :: st) ((T, c, s), I, L) = (mTg (T, c, s) x = 0 ∧ vp_in y (mLn (T, c, s) x) ∧ mWP tb_L_law Q 268 [a0, a1, a2, a3] (.int (I x y.toNatClampNeg) :: st) ((T, c, s), I, L)) := mWP_eq mt_L_law _ _ _ _ _
set_option maxRecDepth 100000 in
theorem e_L_law_268 {Q : mQo} {T : List mSh} {c s : Nat} {I : Nat → Nat → Int32} {L : Nat → Nat → Int64} {st : List Value} {a1 a2 a3 : Option Value} {x : Nat} : mWP tb_L_law Q 268 [some (.ref x), a1, a2, a3] st ((T, c, s), I, L) = mWP tb_L_law Q 269 [some (.ref x), a1, a2, a3] (.ref x :: st) ((T, c, s), I, L) := mWP_eq mt_L_law _ _ _ _ _
set_option maxRecDepth 100000 in
theorem e_L_law_268n {Q : mQo} {T : List mSh} {c s : Nat} {I : Nat → Nat → Int32} {L : Nat → Nat → Int64} {st : List Value} {a1 a2 a3 : Option Value} : mWP tb_L_law Q 268 [some .null, a1, a2, a3] st ((T, c, s), I, L) = mWP tb_L_law Q 269 [some .null, a1, a2, a3] (.null :: st) ((T, c, s), I, L) := mWP_eq mt_L_law _ _ _ _ _
set_option maxRecDepth 100000 in
theorem e_L_law_269 {Q : mQo} {T : List mSh} {c s : Nat} {I : Nat → Nat → Int32} {L : Nat → Nat → Int64} {st : List Value} {a0 a1 a2 : Option Value} {x : Int32} : mWP tb_L_law Q 269 [a0, a1, a2, some (.int x)] st ((T, c, s), I, L) = mWP tb_L_law Q 270 [a0, a1, a2, some (.int x)] (.int x :: st) ((T, c, s), I, L) := mWP_eq mt_L_law _ _ _ _ _
set_option maxRecDepth 100000 in
theorem e_L_law_270 {Q : mQo} {T : List mSh} {c s : Nat} {I : Nat → Nat → Int32} {L : Nat → Nat → Int64} {st : List Value} {a0 a1 a2 a3 : Option Value} : mWP tb_L_law Q 270 [a0, a1, a2, a3] st ((T, c, s), I, L) = mWP tb_L_law Q 271 [a0, a1, a2, a3] (.int 2 :: st) ((T, c, s), I, L) := mWP_eq mt_L_law _ _ _ _ _
set_option maxRecDepth 100000 in
theorem e_L_law_271 {Q : mQo} {T : List mSh} {c s : Nat} {I : Nat → Nat → Int32} {L : Nat → Nat → Int64} {st : List Value} {a0 a1 a2 a3 : Option Value} {x y : Int32} : mWP tb_L_law Q 271 [a0, a1, a2, a3] (.int y :: .int x :: st) ((T, c, s), I, L) = mWP tb_L_law Q 272 [a0, a1, a2, a3] (.int (x + y) :: st) ((T, c, s), I, L) := mWP_eq mt_L_law _ _ _ _ _
set_option maxRecDepth 100000 in
theorem e_L_law_272 {Q : mQo} {T : List mSh} {c s : Nat} {I : Nat → Nat → Int32} {L : Nat → Nat → Int64} {st : List Value} {a0 a1 a2 a3 : Option Value} {x : Nat} {y : Int32} : mWP tb_L_law Q 272 [a0, a1, a2, a3] (.int y :: .ref x :: st) ((T, c, s), I, L) = (mTg (T, c, s) x = 0 ∧ vp_in y (mLn (T, c, s) x) ∧ mWP tb_L_law Q 273 [a0, a1, a2, a3] (.int (I x y.toNatClampNeg) :: st) ((T, c, s), I, L)) := mWP_eq mt_L_law _ _ _ _ _
set_option maxRecDepth 100000 in
theorem e_L_law_273 {Q : mQo} {T : List mSh} {c s : Nat} {I : Nat → Nat → Int32} {L : Nat → Nat → Int64} {st : List Value} {a1 a2 a3 : Option Value} {x : Nat} : mWP tb_L_law Q 273 [some (.ref x), a1, a2, a3] st ((T, c, s), I, L) = mWP tb_L_law Q 274 [some (.ref x), a1, a2, a3] (.ref x :: st) ((T, c, s), I, L) := mWP_eq mt_L_law _ _ _ _ _
set_option maxRecDepth 100000 in
theorem e_L_law_273n {Q : mQo} {T : List mSh} {c s : Nat} {I : Nat → Nat → Int32} {L : Nat → Nat → Int64} {st : List Value} {a1 a2 a3 : Option Value} : mWP tb_L_law Q 273 [some .null, a1, a2, a3] st ((T, c, s), I, L) = mWP tb_L_law Q 274 [some .null, a1, a2, a3] (.null :: st) ((T, c, s), I, L) := mWP_eq mt_L_law _ _ _ _ _
set_option maxRecDepth 100000 in
theorem e_L_law_274 {Q : mQo} {T : List mSh} {c s : Nat} {I : Nat → Nat → Int32} {L : Nat → Nat → Int64} {st : List Value} {a0 a1 a2 : Option Value} {x : Int32} : mWP tb_L_law Q 274 [a0, a1, a2, some (.int x)] st ((T, c, s), I, L) = mWP tb_L_law Q 275 [a0, a1, a2, some (.int x)] (.int x :: st) ((T, c, s), I, L) := mWP_eq mt_L_law _ _ _ _ _
set_option maxRecDepth 100000 in
theorem e_L_law_275 {Q : mQo} {T : List mSh} {c s : Nat} {I : Nat → Nat → Int32} {L : Nat → Nat → Int64} {st : List Value} {a0 a1 a2 a3 : Option Value} : mWP tb_L_law Q 275 [a0, a1, a2, a3] st ((T, c, s), I, L) = mWP tb_L_law Q 276 [a0, a1, a2, a3] (.int 3 :: st) ((T, c, s), I, L) := mWP_eq mt_L_law _ _ _ _ _
set_option maxRecDepth 100000 in
theorem e_L_law_276 {Q : mQo} {T : List mSh} {c s : Nat} {I : Nat → Nat → Int32} {L : Nat → Nat → Int64} {st : List Value} {a0 a1 a2 a3 : Option Value} {x y : Int32} : mWP tb_L_law Q 276 [a0, a1, a2, a3] (.int y :: .int x :: st) ((T, c, s), I, L) = mWP tb_L_law Q 277 [a0, a1, a2, a3] (.int (x + y) :: st) ((T, c, s), I, L) := mWP_eq mt_L_law _ _ _ _ _
set_option maxRecDepth 100000 in
theorem e_L_law_277 {Q : mQo} {T : List mSh} {c s : Nat} {I : Nat → Nat → Int32} {L : Nat → Nat → Int64} {st : List Value} {a0 a1 a2 a3 : Option Value} {x : Nat} {y : Int32} : mWP tb_L_law Q 277 [a0, a1, a2, a3] (.int y :: .ref x :: st) ((T, c, s), I, L) = (mTg (T, c, s) x = 0 ∧ vp_in y (mLn (T, c, s) x) ∧ mWP tb_L_law Q 278 [a0, a1, a2, a3] (.int (I x y.toNatClampNeg) :: st) ((T, c, s), I, L)) := mWP_eq mt_L_law _ _ _ _ _
set_option maxRecDepth 100000 in
theorem e_L_law_278 {Q : mQo} {T : List mSh} {c s : Nat} {I : Nat → Nat → Int32} {L : Nat → Nat → Int64} {st : List Value} {a0 a1 a2 a3 : Option Value} {v0 : Int32} {v1 : Int32} {v2 : Int32} {o : Nat} : mWP tb_L_law Q 278 [a0, a1, a2, a3] (.int v2 :: .int v1 :: .int v0 :: .ref o :: st) ((T, c, s), I, L) = (mTg (T, c, s) o = 13 ∧ (st.map Value.category).sum ≤ 8 ∧ C_X10_pin [.ref o, .int v0, .int v1, .int v2] (mZr (T, c, s), I, L) (fun r h' => h'.1 = mZr (T, c, s) ∧ mWP tb_L_law Q 281 [a0, a1, a2, a3] (r.toList ++ st) ((T, c, s), h'.2))) := (mWP_eq mt_L_law _ _ _ _ _).trans (eq_CV (Q := Q) 3 rfl)
set_option maxRecDepth 100000 in
theorem e_L_law_281 {Q : mQo} {T : List mSh} {c s : Nat} {I : Nat → Nat → Int32} {L : Nat → Nat → Int64} {st : List Value} {a0 a1 a3 : Option Value} {x : Nat} : mWP tb_L_law Q 281 [a0, a1, some (.ref x), a3] st ((T, c, s), I, L) = mWP tb_L_law Q 282 [a0, a1, some (.ref x), a3] (.ref x :: st) ((T, c, s), I, L) := mWP_eq mt_L_law _ _ _ _ _
set_option maxRecDepth 100000 in
theorem e_L_law_281n {Q : mQo} {T : List mSh} {c s : Nat} {I : Nat → Nat → Int32} {L : Nat → Nat → Int64} {st : List Value} {a0 a1 a3 : Option Value} : mWP tb_L_law Q 281 [a0, a1, some .null, a3] st ((T, c, s), I, L) = mWP tb_L_law Q 282 [a0, a1, some .null, a3] (.null :: st) ((T, c, s), I, L) := mWP_eq mt_L_law _ _ _ _ _
set_option maxRecDepth 100000 in
theorem e_L_law_282 {Q : mQo} {T : List mSh} {c s : Nat} {I : Nat → Nat → Int32} {L : Nat → Nat → Int64} {st : List Value} {a1 a2 a3 : Option Value} {x : Nat} : mWP tb_L_law Q 282 [some (.ref x), a1, a2, a3] st ((T, c, s), I, L) = mWP tb_L_law Q 283 [some (.ref x), a1, a2, a3] (.ref x :: st) ((T, c, s), I, L) := mWP_eq mt_L_law _ _ _ _ _
set_option maxRecDepth 100000 in
theorem e_L_law_282n {Q : mQo} {T : List mSh} {c s : Nat} {I : Nat → Nat → Int32} {L : Nat → Nat → Int64} {st : List Value} {a1 a2 a3 : Option Value} : mWP tb_L_law Q 282 [some .null, a1, a2, a3] st ((T, c, s), I, L) = mWP tb_L_law Q 283 [some .null, a1, a2, a3] (.null :: st) ((T, c, s), I, L) := mWP_eq mt_L_law _ _ _ _ _
set_option maxRecDepth 100000 in
theorem e_L_law_283 {Q : mQo} {T : List mSh} {c s : Nat} {I : Nat → Nat → Int32} {L : Nat → Nat → Int64} {st : List Value} {a0 a1 a2 : Option Value} {x : Int32} : mWP tb_L_law Q 283 [a0, a1, a2, some (.int x)] st ((T, c, s), I, L) = mWP tb_L_law Q 284 [a0, a1, a2, some (.int x)] (.int x :: st) ((T, c, s), I, L) := mWP_eq mt_L_law _ _ _ _ _
set_option maxRecDepth 100000 in
theorem e_L_law_284 {Q : mQo} {T : List mSh} {c s : Nat} {I : Nat → Nat → Int32} {L : Nat → Nat → Int64} {st : List Value} {a0 a1 a2 a3 : Option Value} : mWP tb_L_law Q 284 [a0, a1, a2, a3] st ((T, c, s), I, L) = mWP tb_L_law Q 285 [a0, a1, a2, a3] (.int 1 :: st) ((T, c, s), I, L) := mWP_eq mt_L_law _ _ _ _ _
set_option maxRecDepth 100000 in
theorem e_L_law_285 {Q : mQo} {T : List mSh} {c s : Nat} {I : Nat → Nat → Int32} {L : Nat → Nat → Int64} {st : List Value} {a0 a1 a2 a3 : Option Value} {x y : Int32} : mWP tb_L_law Q 285 [a0, a1, a2, a3] (.int y :: .int x :: st) ((T, c, s), I, L) = mWP tb_L_law Q 286 [a0, a1, a2, a3] (.int (x + y) :: st) ((T, c, s), I, L) := mWP_eq mt_L_law _ _ _ _ _
set_option maxRecDepth 100000 in
theorem e_L_law_286 {Q : mQo} {T : List mSh} {c s : Nat} {I : Nat → Nat → Int32} {L : Nat → Nat → Int64} {st : List Value} {a0 a1 a2 a3 : Option Value} {x : Nat} {y : Int32} : mWP tb_L_law Q 286 [a0, a1, a2, a3] (.int y :: .ref x :: st) ((T, c, s), I, L) = (mTg (T, c, s) x = 0 ∧ vp_in y (mLn (T, c, s) x) ∧ mWP tb_L_law Q 287 [a0, a1, a2, a3] (.int (I x y.toNatClampNeg) :: st) ((T, c, s), I, L)) := mWP_eq mt_L_law _ _ _ _ _
set_option maxRecDepth 100000 in
theorem e_L_law_287 {Q : mQo} {T : List mSh} {c s : Nat} {I : Nat → Nat → Int32} {L : Nat → Nat → Int64} {st : List Value} {a1 a2 a3 : Option Value} {x : Nat} : mWP tb_L_law Q 287 [some (.ref x), a1, a2, a3] st ((T, c, s), I, L) = mWP tb_L_law Q 288 [some (.ref x), a1, a2, a3] (.ref x :: st) ((T, c, s), I, L) := mWP_eq mt_L_law _ _ _ _ _
set_option maxRecDepth 100000 in
theorem e_L_law_287n {Q : mQo} {T : List mSh} {c s : Nat} {I : Nat → Nat → Int32} {L : Nat → Nat → Int64} {st : List Value} {a1 a2 a3 : Option Value} : mWP tb_L_law Q 287 [some .null, a1, a2, a3] st ((T, c, s), I, L) = mWP tb_L_law Q 288 [some .null, a1, a2, a3] (.null :: st) ((T, c, s), I, L) := mWP_eq mt_L_law _ _ _ _ _
set_option maxRecDepth 100000 in
theorem e_L_law_288 {Q : mQo} {T : List mSh} {c s : Nat} {I : Nat → Nat → Int32} {L : Nat → Nat → Int64} {st : List Value} {a0 a1 a2 : Option Value} {x : Int32} : mWP tb_L_law Q 288 [a0, a1, a2, some (.int x)] st ((T, c, s), I, L) = mWP tb_L_law Q 289 [a0, a1, a2, some (.int x)] (.int x :: st) ((T, c, s), I, L) := mWP_eq mt_L_law _ _ _ _ _
set_option maxRecDepth 100000 in
theorem e_L_law_289 {Q : mQo} {T : List mSh} {c s : Nat} {I : Nat → Nat → Int32} {L : Nat → Nat → Int64} {st : List Value} {a0 a1 a2 a3 : Option Value} : mWP tb_L_law Q 289 [a0, a1, a2, a3] st ((T, c, s), I, L) = mWP tb_L_law Q 290 [a0, a1, a2, a3] (.int 2 :: st) ((T, c, s), I, L) := mWP_eq mt_L_law _ _ _ _ _
set_option maxRecDepth 100000 in
theorem e_L_law_290 {Q : mQo} {T : List mSh} {c s : Nat} {I : Nat → Nat → Int32} {L : Nat → Nat → Int64} {st : List Value} {a0 a1 a2 a3 : Option Value} {x y : Int32} : mWP tb_L_law Q 290 [a0, a1, a2, a3] (.int y :: .int x :: st) ((T, c, s), I, L) = mWP tb_L_law Q 291 [a0, a1, a2, a3] (.int (x + y) :: st) ((T, c, s), I, L) := mWP_eq mt_L_law _ _ _ _ _
set_option maxRecDepth 100000 in
theorem e_L_law_291 {Q : mQo} {T : List mSh} {c s : Nat} {I : Nat → Nat → Int32} {L : Nat → Nat → Int64} {st : List Value} {a0 a1 a2 a3 : Option Value} {x : Nat} {y : Int32} : mWP tb_L_law Q 291 [a0, a1, a2, a3] (.int y :: .ref x :: st) ((T, c, s), I, L) = (mTg (T, c, s) x = 0 ∧ vp_in y (mLn (T, c, s) x) ∧ mWP tb_L_law Q 292 [a0, a1, a2, a3] (.int (I x y.toNatClampNeg) :: st) ((T, c, s), I, L)) := mWP_eq mt_L_law _ _ _ _ _
set_option maxRecDepth 100000 in
theorem e_L_law_292 {Q : mQo} {T : List mSh} {c s : Nat} {I : Nat → Nat → Int32} {L : Nat → Nat → Int64} {st : List Value} {a1 a2 a3 : Option Value} {x : Nat} : mWP tb_L_law Q 292 [some (.ref x), a1, a2, a3] st ((T, c, s), I, L) = mWP tb_L_law Q 293 [some (.ref x), a1, a2, a3] (.ref x :: st) ((T, c, s), I, L) := mWP_eq mt_L_law _ _ _ _ _
set_option maxRecDepth 100000 in
theorem e_L_law_292n {Q : mQo} {T : List mSh} {c s : Nat} {I : Nat → Nat → Int32} {L : Nat → Nat → Int64} {st : List Value} {a1 a2 a3 : Option Value} : mWP tb_L_law Q 292 [some .null, a1, a2, a3] st ((T, c, s), I, L) = mWP tb_L_law Q 293 [some .null, a1, a2, a3] (.null :: st) ((T, c, s), I, L) := mWP_eq mt_L_law _ _ _ _ _
set_option maxRecDepth 100000 in
theorem e_L_law_293 {Q : mQo} {T : List mSh} {c s : Nat} {I : Nat → Nat → Int32} {L : Nat → Nat → Int64} {st : List Value} {a0 a1 a2 : Option Value} {x : Int32} : mWP tb_L_law Q 293 [a0, a1, a2, some (.int x)] st ((T, c, s), I, L) = mWP tb_L_law Q 294 [a0, a1, a2, some (.int x)] (.int x :: st) ((T, c, s), I, L) := mWP_eq mt_L_law _ _ _ _ _
set_option maxRecDepth 100000 in
theorem e_L_law_294 {Q : mQo} {T : List mSh} {c s : Nat} {I : Nat → Nat → Int32} {L : Nat → Nat → Int64} {st : List Value} {a0 a1 a2 a3 : Option Value} : mWP tb_L_law Q 294 [a0, a1, a2, a3] st ((T, c, s), I, L) = mWP tb_L_law Q 295 [a0, a1, a2, a3] (.int 3 :: st) ((T, c, s), I, L) := mWP_eq mt_L_law _ _ _ _ _
set_option maxRecDepth 100000 in
theorem e_L_law_295 {Q : mQo} {T : List mSh} {c s : Nat} {I : Nat → Nat → Int32} {L : Nat → Nat → Int64} {st : List Value} {a0 a1 a2 a3 : Option Value} {x y : Int32} : mWP tb_L_law Q 295 [a0, a1, a2, a3] (.int y :: .int x :: st) ((T, c, s), I, L) = mWP tb_L_law Q 296 [a0, a1, a2, a3] (.int (x + y) :: st) ((T, c, s), I, L) := mWP_eq mt_L_law _ _ _ _ _
set_option maxRecDepth 100000 in
theorem e_L_law_296 {Q : mQo} {T : List mSh} {c s : Nat} {I : Nat → Nat → Int32} {L : Nat → Nat → Int64} {st : List Value} {a0 a1 a2 a3 : Option Value} {x : Nat} {y : Int32} : mWP tb_L_law Q 296 [a0, a1, a2, a3] (.int y :: .ref x :: st) ((T, c, s), I, L) = (mTg (T, c, s) x = 0 ∧ vp_in y (mLn (T, c, s) x) ∧ mWP tb_L_law Q 297 [a0, a1, a2, a3] (.int (I x y.toNatClampNeg) :: st) ((T, c, s), I, L)) := mWP_eq mt_L_law _ _ _ _ _
set_option maxRecDepth 100000 in
theorem e_L_law_297 {Q : mQo} {T : List mSh} {c s : Nat} {I : Nat → Nat → Int32} {L : Nat → Nat → Int64} {st : List Value} {a0 a1 a2 a3 : Option Value} {v0 : Int32} {v1 : Int32} {v2 : Int32} {o : Nat} : mWP tb_L_law Q 297 [a0, a1, a2, a3] (.int v2 :: .int v1 :: .int v0 :: .ref o :: st) ((T, c, s), I, L) = (mTg (T, c, s) o = 14 ∧ (st.map Value.category).sum ≤ 8 ∧ C_X11_pin [.ref o, .int v0, .int v1, .int v2] (mZr (T, c, s), I, L) (fun r h' => h'.1 = mZr (T, c, s) ∧ mWP tb_L_law Q 300 [a0, a1, a2, a3] (r.toList ++ st) ((T, c, s), h'.2))) := (mWP_eq mt_L_law _ _ _ _ _).trans (eq_CV (Q := Q) 3 rfl)
set_option maxRecDepth 100000 in
theorem e_L_law_300 {Q : mQo} {T : List mSh} {c s : Nat} {I : Nat → Nat → Int32} {L : Nat → Nat → Int64} {st : List Value} {a0 a1 a2 a3 : Option Value} {x y : Int64} : mWP tb_L_law Q 300 [a0, a1, a2, a3] (.long y :: .long x :: st) ((T, c, s), I, L) = mWP tb_L_law Q 301 [a0, a1, a2, a3] (.int (lg_cmp x y) :: st) ((T, c, s), I, L) := mWP_eq mt_L_law _ _ _ _ _
set_option maxRecDepth 100000 in
theorem e_L_law_301 {Q : mQo} {T : List mSh} {c s : Nat} {I : Nat → Nat → Int32} {L : Nat → Nat → Int64} {st : List Value} {a0 a1 a2 a3 : Option Value} {x : Int32} : mWP tb_L_law Q 301 [a0, a1, a2, a3] (.int x :: st) ((T, c, s), I, L) = ((x = 0 → mWP tb_L_law Q 1460 [a0, a1, a2, a3] st ((T, c, s), I, L)) ∧ (¬ (x = 0) → mWP tb_L_law Q 304 [a0, a1, a2, a3] st ((T, c, s), I, L))) := mWP_eq mt_L_law _ _ _ _ _
set_option maxRecDepth 100000 in
theorem e_L_law_304 {Q : mQo} {T : List mSh} {c s : Nat} {I : Nat → Nat → Int32} {L : Nat → Nat → Int64} {st : List Value} {a0 a1 a2 a3 : Option Value} : mWP tb_L_law Q 304 [a0, a1, a2, a3] st ((T, c, s), I, L) = mWP tb_L_law Q 305 [a0, a1, a2, a3] (.int 0 :: st) ((T, c, s), I, L) := mWP_eq mt_L_law _ _ _ _ _
set_option maxRecDepth 100000 in
theorem e_L_law_305 {Q : mQo} {T : List mSh} {c s : Nat} {I : Nat → Nat → Int32} {L : Nat → Nat → Int64} {a0 a1 a2 a3 : Option Value} {x : Int32} : mWP tb_L_law Q 305 [a0, a1, a2, a3] [.int x] ((T, c, s), I, L) = ((x = 0 ∨ x = 1) ∧ Q (some (.int x)) ((T, c, s), I, L)) := mWP_eq mt_L_law _ _ _ _ _
set_option maxRecDepth 100000 in
theorem e_L_law_306 {Q : mQo} {T : List mSh} {c s : Nat} {I : Nat → Nat → Int32} {L : Nat → Nat → Int64} {st : List Value} {a0 a2 a3 : Option Value} {x : Nat} : mWP tb_L_law Q 306 [a0, some (.ref x), a2, a3] st ((T, c, s), I, L) = mWP tb_L_law Q 307 [a0, some (.ref x), a2, a3] (.ref x :: st) ((T, c, s), I, L) := mWP_eq mt_L_law _ _ _ _ _
set_option maxRecDepth 100000 in
theorem e_L_law_306n {Q : mQo} {T : List mSh} {c s : Nat} {I : Nat → Nat → Int32} {L : Nat → Nat → Int64} {st : List Value} {a0 a2 a3 : Option Value} : mWP tb_L_law Q 306 [a0, some .null, a2, a3] st ((T, c, s), I, L) = mWP tb_L_law Q 307 [a0, some .null, a2, a3] (.null :: st) ((T, c, s), I, L) := mWP_eq mt_L_law _ _ _ _ _
set_option maxRecDepth 100000 in
theorem e_L_law_307 {Q : mQo} {T : List mSh} {c s : Nat} {I : Nat → Nat → Int32} {L : Nat → Nat → Int64} {st : List Value} {a1 a2 a3 : Option Value} {x : Nat} : mWP tb_L_law Q 307 [some (.ref x), a1, a2, a3] st ((T, c, s), I, L) = mWP tb_L_law Q 308 [some (.ref x), a1, a2, a3] (.ref x :: st) ((T, c, s), I, L) := mWP_eq mt_L_law _ _ _ _ _
set_option maxRecDepth 100000 in
theorem e_L_law_307n {Q : mQo} {T : List mSh} {c s : Nat} {I : Nat → Nat → Int32} {L : Nat → Nat → Int64} {st : List Value} {a1 a2 a3 : Option Value} : mWP tb_L_law Q 307 [some .null, a1, a2, a3] st ((T, c, s), I, L) = mWP tb_L_law Q 308 [some .null, a1, a2, a3] (.null :: st) ((T, c, s), I, L) := mWP_eq mt_L_law _ _ _ _ _
set_option maxRecDepth 100000 in
theorem e_L_law_308 {Q : mQo} {T : List mSh} {c s : Nat} {I : Nat → Nat → Int32} {L : Nat → Nat → Int64} {st : List Value} {a0 a1 a2 : Option Value} {x : Int32} : mWP tb_L_law Q 308 [a0, a1, a2, some (.int x)] st ((T, c, s), I, L) = mWP tb_L_law Q 309 [a0, a1, a2, some (.int x)] (.int x :: st) ((T, c, s), I, L) := mWP_eq mt_L_law _ _ _ _ _
set_option maxRecDepth 100000 in
theorem e_L_law_309 {Q : mQo} {T : List mSh} {c s : Nat} {I : Nat → Nat → Int32} {L : Nat → Nat → Int64} {st : List Value} {a0 a1 a2 a3 : Option Value} : mWP tb_L_law Q 309 [a0, a1, a2, a3] st ((T, c, s), I, L) = mWP tb_L_law Q 310 [a0, a1, a2, a3] (.int 1 :: st) ((T, c, s), I, L) := mWP_eq mt_L_law _ _ _ _ _
set_option maxRecDepth 100000 in
theorem e_L_law_310 {Q : mQo} {T : List mSh} {c s : Nat} {I : Nat → Nat → Int32} {L : Nat → Nat → Int64} {st : List Value} {a0 a1 a2 a3 : Option Value} {x y : Int32} : mWP tb_L_law Q 310 [a0, a1, a2, a3] (.int y :: .int x :: st) ((T, c, s), I, L) = mWP tb_L_law Q 311 [a0, a1, a2, a3] (.int (x + y) :: st) ((T, c, s), I, L) := mWP_eq mt_L_law _ _ _ _ _
set_option maxRecDepth 100000 in
theorem e_L_law_311 {Q : mQo} {T : List mSh} {c s : Nat} {I : Nat → Nat → Int32} {L : Nat → Nat → Int64} {st : List Value} {a0 a1 a2 a3 : Option Value} {x : Nat} {y : Int32} : mWP tb_L_law Q 311 [a0, a1, a2, a3] (.int y :: .ref x :: st) ((T, c, s), I, L) = (mTg (T, c, s) x = 0 ∧ vp_in y (mLn (T, c, s) x) ∧ mWP tb_L_law Q 312 [a0, a1, a2, a3] (.int (I x y.toNatClampNeg) :: st) ((T, c, s), I, L)) := mWP_eq mt_L_law _ _ _ _ _
set_option maxRecDepth 100000 in
theorem e_L_law_312 {Q : mQo} {T : List mSh} {c s : Nat} {I : Nat → Nat → Int32} {L : Nat → Nat → Int64} {st : List Value} {a1 a2 a3 : Option Value} {x : Nat} : mWP tb_L_law Q 312 [some (.ref x), a1, a2, a3] st ((T, c, s), I, L) = mWP tb_L_law Q 313 [some (.ref x), a1, a2, a3] (.ref x :: st) ((T, c, s), I, L) := mWP_eq mt_L_law _ _ _ _ _
set_option maxRecDepth 100000 in
theorem e_L_law_312n {Q : mQo} {T : List mSh} {c s : Nat} {I : Nat → Nat → Int32} {L : Nat → Nat → Int64} {st : List Value} {a1 a2 a3 : Option Value} : mWP tb_L_law Q 312 [some .null, a1, a2, a3] st ((T, c, s), I, L) = mWP tb_L_law Q 313 [some .null, a1, a2, a3] (.null :: st) ((T, c, s), I, L) := mWP_eq mt_L_law _ _ _ _ _
set_option maxRecDepth 100000 in
theorem e_L_law_313 {Q : mQo} {T : List mSh} {c s : Nat} {I : Nat → Nat → Int32} {L : Nat → Nat → Int64} {st : List Value} {a0 a1 a2 : Option Value} {x : Int32} : mWP tb_L_law Q 313 [a0, a1, a2, some (.int x)] st ((T, c, s), I, L) = mWP tb_L_law Q 314 [a0, a1, a2, some (.int x)] (.int x :: st) ((T, c, s), I, L) := mWP_eq mt_L_law _ _ _ _ _
set_option maxRecDepth 100000 in
theorem e_L_law_314 {Q : mQo} {T : List mSh} {c s : Nat} {I : Nat → Nat → Int32} {L : Nat → Nat → Int64} {st : List Value} {a0 a1 a2 a3 : Option Value} : mWP tb_L_law Q 314 [a0, a1, a2, a3] st ((T, c, s), I, L) = mWP tb_L_law Q 315 [a0, a1, a2, a3] (.int 2 :: st) ((T, c, s), I, L) := mWP_eq mt_L_law _ _ _ _ _
set_option maxRecDepth 100000 in
theorem e_L_law_315 {Q : mQo} {T : List mSh} {c s : Nat} {I : Nat → Nat → Int32} {L : Nat → Nat → Int64} {st : List Value} {a0 a1 a2 a3 : Option Value} {x y : Int32} : mWP tb_L_law Q 315 [a0, a1, a2, a3] (.int y :: .int x :: st) ((T, c, s), I, L) = mWP tb_L_law Q 316 [a0, a1, a2, a3] (.int (x + y) :: st) ((T, c, s), I, L) := mWP_eq mt_L_law _ _ _ _ _
set_option maxRecDepth 100000 in
theorem e_L_law_316 {Q : mQo} {T : List mSh} {c s : Nat} {I : Nat → Nat → Int32} {L : Nat → Nat → Int64} {st : List Value} {a0 a1 a2 a3 : Option Value} {x : Nat} {y : Int32} : mWP tb_L_law Q 316 [a0, a1, a2, a3] (.int y :: .ref x :: st) ((T, c, s), I, L) = (mTg (T, c, s) x = 0 ∧ vp_in y (mLn (T, c, s) x) ∧ mWP tb_L_law Q 317 [a0, a1, a2, a3] (.int (I x y.toNatClampNeg) :: st) ((T, c, s), I, L)) := mWP_eq mt_L_law _ _ _ _ _
set_option maxRecDepth 100000 in
theorem e_L_law_317 {Q : mQo} {T : List mSh} {c s : Nat} {I : Nat → Nat → Int32} {L : Nat → Nat → Int64} {st : List Value} {a0 a1 a2 a3 : Option Value} {v0 : Int32} {v1 : Int32} {o : Nat} : mWP tb_L_law Q 317 [a0, a1, a2, a3] (.int v1 :: .int v0 :: .ref o :: st) ((T, c, s), I, L) = (mTg (T, c, s) o = 13 ∧ (st.map Value.category).sum ≤ 8 ∧ C_X10_spans [.ref o, .int v0, .int v1] (mZr (T, c, s), I, L) (fun r h' => h'.1 = mZr (T, c, s) ∧ mWP tb_L_law Q 320 [a0, a1, a2, a3] (r.toList ++ st) ((T, c, s), h'.2))) := (mWP_eq mt_L_law _ _ _ _ _).trans (eq_CV (Q := Q) 2 rfl)
set_option maxRecDepth 100000 in
theorem e_L_law_320 {Q : mQo} {T : List mSh} {c s : Nat} {I : Nat → Nat → Int32} {L : Nat → Nat → Int64} {st : List Value} {a0 a1 a3 : Option Value} {x : Nat} : mWP tb_L_law Q 320 [a0, a1, some (.ref x), a3] st ((T, c, s), I, L) = mWP tb_L_law Q 321 [a0, a1, some (.ref x), a3] (.ref x :: st) ((T, c, s), I, L) := mWP_eq mt_L_law _ _ _ _ _
set_option maxRecDepth 100000 in
theorem e_L_law_320n {Q : mQo} {T : List mSh} {c s : Nat} {I : Nat → Nat → Int32} {L : Nat → Nat → Int64} {st : List Value} {a0 a1 a3 : Option Value} : mWP tb_L_law Q 320 [a0, a1, some .null, a3] st ((T, c, s), I, L) = mWP tb_L_law Q 321 [a0, a1, some .null, a3] (.null :: st) ((T, c, s), I, L) := mWP_eq mt_L_law _ _ _ _ _
set_option maxRecDepth 100000 in
theorem e_L_law_321 {Q : mQo} {T : List mSh} {c s : Nat} {I : Nat → Nat → Int32} {L : Nat → Nat → Int64} {st : List Value} {a1 a2 a3 : Option Value} {x : Nat} : mWP tb_L_law Q 321 [some (.ref x), a1, a2, a3] st ((T, c, s), I, L) = mWP tb_L_law Q 322 [some (.ref x), a1, a2, a3] (.ref x :: st) ((T, c, s), I, L) := mWP_eq mt_L_law _ _ _ _ _
set_option maxRecDepth 100000 in
theorem e_L_law_321n {Q : mQo} {T : List mSh} {c s : Nat} {I : Nat → Nat → Int32} {L : Nat → Nat → Int64} {st : List Value} {a1 a2 a3 : Option Value} : mWP tb_L_law Q 321 [some .null, a1, a2, a3] st ((T, c, s), I, L) = mWP tb_L_law Q 322 [some .null, a1, a2, a3] (.null :: st) ((T, c, s), I, L) := mWP_eq mt_L_law _ _ _ _ _
set_option maxRecDepth 100000 in
theorem e_L_law_322 {Q : mQo} {T : List mSh} {c s : Nat} {I : Nat → Nat → Int32} {L : Nat → Nat → Int64} {st : List Value} {a0 a1 a2 : Option Value} {x : Int32} : mWP tb_L_law Q 322 [a0, a1, a2, some (.int x)] st ((T, c, s), I, L) = mWP tb_L_law Q 323 [a0, a1, a2, some (.int x)] (.int x :: st) ((T, c, s), I, L) := mWP_eq mt_L_law _ _ _ _ _
set_option maxRecDepth 100000 in
theorem e_L_law_323 {Q : mQo} {T : List mSh} {c s : Nat} {I : Nat → Nat → Int32} {L : Nat → Nat → Int64} {st : List Value} {a0 a1 a2 a3 : Option Value} : mWP tb_L_law Q 323 [a0, a1, a2, a3] st ((T, c, s), I, L) = mWP tb_L_law Q 324 [a0, a1, a2, a3] (.int 1 :: st) ((T, c, s), I, L) := mWP_eq mt_L_law _ _ _ _ _
set_option maxRecDepth 100000 in
theorem e_L_law_324 {Q : mQo} {T : List mSh} {c s : Nat} {I : Nat → Nat → Int32} {L : Nat → Nat → Int64} {st : List Value} {a0 a1 a2 a3 : Option Value} {x y : Int32} : mWP tb_L_law Q 324 [a0, a1, a2, a3] (.int y :: .int x :: st) ((T, c, s), I, L) = mWP tb_L_law Q 325 [a0, a1, a2, a3] (.int (x + y) :: st) ((T, c, s), I, L) := mWP_eq mt_L_law _ _ _ _ _
set_option maxRecDepth 100000 in
theorem e_L_law_325 {Q : mQo} {T : List mSh} {c s : Nat} {I : Nat → Nat → Int32} {L : Nat → Nat → Int64} {st : List Value} {a0 a1 a2 a3 : Option Value} {x : Nat} {y : Int32} : mWP tb_L_law Q 325 [a0, a1, a2, a3] (.int y :: .ref x :: st) ((T, c, s), I, L) = (mTg (T, c, s) x = 0 ∧ vp_in y (mLn (T, c, s) x) ∧ mWP tb_L_law Q 326 [a0, a1, a2, a3] (.int (I x y.toNatClampNeg) :: st) ((T, c, s), I, L)) := mWP_eq mt_L_law _ _ _ _ _
set_option maxRecDepth 100000 in
theorem e_L_law_326 {Q : mQo} {T : List mSh} {c s : Nat} {I : Nat → Nat → Int32} {L : Nat → Nat → Int64} {st : List Value} {a1 a2 a3 : Option Value} {x : Nat} : mWP tb_L_law Q 326 [some (.ref x), a1, a2, a3] st ((T, c, s), I, L) = mWP tb_L_law Q 327 [some (.ref x), a1, a2, a3] (.ref x :: st) ((T, c, s), I, L) := mWP_eq mt_L_law _ _ _ _ _
set_option maxRecDepth 100000 in
theorem e_L_law_326n {Q : mQo} {T : List mSh} {c s : Nat} {I : Nat → Nat → Int32} {L : Nat → Nat → Int64} {st : List Value} {a1 a2 a3 : Option Value} : mWP tb_L_law Q 326 [some .null, a1, a2, a3] st ((T, c, s), I, L) = mWP tb_L_law Q 327 [some .null, a1, a2, a3] (.null :: st) ((T, c, s), I, L) := mWP_eq mt_L_law _ _ _ _ _
set_option maxRecDepth 100000 in
theorem e_L_law_327 {Q : mQo} {T : List mSh} {c s : Nat} {I : Nat → Nat → Int32} {L : Nat → Nat → Int64} {st : List Value} {a0 a1 a2 : Option Value} {x : Int32} : mWP tb_L_law Q 327 [a0, a1, a2, some (.int x)] st ((T, c, s), I, L) = mWP tb_L_law Q 328 [a0, a1, a2, some (.int x)] (.int x :: st) ((T, c, s), I, L) := mWP_eq mt_L_law _ _ _ _ _
set_option maxRecDepth 100000 in
theorem e_L_law_328 {Q : mQo} {T : List mSh} {c s : Nat} {I : Nat → Nat → Int32} {L : Nat → Nat → Int64} {st : List Value} {a0 a1 a2 a3 : Option Value} : mWP tb_L_law Q 328 [a0, a1, a2, a3] st ((T, c, s), I, L) = mWP tb_L_law Q 329 [a0, a1, a2, a3] (.int 2 :: st) ((T, c, s), I, L) := mWP_eq mt_L_law _ _ _ _ _
set_option maxRecDepth 100000 in
theorem e_L_law_329 {Q : mQo} {T : List mSh} {c s : Nat} {I : Nat → Nat → Int32} {L : Nat → Nat → Int64} {st : List Value} {a0 a1 a2 a3 : Option Value} {x y : Int32} : mWP tb_L_law Q 329 [a0, a1, a2, a3] (.int y :: .int x :: st) ((T, c, s), I, L) = mWP tb_L_law Q 330 [a0, a1, a2, a3] (.int (x + y) :: st) ((T, c, s), I, L) := mWP_eq mt_L_law _ _ _ _ _
set_option maxRecDepth 100000 in
theorem e_L_law_330 {Q : mQo} {T : List mSh} {c s : Nat} {I : Nat → Nat → Int32} {L : Nat → Nat → Int64} {st : List Value} {a0 a1 a2 a3 : Option Value} {x : Nat} {y : Int32} : mWP tb_L_law Q 330 [a0, a1, a2, a3] (.int y :: .ref x :: st) ((T, c, s), I, L) = (mTg (T, c, s) x = 0 ∧ vp_in y (mLn (T, c, s) x) ∧ mWP tb_L_law Q 331 [a0, a1, a2, a3] (.int (I x y.toNatClampNeg) :: st) ((T, c, s), I, L)) := mWP_eq mt_L_law _ _ _ _ _
set_option maxRecDepth 100000 in
theorem e_L_law_331 {Q : mQo} {T : List mSh} {c s : Nat} {I : Nat → Nat → Int32} {L : Nat → Nat → Int64} {st : List Value} {a0 a1 a2 a3 : Option Value} {v0 : Int32} {v1 : Int32} {o : Nat} : mWP tb_L_law Q 331 [a0, a1, a2, a3] (.int v1 :: .int v0 :: .ref o :: st) ((T, c, s), I, L) = (mTg (T, c, s) o = 14 ∧ (st.map Value.category).sum ≤ 8 ∧ C_X11_spans [.ref o, .int v0, .int v1] (mZr (T, c, s), I, L) (fun r h' => h'.1 = mZr (T, c, s) ∧ mWP tb_L_law Q 334 [a0, a1, a2, a3] (r.toList ++ st) ((T, c, s), h'.2))) := (mWP_eq mt_L_law _ _ _ _ _).trans (eq_CV (Q := Q) 2 rfl)
set_option maxRecDepth 100000 in
theorem e_L_law_334 {Q : mQo} {T : List mSh} {c s : Nat} {I : Nat → Nat → Int32} {L : Nat → Nat → Int64} {st : List Value} {a0 a1 a2 a3 : Option Value} {x y : Int64} : mWP tb_L_law Q 334 [a0, a1, a2, a3] (.long y :: .long x :: st) ((T, c, s), I, L) = mWP tb_L_law Q 335 [a0, a1, a2, a3] (.int (lg_cmp x y) :: st) ((T, c, s), I, L) := mWP_eq mt_L_law _ _ _ _ _
set_option maxRecDepth 100000 in
theorem e_L_law_335 {Q : mQo} {T : List mSh} {c s : Nat} {I : Nat → Nat → Int32} {L : Nat → Nat → Int64} {st : List Value} {a0 a1 a2 a3 : Option Value} {x : Int32} : mWP tb_L_law Q 335 [a0, a1, a2, a3] (.int x :: st) ((T, c, s), I, L) = ((x = 0 → mWP tb_L_law Q 1460 [a0, a1, a2, a3] st ((T, c, s), I, L)) ∧ (¬ (x = 0) → mWP tb_L_law Q 338 [a0, a1, a2, a3] st ((T, c, s), I, L))) := mWP_eq mt_L_law _ _ _ _ _
set_option maxRecDepth 100000 in
theorem e_L_law_338 {Q : mQo} {T : List mSh} {c s : Nat} {I : Nat → Nat → Int32} {L : Nat → Nat → Int64} {st : List Value} {a0 a1 a2 a3 : Option Value} : mWP tb_L_law Q 338 [a0, a1, a2, a3] st ((T, c, s), I, L) = mWP tb_L_law Q 339 [a0, a1, a2, a3] (.int 0 :: st) ((T, c, s), I, L) := mWP_eq mt_L_law _ _ _ _ _
set_option maxRecDepth 100000 in
theorem e_L_law_339 {Q : mQo} {T : List mSh} {c s : Nat} {I : Nat → Nat → Int32} {L : Nat → Nat → Int64} {a0 a1 a2 a3 : Option Value} {x : Int32} : mWP tb_L_law Q 339 [a0, a1, a2, a3] [.int x] ((T, c, s), I, L) = ((x = 0 ∨ x = 1) ∧ Q (some (.int x)) ((T, c, s), I, L)) := mWP_eq mt_L_law _ _ _ _ _
set_option maxRecDepth 100000 in
theorem e_L_law_340 {Q : mQo} {T : List mSh} {c s : Nat} {I : Nat → Nat → Int32} {L : Nat → Nat → Int64} {st : List Value} {a0 a2 a3 : Option Value} {x : Nat} : mWP tb_L_law Q 340 [a0, some (.ref x), a2, a3] st ((T, c, s), I, L) = mWP tb_L_law Q 341 [a0, some (.ref x), a2, a3] (.ref x :: st) ((T, c, s), I, L) := mWP_eq mt_L_law _ _ _ _ _
set_option maxRecDepth 100000 in
theorem e_L_law_340n {Q : mQo} {T : List mSh} {c s : Nat} {I : Nat → Nat → Int32} {L : Nat → Nat → Int64} {st : List Value} {a0 a2 a3 : Option Value} : mWP tb_L_law Q 340 [a0, some .null, a2, a3] st ((T, c, s), I, L) = mWP tb_L_law Q 341 [a0, some .null, a2, a3] (.null :: st) ((T, c, s), I, L) := mWP_eq mt_L_law _ _ _ _ _
set_option maxRecDepth 100000 in
theorem e_L_law_341 {Q : mQo} {T : List mSh} {c s : Nat} {I : Nat → Nat → Int32} {L : Nat → Nat → Int64} {st : List Value} {a1 a2 a3 : Option Value} {x : Nat} : mWP tb_L_law Q 341 [some (.ref x), a1, a2, a3] st ((T, c, s), I, L) = mWP tb_L_law Q 342 [some (.ref x), a1, a2, a3] (.ref x :: st) ((T, c, s), I, L) := mWP_eq mt_L_law _ _ _ _ _
set_option maxRecDepth 100000 in
theorem e_L_law_341n {Q : mQo} {T : List mSh} {c s : Nat} {I : Nat → Nat → Int32} {L : Nat → Nat → Int64} {st : List Value} {a1 a2 a3 : Option Value} : mWP tb_L_law Q 341 [some .null, a1, a2, a3] st ((T, c, s), I, L) = mWP tb_L_law Q 342 [some .null, a1, a2, a3] (.null :: st) ((T, c, s), I, L) := mWP_eq mt_L_law _ _ _ _ _
set_option maxRecDepth 100000 in
theorem e_L_law_342 {Q : mQo} {T : List mSh} {c s : Nat} {I : Nat → Nat → Int32} {L : Nat → Nat → Int64} {st : List Value} {a0 a1 a2 : Option Value} {x : Int32} : mWP tb_L_law Q 342 [a0, a1, a2, some (.int x)] st ((T, c, s), I, L) = mWP tb_L_law Q 343 [a0, a1, a2, some (.int x)] (.int x :: st) ((T, c, s), I, L) := mWP_eq mt_L_law _ _ _ _ _
set_option maxRecDepth 100000 in
theorem e_L_law_343 {Q : mQo} {T : List mSh} {c s : Nat} {I : Nat → Nat → Int32} {L : Nat → Nat → Int64} {st : List Value} {a0 a1 a2 a3 : Option Value} : mWP tb_L_law Q 343 [a0, a1, a2, a3] st ((T, c, s), I, L) = mWP tb_L_law Q 344 [a0, a1, a2, a3] (.int 1 :: st) ((T, c, s), I, L) := mWP_eq mt_L_law _ _ _ _ _
set_option maxRecDepth 100000 in
theorem e_L_law_344 {Q : mQo} {T : List mSh} {c s : Nat} {I : Nat → Nat → Int32} {L : Nat → Nat → Int64} {st : List Value} {a0 a1 a2 a3 : Option Value} {x y : Int32} : mWP tb_L_law Q 344 [a0, a1, a2, a3] (.int y :: .int x :: st) ((T, c, s), I, L) = mWP tb_L_law Q 345 [a0, a1, a2, a3] (.int (x + y) :: st) ((T, c, s), I, L) := mWP_eq mt_L_law _ _ _ _ _
set_option maxRecDepth 100000 in
theorem e_L_law_345 {Q : mQo} {T : List mSh} {c s : Nat} {I : Nat → Nat → Int32} {L : Nat → Nat → Int64} {st : List Value} {a0 a1 a2 a3 : Option Value} {x : Nat} {y : Int32} : mWP tb_L_law Q 345 [a0, a1, a2, a3] (.int y :: .ref x :: st) ((T, c, s), I, L) = (mTg (T, c, s) x = 0 ∧ vp_in y (mLn (T, c, s) x) ∧ mWP tb_L_law Q 346 [a0, a1, a2, a3] (.int (I x y.toNatClampNeg) :: st) ((T, c, s), I, L)) := mWP_eq mt_L_law _ _ _ _ _
set_option maxRecDepth 100000 in
theorem e_L_law_346 {Q : mQo} {T : List mSh} {c s : Nat} {I : Nat → Nat → Int32} {L : Nat → Nat → Int64} {st : List Value} {a1 a2 a3 : Option Value} {x : Nat} : mWP tb_L_law Q 346 [some (.ref x), a1, a2, a3] st ((T, c, s), I, L) = mWP tb_L_law Q 347 [some (.ref x), a1, a2, a3] (.ref x :: st) ((T, c, s), I, L) := mWP_eq mt_L_law _ _ _ _ _
set_option maxRecDepth 100000 in
theorem e_L_law_346n {Q : mQo} {T : List mSh} {c s : Nat} {I : Nat → Nat → Int32} {L : Nat → Nat → Int64} {st : List Value} {a1 a2 a3 : Option Value} : mWP tb_L_law Q 346 [some .null, a1, a2, a3] st ((T, c, s), I, L) = mWP tb_L_law Q 347 [some .null, a1, a2, a3] (.null :: st) ((T, c, s), I, L) := mWP_eq mt_L_law _ _ _ _ _
set_option maxRecDepth 100000 in
theorem e_L_law_347 {Q : mQo} {T : List mSh} {c s : Nat} {I : Nat → Nat → Int32} {L : Nat → Nat → Int64} {st : List Value} {a0 a1 a2 : Option Value} {x : Int32} : mWP tb_L_law Q 347 [a0, a1, a2, some (.int x)] st ((T, c, s), I, L) = mWP tb_L_law Q 348 [a0, a1, a2, some (.int x)] (.int x :: st) ((T, c, s), I, L) := mWP_eq mt_L_law _ _ _ _ _
set_option maxRecDepth 100000 in
theorem e_L_law_348 {Q : mQo} {T : List mSh} {c s : Nat} {I : Nat → Nat → Int32} {L : Nat → Nat → Int64} {st : List Value} {a0 a1 a2 a3 : Option Value} : mWP tb_L_law Q 348 [a0, a1, a2, a3] st ((T, c, s), I, L) = mWP tb_L_law Q 349 [a0, a1, a2, a3] (.int 2 :: st) ((T, c, s), I, L) := mWP_eq mt_L_law _ _ _ _ _
set_option maxRecDepth 100000 in
theorem e_L_law_349 {Q : mQo} {T : List mSh} {c s : Nat} {I : Nat → Nat → Int32} {L : Nat → Nat → Int64} {st : List Value} {a0 a1 a2 a3 : Option Value} {x y : Int32} : mWP tb_L_law Q 349 [a0, a1, a2, a3] (.int y :: .int x :: st) ((T, c, s), I, L) = mWP tb_L_law Q 350 [a0, a1, a2, a3] (.int (x + y) :: st) ((T, c, s), I, L) := mWP_eq mt_L_law _ _ _ _ _
set_option maxRecDepth 100000 in
theorem e_L_law_350 {Q : mQo} {T : List mSh} {c s : Nat} {I : Nat → Nat → Int32} {L : Nat → Nat → Int64} {st : List Value} {a0 a1 a2 a3 : Option Value} {x : Nat} {y : Int32} : mWP tb_L_law Q 350 [a0, a1, a2, a3] (.int y :: .ref x :: st) ((T, c, s), I, L) = (mTg (T, c, s) x = 0 ∧ vp_in y (mLn (T, c, s) x) ∧ mWP tb_L_law Q 351 [a0, a1, a2, a3] (.int (I x y.toNatClampNeg) :: st) ((T, c, s), I, L)) := mWP_eq mt_L_law _ _ _ _ _
set_option maxRecDepth 100000 in
theorem e_L_law_351 {Q : mQo} {T : List mSh} {c s : Nat} {I : Nat → Nat → Int32} {L : Nat → Nat → Int64} {st : List Value} {a1 a2 a3 : Option Value} {x : Nat} : mWP tb_L_law Q 351 [some (.ref x), a1, a2, a3] st ((T, c, s), I, L) = mWP tb_L_law Q 352 [some (.ref x), a1, a2, a3] (.ref x :: st) ((T, c, s), I, L) := mWP_eq mt_L_law _ _ _ _ _
set_option maxRecDepth 100000 in
theorem e_L_law_351n {Q : mQo} {T : List mSh} {c s : Nat} {I : Nat → Nat → Int32} {L : Nat → Nat → Int64} {st : List Value} {a1 a2 a3 : Option Value} : mWP tb_L_law Q 351 [some .null, a1, a2, a3] st ((T, c, s), I, L) = mWP tb_L_law Q 352 [some .null, a1, a2, a3] (.null :: st) ((T, c, s), I, L) := mWP_eq mt_L_law _ _ _ _ _
set_option maxRecDepth 100000 in
theorem e_L_law_352 {Q : mQo} {T : List mSh} {c s : Nat} {I : Nat → Nat → Int32} {L : Nat → Nat → Int64} {st : List Value} {a0 a1 a2 : Option Value} {x : Int32} : mWP tb_L_law Q 352 [a0, a1, a2, some (.int x)] st ((T, c, s), I, L) = mWP tb_L_law Q 353 [a0, a1, a2, some (.int x)] (.int x :: st) ((T, c, s), I, L) := mWP_eq mt_L_law _ _ _ _ _
set_option maxRecDepth 100000 in
theorem e_L_law_353 {Q : mQo} {T : List mSh} {c s : Nat} {I : Nat → Nat → Int32} {L : Nat → Nat → Int64} {st : List Value} {a0 a1 a2 a3 : Option Value} : mWP tb_L_law Q 353 [a0, a1, a2, a3] st ((T, c, s), I, L) = mWP tb_L_law Q 354 [a0, a1, a2, a3] (.int 3 :: st) ((T, c, s), I, L) := mWP_eq mt_L_law _ _ _ _ _
set_option maxRecDepth 100000 in
theorem e_L_law_354 {Q : mQo} {T : List mSh} {c s : Nat} {I : Nat → Nat → Int32} {L : Nat → Nat → Int64} {st : List Value} {a0 a1 a2 a3 : Option Value} {x y : Int32} : mWP tb_L_law Q 354 [a0, a1, a2, a3] (.int y :: .int x :: st) ((T, c, s), I, L) = mWP tb_L_law Q 355 [a0, a1, a2, a3] (.int (x + y) :: st) ((T, c, s), I, L) := mWP_eq mt_L_law _ _ _ _ _
set_option maxRecDepth 100000 in
theorem e_L_law_355 {Q : mQo} {T : List mSh} {c s : Nat} {I : Nat → Nat → Int32} {L : Nat → Nat → Int64} {st : List Value} {a0 a1 a2 a3 : Option Value} {x : Nat} {y : Int32} : mWP tb_L_law Q 355 [a0, a1, a2, a3] (.int y :: .ref x :: st) ((T, c, s), I, L) = (mTg (T, c, s) x = 0 ∧ vp_in y (mLn (T, c, s) x) ∧ mWP tb_L_law Q 356 [a0, a1, a2, a3] (.int (I x y.toNatClampNeg) :: st) ((T, c, s), I, L)) := mWP_eq mt_L_law _ _ _ _ _
set_option maxRecDepth 100000 in
theorem e_L_law_356 {Q : mQo} {T : List mSh} {c s : Nat} {I : Nat → Nat → Int32} {L : Nat → Nat → Int64} {st : List Value} {a1 a2 a3 : Option Value} {x : Nat} : mWP tb_L_law Q 356 [some (.ref x), a1, a2, a3] st ((T, c, s), I, L) = mWP tb_L_law Q 357 [some (.ref x), a1, a2, a3] (.ref x :: st) ((T, c, s), I, L) := mWP_eq mt_L_law _ _ _ _ _
set_option maxRecDepth 100000 in
theorem e_L_law_356n {Q : mQo} {T : List mSh} {c s : Nat} {I : Nat → Nat → Int32} {L : Nat → Nat → Int64} {st : List Value} {a1 a2 a3 : Option Value} : mWP tb_L_law Q 356 [some .null, a1, a2, a3] st ((T, c, s), I, L) = mWP tb_L_law Q 357 [some .null, a1, a2, a3] (.null :: st) ((T, c, s), I, L) := mWP_eq mt_L_law _ _ _ _ _
set_option maxRecDepth 100000 in
theorem e_L_law_357 {Q : mQo} {T : List mSh} {c s : Nat} {I : Nat → Nat → Int32} {L : Nat → Nat → Int64} {st : List Value} {a0 a1 a2 : Option Value} {x : Int32} : mWP tb_L_law Q 357 [a0, a1, a2, some (.int x)] st ((T, c, s), I, L) = mWP tb_L_law Q 358 [a0, a1, a2, some (.int x)] (.int x :: st) ((T, c, s), I, L) := mWP_eq mt_L_law _ _ _ _ _
set_option maxRecDepth 100000 in
theorem e_L_law_358 {Q : mQo} {T : List mSh} {c s : Nat} {I : Nat → Nat → Int32} {L : Nat → Nat → Int64} {st : List Value} {a0 a1 a2 a3 : Option Value} : mWP tb_L_law Q 358 [a0, a1, a2, a3] st ((T, c, s), I, L) = mWP tb_L_law Q 359 [a0, a1, a2, a3] (.int 4 :: st) ((T, c, s), I, L) := mWP_eq mt_L_law _ _ _ _ _
set_option maxRecDepth 100000 in
theorem e_L_law_359 {Q : mQo} {T : List mSh} {c s : Nat} {I : Nat → Nat → Int32} {L : Nat → Nat → Int64} {st : List Value} {a0 a1 a2 a3 : Option Value} {x y : Int32} : mWP tb_L_law Q 359 [a0, a1, a2, a3] (.int y :: .int x :: st) ((T, c, s), I, L) = mWP tb_L_law Q 360 [a0, a1, a2, a3] (.int (x + y) :: st) ((T, c, s), I, L) := mWP_eq mt_L_law _ _ _ _ _
set_option maxRecDepth 100000 in
theorem e_L_law_360 {Q : mQo} {T : List mSh} {c s : Nat} {I : Nat → Nat → Int32} {L : Nat → Nat → Int64} {st : List Value} {a0 a1 a2 a3 : Option Value} {x : Nat} {y : Int32} : mWP tb_L_law Q 360 [a0, a1, a2, a3] (.int y :: .ref x :: st) ((T, c, s), I, L) = (mTg (T, c, s) x = 0 ∧ vp_in y (mLn (T, c, s) x) ∧ mWP tb_L_law Q 361 [a0, a1, a2, a3] (.int (I x y.toNatClampNeg) :: st) ((T, c, s), I, L)) := mWP_eq mt_L_law _ _ _ _ _
set_option maxRecDepth 100000 in
theorem e_L_law_361 {Q : mQo} {T : List mSh} {c s : Nat} {I : Nat → Nat → Int32} {L : Nat → Nat → Int64} {st : List Value} {a0 a1 a2 a3 : Option Value} {v0 : Int32} {v1 : Int32} {v2 : Int32} {v3 : Int32} {o : Nat} : mWP tb_L_law Q 361 [a0, a1, a2, a3] (.int v3 :: .int v2 :: .int v1 :: .int v0 :: .ref o :: st) ((T, c, s), I, L) = (mTg (T, c, s) o = 13 ∧ (st.map Value.category).sum ≤ 8 ∧ C_X10_span [.ref o, .int v0, .int v1, .int v2, .int v3] (mZr (T, c, s), I, L) (fun r h' => h'.1 = mZr (T, c, s) ∧ mWP tb_L_law Q 364 [a0, a1, a2, a3] (r.toList ++ st) ((T, c, s), h'.2))) := (mWP_eq mt_L_law _ _ _ _ _).trans (eq_CV (Q := Q) 4 rfl)
set_option maxRecDepth 100000 in
theorem e_L_law_364 {Q : mQo} {T : List mSh} {c s : Nat} {I : Nat → Nat → Int32} {L : Nat → Nat → Int64} {st : List Value} {a0 a1 a3 : Option Value} {x : Nat} : mWP tb_L_law Q 364 [a0, a1, some (.ref x), a3] st ((T, c, s), I, L) = mWP tb_L_law Q 365 [a0, a1, some (.ref x), a3] (.ref x :: st) ((T, c, s), I, L) := mWP_eq mt_L_law _ _ _ _ _
set_option maxRecDepth 100000 in
theorem e_L_law_364n {Q : mQo} {T : List mSh} {c s : Nat} {I : Nat → Nat → Int32} {L : Nat → Nat → Int64} {st : List Value} {a0 a1 a3 : Option Value} : mWP tb_L_law Q 364 [a0, a1, some .null, a3] st ((T, c, s), I, L) = mWP tb_L_law Q 365 [a0, a1, some .null, a3] (.null :: st) ((T, c, s), I, L) := mWP_eq mt_L_law _ _ _ _ _
set_option maxRecDepth 100000 in
theorem e_L_law_365 {Q : mQo} {T : List mSh} {c s : Nat} {I : Nat → Nat → Int32} {L : Nat → Nat → Int64} {st : List Value} {a1 a2 a3 : Option Value} {x : Nat} : mWP tb_L_law Q 365 [some (.ref x), a1, a2, a3] st ((T, c, s), I, L) = mWP tb_L_law Q 366 [some (.ref x), a1, a2, a3] (.ref x :: st) ((T, c, s), I, L) := mWP_eq mt_L_law _ _ _ _ _
set_option maxRecDepth 100000 in
theorem e_L_law_365n {Q : mQo} {T : List mSh} {c s : Nat} {I : Nat → Nat → Int32} {L : Nat → Nat → Int64} {st : List Value} {a1 a2 a3 : Option Value} : mWP tb_L_law Q 365 [some .null, a1, a2, a3] st ((T, c, s), I, L) = mWP tb_L_law Q 366 [some .null, a1, a2, a3] (.null :: st) ((T, c, s), I, L) := mWP_eq mt_L_law _ _ _ _ _
set_option maxRecDepth 100000 in
theorem e_L_law_366 {Q : mQo} {T : List mSh} {c s : Nat} {I : Nat → Nat → Int32} {L : Nat → Nat → Int64} {st : List Value} {a0 a1 a2 : Option Value} {x : Int32} : mWP tb_L_law Q 366 [a0, a1, a2, some (.int x)] st ((T, c, s), I, L) = mWP tb_L_law Q 367 [a0, a1, a2, some (.int x)] (.int x :: st) ((T, c, s), I, L) := mWP_eq mt_L_law _ _ _ _ _
set_option maxRecDepth 100000 in
theorem e_L_law_367 {Q : mQo} {T : List mSh} {c s : Nat} {I : Nat → Nat → Int32} {L : Nat → Nat → Int64} {st : List Value} {a0 a1 a2 a3 : Option Value} : mWP tb_L_law Q 367 [a0, a1, a2, a3] st ((T, c, s), I, L) = mWP tb_L_law Q 368 [a0, a1, a2, a3] (.int 1 :: st) ((T, c, s), I, L) := mWP_eq mt_L_law _ _ _ _ _
set_option maxRecDepth 100000 in
theorem e_L_law_368 {Q : mQo} {T : List mSh} {c s : Nat} {I : Nat → Nat → Int32} {L : Nat → Nat → Int64} {st : List Value} {a0 a1 a2 a3 : Option Value} {x y : Int32} : mWP tb_L_law Q 368 [a0, a1, a2, a3] (.int y :: .int x :: st) ((T, c, s), I, L) = mWP tb_L_law Q 369 [a0, a1, a2, a3] (.int (x + y) :: st) ((T, c, s), I, L) := mWP_eq mt_L_law _ _ _ _ _
set_option maxRecDepth 100000 in
theorem e_L_law_369 {Q : mQo} {T : List mSh} {c s : Nat} {I : Nat → Nat → Int32} {L : Nat → Nat → Int64} {st : List Value} {a0 a1 a2 a3 : Option Value} {x : Nat} {y : Int32} : mWP tb_L_law Q 369 [a0, a1, a2, a3] (.int y :: .ref x :: st) ((T, c, s), I, L) = (mTg (T, c, s) x = 0 ∧ vp_in y (mLn (T, c, s) x) ∧ mWP tb_L_law Q 370 [a0, a1, a2, a3] (.int (I x y.toNatClampNeg) :: st) ((T, c, s), I, L)) := mWP_eq mt_L_law _ _ _ _ _
set_option maxRecDepth 100000 in
theorem e_L_law_370 {Q : mQo} {T : List mSh} {c s : Nat} {I : Nat → Nat → Int32} {L : Nat → Nat → Int64} {st : List Value} {a1 a2 a3 : Option Value} {x : Nat} : mWP tb_L_law Q 370 [some (.ref x), a1, a2, a3] st ((T, c, s), I, L) = mWP tb_L_law Q 371 [some (.ref x), a1, a2, a3] (.ref x :: st) ((T, c, s), I, L) := mWP_eq mt_L_law _ _ _ _ _
set_option maxRecDepth 100000 in
theorem e_L_law_370n {Q : mQo} {T : List mSh} {c s : Nat} {I : Nat → Nat → Int32} {L : Nat → Nat → Int64} {st : List Value} {a1 a2 a3 : Option Value} : mWP tb_L_law Q 370 [some .null, a1, a2, a3] st ((T, c, s), I, L) = mWP tb_L_law Q 371 [some .null, a1, a2, a3] (.null :: st) ((T, c, s), I, L) := mWP_eq mt_L_law _ _ _ _ _
set_option maxRecDepth 100000 in
theorem e_L_law_371 {Q : mQo} {T : List mSh} {c s : Nat} {I : Nat → Nat → Int32} {L : Nat → Nat → Int64} {st : List Value} {a0 a1 a2 : Option Value} {x : Int32} : mWP tb_L_law Q 371 [a0, a1, a2, some (.int x)] st ((T, c, s), I, L) = mWP tb_L_law Q 372 [a0, a1, a2, some (.int x)] (.int x :: st) ((T, c, s), I, L) := mWP_eq mt_L_law _ _ _ _ _
set_option maxRecDepth 100000 in
theorem e_L_law_372 {Q : mQo} {T : List mSh} {c s : Nat} {I : Nat → Nat → Int32} {L : Nat → Nat → Int64} {st : List Value} {a0 a1 a2 a3 : Option Value} : mWP tb_L_law Q 372 [a0, a1, a2, a3] st ((T, c, s), I, L) = mWP tb_L_law Q 373 [a0, a1, a2, a3] (.int 2 :: st) ((T, c, s), I, L) := mWP_eq mt_L_law _ _ _ _ _
set_option maxRecDepth 100000 in
theorem e_L_law_373 {Q : mQo} {T : List mSh} {c s : Nat} {I : Nat → Nat → Int32} {L : Nat → Nat → Int64} {st : List Value} {a0 a1 a2 a3 : Option Value} {x y : Int32} : mWP tb_L_law Q 373 [a0, a1, a2, a3] (.int y :: .int x :: st) ((T, c, s), I, L) = mWP tb_L_law Q 374 [a0, a1, a2, a3] (.int (x + y) :: st) ((T, c, s), I, L) := mWP_eq mt_L_law _ _ _ _ _
set_option maxRecDepth 100000 in
theorem e_L_law_374 {Q : mQo} {T : List mSh} {c s : Nat} {I : Nat → Nat → Int32} {L : Nat → Nat → Int64} {st : List Value} {a0 a1 a2 a3 : Option Value} {x : Nat} {y : Int32} : mWP tb_L_law Q 374 [a0, a1, a2, a3] (.int y :: .ref x :: st) ((T, c, s), I, L) = (mTg (T, c, s) x = 0 ∧ vp_in y (mLn (T, c, s) x) ∧ mWP tb_L_law Q 375 [a0, a1, a2, a3] (.int (I x y.toNatClampNeg) :: st) ((T, c, s), I, L)) := mWP_eq mt_L_law _ _ _ _ _
set_option maxRecDepth 100000 in
theorem e_L_law_375 {Q : mQo} {T : List mSh} {c s : Nat} {I : Nat → Nat → Int32} {L : Nat → Nat → Int64} {st : List Value} {a1 a2 a3 : Option Value} {x : Nat} : mWP tb_L_law Q 375 [some (.ref x), a1, a2, a3] st ((T, c, s), I, L) = mWP tb_L_law Q 376 [some (.ref x), a1, a2, a3] (.ref x :: st) ((T, c, s), I, L) := mWP_eq mt_L_law _ _ _ _ _
set_option maxRecDepth 100000 in
theorem e_L_law_375n {Q : mQo} {T : List mSh} {c s : Nat} {I : Nat → Nat → Int32} {L : Nat → Nat → Int64} {st : List Value} {a1 a2 a3 : Option Value} : mWP tb_L_law Q 375 [some .null, a1, a2, a3] st ((T, c, s), I, L) = mWP tb_L_law Q 376 [some .null, a1, a2, a3] (.null :: st) ((T, c, s), I, L) := mWP_eq mt_L_law _ _ _ _ _
set_option maxRecDepth 100000 in
theorem e_L_law_376 {Q : mQo} {T : List mSh} {c s : Nat} {I : Nat → Nat → Int32} {L : Nat → Nat → Int64} {st : List Value} {a0 a1 a2 : Option Value} {x : Int32} : mWP tb_L_law Q 376 [a0, a1, a2, some (.int x)] st ((T, c, s), I, L) = mWP tb_L_law Q 377 [a0, a1, a2, some (.int x)] (.int x :: st) ((T, c, s), I, L) := mWP_eq mt_L_law _ _ _ _ _
set_option maxRecDepth 100000 in
theorem e_L_law_377 {Q : mQo} {T : List mSh} {c s : Nat} {I : Nat → Nat → Int32} {L : Nat → Nat → Int64} {st : List Value} {a0 a1 a2 a3 : Option Value} : mWP tb_L_law Q 377 [a0, a1, a2, a3] st ((T, c, s), I, L) = mWP tb_L_law Q 378 [a0, a1, a2, a3] (.int 3 :: st) ((T, c, s), I, L) := mWP_eq mt_L_law _ _ _ _ _
set_option maxRecDepth 100000 in
theorem e_L_law_378 {Q : mQo} {T : List mSh} {c s : Nat} {I : Nat → Nat → Int32} {L : Nat → Nat → Int64} {st : List Value} {a0 a1 a2 a3 : Option Value} {x y : Int32} : mWP tb_L_law Q 378 [a0, a1, a2, a3] (.int y :: .int x :: st) ((T, c, s), I, L) = mWP tb_L_law Q 379 [a0, a1, a2, a3] (.int (x + y) :: st) ((T, c, s), I, L) := mWP_eq mt_L_law _ _ _ _ _
set_option maxRecDepth 100000 in
theorem e_L_law_379 {Q : mQo} {T : List mSh} {c s : Nat} {I : Nat → Nat → Int32} {L : Nat → Nat → Int64} {st : List Value} {a0 a1 a2 a3 : Option Value} {x : Nat} {y : Int32} : mWP tb_L_law Q 379 [a0, a1, a2, a3] (.int y :: .ref x :: st) ((T, c, s), I, L) = (mTg (T, c, s) x = 0 ∧ vp_in y (mLn (T, c, s) x) ∧ mWP tb_L_law Q 380 [a0, a1, a2, a3] (.int (I x y.toNatClampNeg) :: st) ((T, c, s), I, L)) := mWP_eq mt_L_law _ _ _ _ _
set_option maxRecDepth 100000 in
theorem e_L_law_380 {Q : mQo} {T : List mSh} {c s : Nat} {I : Nat → Nat → Int32} {L : Nat → Nat → Int64} {st : List Value} {a1 a2 a3 : Option Value} {x : Nat} : mWP tb_L_law Q 380 [some (.ref x), a1, a2, a3] st ((T, c, s), I, L) = mWP tb_L_law Q 381 [some (.ref x), a1, a2, a3] (.ref x :: st) ((T, c, s), I, L) := mWP_eq mt_L_law _ _ _ _ _
set_option maxRecDepth 100000 in
theorem e_L_law_380n {Q : mQo} {T : List mSh} {c s : Nat} {I : Nat → Nat → Int32} {L : Nat → Nat → Int64} {st : List Value} {a1 a2 a3 : Option Value} : mWP tb_L_law Q 380 [some .null, a1, a2, a3] st ((T, c, s), I, L) = mWP tb_L_law Q 381 [some .null, a1, a2, a3] (.null :: st) ((T, c, s), I, L) := mWP_eq mt_L_law _ _ _ _ _
set_option maxRecDepth 100000 in
theorem e_L_law_381 {Q : mQo} {T : List mSh} {c s : Nat} {I : Nat → Nat → Int32} {L : Nat → Nat → Int64} {st : List Value} {a0 a1 a2 : Option Value} {x : Int32} : mWP tb_L_law Q 381 [a0, a1, a2, some (.int x)] st ((T, c, s), I, L) = mWP tb_L_law Q 382 [a0, a1, a2, some (.int x)] (.int x :: st) ((T, c, s), I, L) := mWP_eq mt_L_law _ _ _ _ _
set_option maxRecDepth 100000 in
theorem e_L_law_382 {Q : mQo} {T : List mSh} {c s : Nat} {I : Nat → Nat → Int32} {L : Nat → Nat → Int64} {st : List Value} {a0 a1 a2 a3 : Option Value} : mWP tb_L_law Q 382 [a0, a1, a2, a3] st ((T, c, s), I, L) = mWP tb_L_law Q 383 [a0, a1, a2, a3] (.int 4 :: st) ((T, c, s), I, L) := mWP_eq mt_L_law _ _ _ _ _
set_option maxRecDepth 100000 in
theorem e_L_law_383 {Q : mQo} {T : List mSh} {c s : Nat} {I : Nat → Nat → Int32} {L : Nat → Nat → Int64} {st : List Value} {a0 a1 a2 a3 : Option Value} {x y : Int32} : mWP tb_L_law Q 383 [a0, a1, a2, a3] (.int y :: .int x :: st) ((T, c, s), I, L) = mWP tb_L_law Q 384 [a0, a1, a2, a3] (.int (x + y) :: st) ((T, c, s), I, L) := mWP_eq mt_L_law _ _ _ _ _
set_option maxRecDepth 100000 in
theorem e_L_law_384 {Q : mQo} {T : List mSh} {c s : Nat} {I : Nat → Nat → Int32} {L : Nat → Nat → Int64} {st : List Value} {a0 a1 a2 a3 : Option Value} {x : Nat} {y : Int32} : mWP tb_L_law Q 384 [a0, a1, a2, a3] (.int y :: .ref x :: st) ((T, c, s), I, L) = (mTg (T, c, s) x = 0 ∧ vp_in y (mLn (T, c, s) x) ∧ mWP tb_L_law Q 385 [a0, a1, a2, a3] (.int (I x y.toNatClampNeg) :: st) ((T, c, s), I, L)) := mWP_eq mt_L_law _ _ _ _ _
set_option maxRecDepth 100000 in
theorem e_L_law_385 {Q : mQo} {T : List mSh} {c s : Nat} {I : Nat → Nat → Int32} {L : Nat → Nat → Int64} {st : List Value} {a0 a1 a2 a3 : Option Value} {v0 : Int32} {v1 : Int32} {v2 : Int32} {v3 : Int32} {o : Nat} : mWP tb_L_law Q 385 [a0, a1, a2, a3] (.int v3 :: .int v2 :: .int v1 :: .int v0 :: .ref o :: st) ((T, c, s), I, L) = (mTg (T, c, s) o = 14 ∧ (st.map Value.category).sum ≤ 8 ∧ C_X11_span [.ref o, .int v0, .int v1, .int v2, .int v3] (mZr (T, c, s), I, L) (fun r h' => h'.1 = mZr (T, c, s) ∧ mWP tb_L_law Q 388 [a0, a1, a2, a3] (r.toList ++ st) ((T, c, s), h'.2))) := (mWP_eq mt_L_law _ _ _ _ _).trans (eq_CV (Q := Q) 4 rfl)
set_option maxRecDepth 100000 in
theorem e_L_law_388 {Q : mQo} {T : List mSh} {c s : Nat} {I : Nat → Nat → Int32} {L : Nat → Nat → Int64} {st : List Value} {a0 a1 a2 a3 : Option Value} {x y : Int64} : mWP tb_L_law Q 388 [a0, a1, a2, a3] (.long y :: .long x :: st) ((T, c, s), I, L) = mWP tb_L_law Q 389 [a0, a1, a2, a3] (.int (lg_cmp x y) :: st) ((T, c, s), I, L) := mWP_eq mt_L_law _ _ _ _ _
set_option maxRecDepth 100000 in
theorem e_L_law_389 {Q : mQo} {T : List mSh} {c s : Nat} {I : Nat → Nat → Int32} {L : Nat → Nat → Int64} {st : List Value} {a0 a1 a2 a3 : Option Value} {x : Int32} : mWP tb_L_law Q 389 [a0, a1, a2, a3] (.int x :: st) ((T, c, s), I, L) = ((x = 0 → mWP tb_L_law Q 1460 [a0, a1, a2, a3] st ((T, c, s), I, L)) ∧ (¬ (x = 0) → mWP tb_L_law Q 392 [a0, a1, a2, a3] st ((T, c, s), I, L))) := mWP_eq mt_L_law _ _ _ _ _
set_option maxRecDepth 100000 in
theorem e_L_law_392 {Q : mQo} {T : List mSh} {c s : Nat} {I : Nat → Nat → Int32} {L : Nat → Nat → Int64} {st : List Value} {a0 a1 a2 a3 : Option Value} : mWP tb_L_law Q 392 [a0, a1, a2, a3] st ((T, c, s), I, L) = mWP tb_L_law Q 393 [a0, a1, a2, a3] (.int 0 :: st) ((T, c, s), I, L) := mWP_eq mt_L_law _ _ _ _ _
set_option maxRecDepth 100000 in
theorem e_L_law_393 {Q : mQo} {T : List mSh} {c s : Nat} {I : Nat → Nat → Int32} {L : Nat → Nat → Int64} {a0 a1 a2 a3 : Option Value} {x : Int32} : mWP tb_L_law Q 393 [a0, a1, a2, a3] [.int x] ((T, c, s), I, L) = ((x = 0 ∨ x = 1) ∧ Q (some (.int x)) ((T, c, s), I, L)) := mWP_eq mt_L_law _ _ _ _ _
set_option maxRecDepth 100000 in
theorem e_L_law_394 {Q : mQo} {T : List mSh} {c s : Nat} {I : Nat → Nat → Int32} {L : Nat → Nat → Int64} {st : List Value} {a0 a2 a3 : Option Value} {x : Nat} : mWP tb_L_law Q 394 [a0, some (.ref x), a2, a3] st ((T, c, s), I, L) = mWP tb_L_law Q 395 [a0, some (.ref x), a2, a3] (.ref x :: st) ((T, c, s), I, L) := mWP_eq mt_L_law _ _ _ _ _
set_option maxRecDepth 100000 in
theorem e_L_law_394n {Q : mQo} {T : List mSh} {c s : Nat} {I : Nat → Nat → Int32} {L : Nat → Nat → Int64} {st : List Value} {a0 a2 a3 : Option Value} : mWP tb_L_law Q 394 [a0, some .null, a2, a3] st ((T, c, s), I, L) = mWP tb_L_law Q 395 [a0, some .null, a2, a3] (.null :: st) ((T, c, s), I, L) := mWP_eq mt_L_law _ _ _ _ _
set_option maxRecDepth 100000 in
theorem e_L_law_395 {Q : mQo} {T : List mSh} {c s : Nat} {I : Nat → Nat → Int32} {L : Nat → Nat → Int64} {st : List Value} {a1 a2 a3 : Option Value} {x : Nat} : mWP tb_L_law Q 395 [some (.ref x), a1, a2, a3] st ((T, c, s), I, L) = mWP tb_L_law Q 396 [some (.ref x), a1, a2, a3] (.ref x :: st) ((T, c, s), I, L) := mWP_eq mt_L_law _ _ _ _ _
set_option maxRecDepth 100000 in
theorem e_L_law_395n {Q : mQo} {T : List mSh} {c s : Nat} {I : Nat → Nat → Int32} {L : Nat → Nat → Int64} {st : List Value} {a1 a2 a3 : Option Value} : mWP tb_L_law Q 395 [some .null, a1, a2, a3] st ((T, c, s), I, L) = mWP tb_L_law Q 396 [some .null, a1, a2, a3] (.null :: st) ((T, c, s), I, L) := mWP_eq mt_L_law _ _ _ _ _
set_option maxRecDepth 100000 in
theorem e_L_law_396 {Q : mQo} {T : List mSh} {c s : Nat} {I : Nat → Nat → Int32} {L : Nat → Nat → Int64} {st : List Value} {a0 a1 a2 : Option Value} {x : Int32} : mWP tb_L_law Q 396 [a0, a1, a2, some (.int x)] st ((T, c, s), I, L) = mWP tb_L_law Q 397 [a0, a1, a2, some (.int x)] (.int x :: st) ((T, c, s), I, L) := mWP_eq mt_L_law _ _ _ _ _
set_option maxRecDepth 100000 in
theorem e_L_law_397 {Q : mQo} {T : List mSh} {c s : Nat} {I : Nat → Nat → Int32} {L : Nat → Nat → Int64} {st : List Value} {a0 a1 a2 a3 : Option Value} : mWP tb_L_law Q 397 [a0, a1, a2, a3] st ((T, c, s), I, L) = mWP tb_L_law Q 398 [a0, a1, a2, a3] (.int 1 :: st) ((T, c, s), I, L) := mWP_eq mt_L_law _ _ _ _ _
set_option maxRecDepth 100000 in
theorem e_L_law_398 {Q : mQo} {T : List mSh} {c s : Nat} {I : Nat → Nat → Int32} {L : Nat → Nat → Int64} {st : List Value} {a0 a1 a2 a3 : Option Value} {x y : Int32} : mWP tb_L_law Q 398 [a0, a1, a2, a3] (.int y :: .int x :: st) ((T, c, s), I, L) = mWP tb_L_law Q 399 [a0, a1, a2, a3] (.int (x + y) :: st) ((T, c, s), I, L) := mWP_eq mt_L_law _ _ _ _ _
set_option maxRecDepth 100000 in
theorem e_L_law_399 {Q : mQo} {T : List mSh} {c s : Nat} {I : Nat → Nat → Int32} {L : Nat → Nat → Int64} {st : List Value} {a0 a1 a2 a3 : Option Value} {x : Nat} {y : Int32} : mWP tb_L_law Q 399 [a0, a1, a2, a3] (.int y :: .ref x :: st) ((T, c, s), I, L) = (mTg (T, c, s) x = 0 ∧ vp_in y (mLn (T, c, s) x) ∧ mWP tb_L_law Q 400 [a0, a1, a2, a3] (.int (I x y.toNatClampNeg) :: st) ((T, c, s), I, L)) := mWP_eq mt_L_law _ _ _ _ _
set_option maxRecDepth 100000 in
theorem e_L_law_400 {Q : mQo} {T : List mSh} {c s : Nat} {I : Nat → Nat → Int32} {L : Nat → Nat → Int64} {st : List Value} {a1 a2 a3 : Option Value} {x : Nat} : mWP tb_L_law Q 400 [some (.ref x), a1, a2, a3] st ((T, c, s), I, L) = mWP tb_L_law Q 401 [some (.ref x), a1, a2, a3] (.ref x :: st) ((T, c, s), I, L) := mWP_eq mt_L_law _ _ _ _ _
set_option maxRecDepth 100000 in
theorem e_L_law_400n {Q : mQo} {T : List mSh} {c s : Nat} {I : Nat → Nat → Int32} {L : Nat → Nat → Int64} {st : List Value} {a1 a2 a3 : Option Value} : mWP tb_L_law Q 400 [some .null, a1, a2, a3] st ((T, c, s), I, L) = mWP tb_L_law Q 401 [some .null, a1, a2, a3] (.null :: st) ((T, c, s), I, L) := mWP_eq mt_L_law _ _ _ _ _
set_option maxRecDepth 100000 in
theorem e_L_law_401 {Q : mQo} {T : List mSh} {c s : Nat} {I : Nat → Nat → Int32} {L : Nat → Nat → Int64} {st : List Value} {a0 a1 a2 : Option Value} {x : Int32} : mWP tb_L_law Q 401 [a0, a1, a2, some (.int x)] st ((T, c, s), I, L) = mWP tb_L_law Q 402 [a0, a1, a2, some (.int x)] (.int x :: st) ((T, c, s), I, L) := mWP_eq mt_L_law _ _ _ _ _
set_option maxRecDepth 100000 in
theorem e_L_law_402 {Q : mQo} {T : List mSh} {c s : Nat} {I : Nat → Nat → Int32} {L : Nat → Nat → Int64} {st : List Value} {a0 a1 a2 a3 : Option Value} : mWP tb_L_law Q 402 [a0, a1, a2, a3] st ((T, c, s), I, L) = mWP tb_L_law Q 403 [a0, a1, a2, a3] (.int 2 :: st) ((T, c, s), I, L) := mWP_eq mt_L_law _ _ _ _ _
set_option maxRecDepth 100000 in
theorem e_L_law_403 {Q : mQo} {T : List mSh} {c s : Nat} {I : Nat → Nat → Int32} {L : Nat → Nat → Int64} {st : List Value} {a0 a1 a2 a3 : Option Value} {x y : Int32} : mWP tb_L_law Q 403 [a0, a1, a2, a3] (.int y :: .int x :: st) ((T, c, s), I, L) = mWP tb_L_law Q 404 [a0, a1, a2, a3] (.int (x + y) :: st) ((T, c, s), I, L) := mWP_eq mt_L_law _ _ _ _ _
set_option maxRecDepth 100000 in
theorem e_L_law_404 {Q : mQo} {T : List mSh} {c s : Nat} {I : Nat → Nat → Int32} {L : Nat → Nat → Int64} {st : List Value} {a0 a1 a2 a3 : Option Value} {x : Nat} {y : Int32} : mWP tb_L_law Q 404 [a0, a1, a2, a3] (.int y :: .ref x :: st) ((T, c, s), I, L) = (mTg (T, c, s) x = 0 ∧ vp_in y (mLn (T, c, s) x) ∧ mWP tb_L_law Q 405 [a0, a1, a2, a3] (.int (I x y.toNatClampNeg) :: st) ((T, c, s), I, L)) := mWP_eq mt_L_law _ _ _ _ _
set_option maxRecDepth 100000 in
theorem e_L_law_405 {Q : mQo} {T : List mSh} {c s : Nat} {I : Nat → Nat → Int32} {L : Nat → Nat → Int64} {st : List Value} {a1 a2 a3 : Option Value} {x : Nat} : mWP tb_L_law Q 405 [some (.ref x), a1, a2, a3] st ((T, c, s), I, L) = mWP tb_L_law Q 406 [some (.ref x), a1, a2, a3] (.ref x :: st) ((T, c, s), I, L) := mWP_eq mt_L_law _ _ _ _ _
set_option maxRecDepth 100000 in
theorem e_L_law_405n {Q : mQo} {T : List mSh} {c s : Nat} {I : Nat → Nat → Int32} {L : Nat → Nat → Int64} {st : List Value} {a1 a2 a3 : Option Value} : mWP tb_L_law Q 405 [some .null, a1, a2, a3] st ((T, c, s), I, L) = mWP tb_L_law Q 406 [some .null, a1, a2, a3] (.null :: st) ((T, c, s), I, L) := mWP_eq mt_L_law _ _ _ _ _
set_option maxRecDepth 100000 in
theorem e_L_law_406 {Q : mQo} {T : List mSh} {c s : Nat} {I : Nat → Nat → Int32} {L : Nat → Nat → Int64} {st : List Value} {a0 a1 a2 : Option Value} {x : Int32} : mWP tb_L_law Q 406 [a0, a1, a2, some (.int x)] st ((T, c, s), I, L) = mWP tb_L_law Q 407 [a0, a1, a2, some (.int x)] (.int x :: st) ((T, c, s), I, L) := mWP_eq mt_L_law _ _ _ _ _
set_option maxRecDepth 100000 in
theorem e_L_law_407 {Q : mQo} {T : List mSh} {c s : Nat} {I : Nat → Nat → Int32} {L : Nat → Nat → Int64} {st : List Value} {a0 a1 a2 a3 : Option Value} : mWP tb_L_law Q 407 [a0, a1, a2, a3] st ((T, c, s), I, L) = mWP tb_L_law Q 408 [a0, a1, a2, a3] (.int 3 :: st) ((T, c, s), I, L) := mWP_eq mt_L_law _ _ _ _ _
set_option maxRecDepth 100000 in
theorem e_L_law_408 {Q : mQo} {T : List mSh} {c s : Nat} {I : Nat → Nat → Int32} {L : Nat → Nat → Int64} {st : List Value} {a0 a1 a2 a3 : Option Value} {x y : Int32} : mWP tb_L_law Q 408 [a0, a1, a2, a3] (.int y :: .int x :: st) ((T, c, s), I, L) = mWP tb_L_law Q 409 [a0, a1, a2, a3] (.int (x + y) :: st) ((T, c, s), I, L) := mWP_eq mt_L_law _ _ _ _ _
set_option maxRecDepth 100000 in
theorem e_L_law_409 {Q : mQo} {T : List mSh} {c s : Nat} {I : Nat → Nat → Int32} {L : Nat → Nat → Int64} {st : List Value} {a0 a1 a2 a3 : Option Value} {x : Nat} {y : Int32} : mWP tb_L_law Q 409 [a0, a1, a2, a3] (.int y :: .ref x :: st) ((T, c, s), I, L) = (mTg (T, c, s) x = 0 ∧ vp_in y (mLn (T, c, s) x) ∧ mWP tb_L_law Q 410 [a0, a1, a2, a3] (.int (I x y.toNatClampNeg) :: st) ((T, c, s), I, L)) := mWP_eq mt_L_law _ _ _ _ _
set_option maxRecDepth 100000 in
theorem e_L_law_410 {Q : mQo} {T : List mSh} {c s : Nat} {I : Nat → Nat → Int32} {L : Nat → Nat → Int64} {st : List Value} {a1 a2 a3 : Option Value} {x : Nat} : mWP tb_L_law Q 410 [some (.ref x), a1, a2, a3] st ((T, c, s), I, L) = mWP tb_L_law Q 411 [some (.ref x), a1, a2, a3] (.ref x :: st) ((T, c, s), I, L) := mWP_eq mt_L_law _ _ _ _ _
set_option maxRecDepth 100000 in
theorem e_L_law_410n {Q : mQo} {T : List mSh} {c s : Nat} {I : Nat → Nat → Int32} {L : Nat → Nat → Int64} {st : List Value} {a1 a2 a3 : Option Value} : mWP tb_L_law Q 410 [some .null, a1, a2, a3] st ((T, c, s), I, L) = mWP tb_L_law Q 411 [some .null, a1, a2, a3] (.null :: st) ((T, c, s), I, L) := mWP_eq mt_L_law _ _ _ _ _
set_option maxRecDepth 100000 in
theorem e_L_law_411 {Q : mQo} {T : List mSh} {c s : Nat} {I : Nat → Nat → Int32} {L : Nat → Nat → Int64} {st : List Value} {a0 a1 a2 : Option Value} {x : Int32} : mWP tb_L_law Q 411 [a0, a1, a2, some (.int x)] st ((T, c, s), I, L) = mWP tb_L_law Q 412 [a0, a1, a2, some (.int x)] (.int x :: st) ((T, c, s), I, L) := mWP_eq mt_L_law _ _ _ _ _
set_option maxRecDepth 100000 in
theorem e_L_law_412 {Q : mQo} {T : List mSh} {c s : Nat} {I : Nat → Nat → Int32} {L : Nat → Nat → Int64} {st : List Value} {a0 a1 a2 a3 : Option Value} : mWP tb_L_law Q 412 [a0, a1, a2, a3] st ((T, c, s), I, L) = mWP tb_L_law Q 413 [a0, a1, a2, a3] (.int 4 :: st) ((T, c, s), I, L) := mWP_eq mt_L_law _ _ _ _ _
set_option maxRecDepth 100000 in
theorem e_L_law_413 {Q : mQo} {T : List mSh} {c s : Nat} {I : Nat → Nat → Int32} {L : Nat → Nat → Int64} {st : List Value} {a0 a1 a2 a3 : Option Value} {x y : Int32} : mWP tb_L_law Q 413 [a0, a1, a2, a3] (.int y :: .int x :: st) ((T, c, s), I, L) = mWP tb_L_law Q 414 [a0, a1, a2, a3] (.int (x + y) :: st) ((T, c, s), I, L) := mWP_eq mt_L_law _ _ _ _ _
set_option maxRecDepth 100000 in
theorem e_L_law_414 {Q : mQo} {T : List mSh} {c s : Nat} {I : Nat → Nat → Int32} {L : Nat → Nat → Int64} {st : List Value} {a0 a1 a2 a3 : Option Value} {x : Nat} {y : Int32} : mWP tb_L_law Q 414 [a0, a1, a2, a3] (.int y :: .ref x :: st) ((T, c, s), I, L) = (mTg (T, c, s) x = 0 ∧ vp_in y (mLn (T, c, s) x) ∧ mWP tb_L_law Q 415 [a0, a1, a2, a3] (.int (I x y.toNatClampNeg) :: st) ((T, c, s), I, L)) := mWP_eq mt_L_law _ _ _ _ _
set_option maxRecDepth 100000 in
theorem e_L_law_415 {Q : mQo} {T : List mSh} {c s : Nat} {I : Nat → Nat → Int32} {L : Nat → Nat → Int64} {st : List Value} {a0 a1 a2 a3 : Option Value} {v0 : Int32} {v1 : Int32} {v2 : Int32} {v3 : Int32} {o : Nat} : mWP tb_L_law Q 415 [a0, a1, a2, a3] (.int v3 :: .int v2 :: .int v1 :: .int v0 :: .ref o :: st) ((T, c, s), I, L) = (mTg (T, c, s) o = 13 ∧ (st.map Value.category).sum ≤ 8 ∧ C_X10_cross [.ref o, .int v0, .int v1, .int v2, .int v3] (mZr (T, c, s), I, L) (fun r h' => h'.1 = mZr (T, c, s) ∧ mWP tb_L_law Q 418 [a0, a1, a2, a3] (r.toList ++ st) ((T, c, s), h'.2))) := (mWP_eq mt_L_law _ _ _ _ _).trans (eq_CV (Q := Q) 4 rfl)
set_option maxRecDepth 100000 in
theorem e_L_law_418 {Q : mQo} {T : List mSh} {c s : Nat} {I : Nat → Nat → Int32} {L : Nat → Nat → Int64} {st : List Value} {a0 a1 a3 : Option Value} {x : Nat} : mWP tb_L_law Q 418 [a0, a1, some (.ref x), a3] st ((T, c, s), I, L) = mWP tb_L_law Q 419 [a0, a1, some (.ref x), a3] (.ref x :: st) ((T, c, s), I, L) := mWP_eq mt_L_law _ _ _ _ _
set_option maxRecDepth 100000 in
theorem e_L_law_418n {Q : mQo} {T : List mSh} {c s : Nat} {I : Nat → Nat → Int32} {L : Nat → Nat → Int64} {st : List Value} {a0 a1 a3 : Option Value} : mWP tb_L_law Q 418 [a0, a1, some .null, a3] st ((T, c, s), I, L) = mWP tb_L_law Q 419 [a0, a1, some .null, a3] (.null :: st) ((T, c, s), I, L) := mWP_eq mt_L_law _ _ _ _ _
set_option maxRecDepth 100000 in
theorem e_L_law_419 {Q : mQo} {T : List mSh} {c s : Nat} {I : Nat → Nat → Int32} {L : Nat → Nat → Int64} {st : List Value} {a1 a2 a3 : Option Value} {x : Nat} : mWP tb_L_law Q 419 [some (.ref x), a1, a2, a3] st ((T, c, s), I, L) = mWP tb_L_law Q 420 [some (.ref x), a1, a2, a3] (.ref x :: st) ((T, c, s), I, L) := mWP_eq mt_L_law _ _ _ _ _
set_option maxRecDepth 100000 in
theorem e_L_law_419n {Q : mQo} {T : List mSh} {c s : Nat} {I : Nat → Nat → Int32} {L : Nat → Nat → Int64} {st : List Value} {a1 a2 a3 : Option Value} : mWP tb_L_law Q 419 [some .null, a1, a2, a3] st ((T, c, s), I, L) = mWP tb_L_law Q 420 [some .null, a1, a2, a3] (.null :: st) ((T, c, s), I, L) := mWP_eq mt_L_law _ _ _ _ _
set_option maxRecDepth 100000 in
theorem e_L_law_420 {Q : mQo} {T : List mSh} {c s : Nat} {I : Nat → Nat → Int32} {L : Nat → Nat → Int64} {st : List Value} {a0 a1 a2 : Option Value} {x : Int32} : mWP tb_L_law Q 420 [a0, a1, a2, some (.int x)] st ((T, c, s), I, L) = mWP tb_L_law Q 421 [a0, a1, a2, some (.int x)] (.int x :: st) ((T, c, s), I, L) := mWP_eq mt_L_law _ _ _ _ _
set_option maxRecDepth 100000 in
theorem e_L_law_421 {Q : mQo} {T : List mSh} {c s : Nat} {I : Nat → Nat → Int32} {L : Nat → Nat → Int64} {st : List Value} {a0 a1 a2 a3 : Option Value} : mWP tb_L_law Q 421 [a0, a1, a2, a3] st ((T, c, s), I, L) = mWP tb_L_law Q 422 [a0, a1, a2, a3] (.int 1 :: st) ((T, c, s), I, L) := mWP_eq mt_L_law _ _ _ _ _
set_option maxRecDepth 100000 in
theorem e_L_law_422 {Q : mQo} {T : List mSh} {c s : Nat} {I : Nat → Nat → Int32} {L : Nat → Nat → Int64} {st : List Value} {a0 a1 a2 a3 : Option Value} {x y : Int32} : mWP tb_L_law Q 422 [a0, a1, a2, a3] (.int y :: .int x :: st) ((T, c, s), I, L) = mWP tb_L_law Q 423 [a0, a1, a2, a3] (.int (x + y) :: st) ((T, c, s), I, L) := mWP_eq mt_L_law _ _ _ _ _
set_option maxRecDepth 100000 in
theorem e_L_law_423 {Q : mQo} {T : List mSh} {c s : Nat} {I : Nat → Nat → Int32} {L : Nat → Nat → Int64} {st : List Value} {a0 a1 a2 a3 : Option Value} {x : Nat} {y : Int32} : mWP tb_L_law Q 423 [a0, a1, a2, a3] (.int y :: .ref x :: st) ((T, c, s), I, L) = (mTg (T, c, s) x = 0 ∧ vp_in y (mLn (T, c, s) x) ∧ mWP tb_L_law Q 424 [a0, a1, a2, a3] (.int (I x y.toNatClampNeg) :: st) ((T, c, s), I, L)) := mWP_eq mt_L_law _ _ _ _ _
set_option maxRecDepth 100000 in
theorem e_L_law_424 {Q : mQo} {T : List mSh} {c s : Nat} {I : Nat → Nat → Int32} {L : Nat → Nat → Int64} {st : List Value} {a1 a2 a3 : Option Value} {x : Nat} : mWP tb_L_law Q 424 [some (.ref x), a1, a2, a3] st ((T, c, s), I, L) = mWP tb_L_law Q 425 [some (.ref x), a1, a2, a3] (.ref x :: st) ((T, c, s), I, L) := mWP_eq mt_L_law _ _ _ _ _
set_option maxRecDepth 100000 in
theorem e_L_law_424n {Q : mQo} {T : List mSh} {c s : Nat} {I : Nat → Nat → Int32} {L : Nat → Nat → Int64} {st : List Value} {a1 a2 a3 : Option Value} : mWP tb_L_law Q 424 [some .null, a1, a2, a3] st ((T, c, s), I, L) = mWP tb_L_law Q 425 [some .null, a1, a2, a3] (.null :: st) ((T, c, s), I, L) := mWP_eq mt_L_law _ _ _ _ _
set_option maxRecDepth 100000 in
theorem e_L_law_425 {Q : mQo} {T : List mSh} {c s : Nat} {I : Nat → Nat → Int32} {L : Nat → Nat → Int64} {st : List Value} {a0 a1 a2 : Option Value} {x : Int32} : mWP tb_L_law Q 425 [a0, a1, a2, some (.int x)] st ((T, c, s), I, L) = mWP tb_L_law Q 426 [a0, a1, a2, some (.int x)] (.int x :: st) ((T, c, s), I, L) := mWP_eq mt_L_law _ _ _ _ _
set_option maxRecDepth 100000 in
theorem e_L_law_426 {Q : mQo} {T : List mSh} {c s : Nat} {I : Nat → Nat → Int32} {L : Nat → Nat → Int64} {st : List Value} {a0 a1 a2 a3 : Option Value} : mWP tb_L_law Q 426 [a0, a1, a2, a3] st ((T, c, s), I, L) = mWP tb_L_law Q 427 [a0, a1, a2, a3] (.int 2 :: st) ((T, c, s), I, L) := mWP_eq mt_L_law _ _ _ _ _
set_option maxRecDepth 100000 in
theorem e_L_law_427 {Q : mQo} {T : List mSh} {c s : Nat} {I : Nat → Nat → Int32} {L : Nat → Nat → Int64} {st : List Value} {a0 a1 a2 a3 : Option Value} {x y : Int32} : mWP tb_L_law Q 427 [a0, a1, a2, a3] (.int y :: .int x :: st) ((T, c, s), I, L) = mWP tb_L_law Q 428 [a0, a1, a2, a3] (.int (x + y) :: st) ((T, c, s), I, L) := mWP_eq mt_L_law _ _ _ _ _
set_option maxRecDepth 100000 in
theorem e_L_law_428 {Q : mQo} {T : List mSh} {c s : Nat} {I : Nat → Nat → Int32} {L : Nat → Nat → Int64} {st : List Value} {a0 a1 a2 a3 : Option Value} {x : Nat} {y : Int32} : mWP tb_L_law Q 428 [a0, a1, a2, a3] (.int y :: .ref x :: st) ((T, c, s), I, L) = (mTg (T, c, s) x = 0 ∧ vp_in y (mLn (T, c, s) x) ∧ mWP tb_L_law Q 429 [a0, a1, a2, a3] (.int (I x y.toNatClampNeg) :: st) ((T, c, s), I, L)) := mWP_eq mt_L_law _ _ _ _ _
set_option maxRecDepth 100000 in
theorem e_L_law_429 {Q : mQo} {T : List mSh} {c s : Nat} {I : Nat → Nat → Int32} {L : Nat → Nat → Int64} {st : List Value} {a1 a2 a3 : Option Value} {x : Nat} : mWP tb_L_law Q 429 [some (.ref x), a1, a2, a3] st ((T, c, s), I, L) = mWP tb_L_law Q 430 [some (.ref x), a1, a2, a3] (.ref x :: st) ((T, c, s), I, L) := mWP_eq mt_L_law _ _ _ _ _
set_option maxRecDepth 100000 in
theorem e_L_law_429n {Q : mQo} {T : List mSh} {c s : Nat} {I : Nat → Nat → Int32} {L : Nat → Nat → Int64} {st : List Value} {a1 a2 a3 : Option Value} : mWP tb_L_law Q 429 [some .null, a1, a2, a3] st ((T, c, s), I, L) = mWP tb_L_law Q 430 [some .null, a1, a2, a3] (.null :: st) ((T, c, s), I, L) := mWP_eq mt_L_law _ _ _ _ _
set_option maxRecDepth 100000 in
theorem e_L_law_430 {Q : mQo} {T : List mSh} {c s : Nat} {I : Nat → Nat → Int32} {L : Nat → Nat → Int64} {st : List Value} {a0 a1 a2 : Option Value} {x : Int32} : mWP tb_L_law Q 430 [a0, a1, a2, some (.int x)] st ((T, c, s), I, L) = mWP tb_L_law Q 431 [a0, a1, a2, some (.int x)] (.int x :: st) ((T, c, s), I, L) := mWP_eq mt_L_law _ _ _ _ _
set_option maxRecDepth 100000 in
theorem e_L_law_431 {Q : mQo} {T : List mSh} {c s : Nat} {I : Nat → Nat → Int32} {L : Nat → Nat → Int64} {st : List Value} {a0 a1 a2 a3 : Option Value} : mWP tb_L_law Q 431 [a0, a1, a2, a3] st ((T, c, s), I, L) = mWP tb_L_law Q 432 [a0, a1, a2, a3] (.int 3 :: st) ((T, c, s), I, L) := mWP_eq mt_L_law _ _ _ _ _
set_option maxRecDepth 100000 in
theorem e_L_law_432 {Q : mQo} {T : List mSh} {c s : Nat} {I : Nat → Nat → Int32} {L : Nat → Nat → Int64} {st : List Value} {a0 a1 a2 a3 : Option Value} {x y : Int32} : mWP tb_L_law Q 432 [a0, a1, a2, a3] (.int y :: .int x :: st) ((T, c, s), I, L) = mWP tb_L_law Q 433 [a0, a1, a2, a3] (.int (x + y) :: st) ((T, c, s), I, L) := mWP_eq mt_L_law _ _ _ _ _
set_option maxRecDepth 100000 in
theorem e_L_law_433 {Q : mQo} {T : List mSh} {c s : Nat} {I : Nat → Nat → Int32} {L : Nat → Nat → Int64} {st : List Value} {a0 a1 a2 a3 : Option Value} {x : Nat} {y : Int32} : mWP tb_L_law Q 433 [a0, a1, a2, a3] (.int y :: .ref x :: st) ((T, c, s), I, L) = (mTg (T, c, s) x = 0 ∧ vp_in y (mLn (T, c, s) x) ∧ mWP tb_L_law Q 434 [a0, a1, a2, a3] (.int (I x y.toNatClampNeg) :: st) ((T, c, s), I, L)) := mWP_eq mt_L_law _ _ _ _ _
set_option maxRecDepth 100000 in
theorem e_L_law_434 {Q : mQo} {T : List mSh} {c s : Nat} {I : Nat → Nat → Int32} {L : Nat → Nat → Int64} {st : List Value} {a1 a2 a3 : Option Value} {x : Nat} : mWP tb_L_law Q 434 [some (.ref x), a1, a2, a3] st ((T, c, s), I, L) = mWP tb_L_law Q 435 [some (.ref x), a1, a2, a3] (.ref x :: st) ((T, c, s), I, L) := mWP_eq mt_L_law _ _ _ _ _
set_option maxRecDepth 100000 in
theorem e_L_law_434n {Q : mQo} {T : List mSh} {c s : Nat} {I : Nat → Nat → Int32} {L : Nat → Nat → Int64} {st : List Value} {a1 a2 a3 : Option Value} : mWP tb_L_law Q 434 [some .null, a1, a2, a3] st ((T, c, s), I, L) = mWP tb_L_law Q 435 [some .null, a1, a2, a3] (.null :: st) ((T, c, s), I, L) := mWP_eq mt_L_law _ _ _ _ _
set_option maxRecDepth 100000 in
theorem e_L_law_435 {Q : mQo} {T : List mSh} {c s : Nat} {I : Nat → Nat → Int32} {L : Nat → Nat → Int64} {st : List Value} {a0 a1 a2 : Option Value} {x : Int32} : mWP tb_L_law Q 435 [a0, a1, a2, some (.int x)] st ((T, c, s), I, L) = mWP tb_L_law Q 436 [a0, a1, a2, some (.int x)] (.int x :: st) ((T, c, s), I, L) := mWP_eq mt_L_law _ _ _ _ _
set_option maxRecDepth 100000 in
theorem e_L_law_436 {Q : mQo} {T : List mSh} {c s : Nat} {I : Nat → Nat → Int32} {L : Nat → Nat → Int64} {st : List Value} {a0 a1 a2 a3 : Option Value} : mWP tb_L_law Q 436 [a0, a1, a2, a3] st ((T, c, s), I, L) = mWP tb_L_law Q 437 [a0, a1, a2, a3] (.int 4 :: st) ((T, c, s), I, L) := mWP_eq mt_L_law _ _ _ _ _
set_option maxRecDepth 100000 in
theorem e_L_law_437 {Q : mQo} {T : List mSh} {c s : Nat} {I : Nat → Nat → Int32} {L : Nat → Nat → Int64} {st : List Value} {a0 a1 a2 a3 : Option Value} {x y : Int32} : mWP tb_L_law Q 437 [a0, a1, a2, a3] (.int y :: .int x :: st) ((T, c, s), I, L) = mWP tb_L_law Q 438 [a0, a1, a2, a3] (.int (x + y) :: st) ((T, c, s), I, L) := mWP_eq mt_L_law _ _ _ _ _
set_option maxRecDepth 100000 in
theorem e_L_law_438 {Q : mQo} {T : List mSh} {c s : Nat} {I : Nat → Nat → Int32} {L : Nat → Nat → Int64} {st : List Value} {a0 a1 a2 a3 : Option Value} {x : Nat} {y : Int32} : mWP tb_L_law Q 438 [a0, a1, a2, a3] (.int y :: .ref x :: st) ((T, c, s), I, L) = (mTg (T, c, s) x = 0 ∧ vp_in y (mLn (T, c, s) x) ∧ mWP tb_L_law Q 439 [a0, a1, a2, a3] (.int (I x y.toNatClampNeg) :: st) ((T, c, s), I, L)) := mWP_eq mt_L_law _ _ _ _ _
set_option maxRecDepth 100000 in
theorem e_L_law_439 {Q : mQo} {T : List mSh} {c s : Nat} {I : Nat → Nat → Int32} {L : Nat → Nat → Int64} {st : List Value} {a0 a1 a2 a3 : Option Value} {v0 : Int32} {v1 : Int32} {v2 : Int32} {v3 : Int32} {o : Nat} : mWP tb_L_law Q 439 [a0, a1, a2, a3] (.int v3 :: .int v2 :: .int v1 :: .int v0 :: .ref o :: st) ((T, c, s), I, L) = (mTg (T, c, s) o = 14 ∧ (st.map Value.category).sum ≤ 8 ∧ C_X11_cross [.ref o, .int v0, .int v1, .int v2, .int v3] (mZr (T, c, s), I, L) (fun r h' => h'.1 = mZr (T, c, s) ∧ mWP tb_L_law Q 442 [a0, a1, a2, a3] (r.toList ++ st) ((T, c, s), h'.2))) := (mWP_eq mt_L_law _ _ _ _ _).trans (eq_CV (Q := Q) 4 rfl)
set_option maxRecDepth 100000 in
theorem e_L_law_442 {Q : mQo} {T : List mSh} {c s : Nat} {I : Nat → Nat → Int32} {L : Nat → Nat → Int64} {st : List Value} {a0 a1 a2 a3 : Option Value} {x y : Int64} : mWP tb_L_law Q 442 [a0, a1, a2, a3] (.long y :: .long x :: st) ((T, c, s), I, L) = mWP tb_L_law Q 443 [a0, a1, a2, a3] (.int (lg_cmp x y) :: st) ((T, c, s), I, L) := mWP_eq mt_L_law _ _ _ _ _
set_option maxRecDepth 100000 in
theorem e_L_law_443 {Q : mQo} {T : List mSh} {c s : Nat} {I : Nat → Nat → Int32} {L : Nat → Nat → Int64} {st : List Value} {a0 a1 a2 a3 : Option Value} {x : Int32} : mWP tb_L_law Q 443 [a0, a1, a2, a3] (.int x :: st) ((T, c, s), I, L) = ((x = 0 → mWP tb_L_law Q 1460 [a0, a1, a2, a3] st ((T, c, s), I, L)) ∧ (¬ (x = 0) → mWP tb_L_law Q 446 [a0, a1, a2, a3] st ((T, c, s), I, L))) := mWP_eq mt_L_law _ _ _ _ _
set_option maxRecDepth 100000 in
theorem e_L_law_446 {Q : mQo} {T : List mSh} {c s : Nat} {I : Nat → Nat → Int32} {L : Nat → Nat → Int64} {st : List Value} {a0 a1 a2 a3 : Option Value} : mWP tb_L_law Q 446 [a0, a1, a2, a3] st ((T, c, s), I, L) = mWP tb_L_law Q 447 [a0, a1, a2, a3] (.int 0 :: st) ((T, c, s), I, L) := mWP_eq mt_L_law _ _ _ _ _
set_option maxRecDepth 100000 in
theorem e_L_law_447 {Q : mQo} {T : List mSh} {c s : Nat} {I : Nat → Nat → Int32} {L : Nat → Nat → Int64} {a0 a1 a2 a3 : Option Value} {x : Int32} : mWP tb_L_law Q 447 [a0, a1, a2, a3] [.int x] ((T, c, s), I, L) = ((x = 0 ∨ x = 1) ∧ Q (some (.int x)) ((T, c, s), I, L)) := mWP_eq mt_L_law _ _ _ _ _
set_option maxRecDepth 100000 in
theorem e_L_law_448 {Q : mQo} {T : List mSh} {c s : Nat} {I : Nat → Nat → Int32} {L : Nat → Nat → Int64} {st : List Value} {a0 a2 a3 : Option Value} {x : Nat} : mWP tb_L_law Q 448 [a0, some (.ref x), a2, a3] st ((T, c, s), I, L) = mWP tb_L_law Q 449 [a0, some (.ref x), a2, a3] (.ref x :: st) ((T, c, s), I, L) := mWP_eq mt_L_law _ _ _ _ _
set_option maxRecDepth 100000 in
theorem e_L_law_448n {Q : mQo} {T : List mSh} {c s : Nat} {I : Nat → Nat → Int32} {L : Nat → Nat → Int64} {st : List Value} {a0 a2 a3 : Option Value} : mWP tb_L_law Q 448 [a0, some .null, a2, a3] st ((T, c, s), I, L) = mWP tb_L_law Q 449 [a0, some .null, a2, a3] (.null :: st) ((T, c, s), I, L) := mWP_eq mt_L_law _ _ _ _ _
set_option maxRecDepth 100000 in
theorem e_L_law_449 {Q : mQo} {T : List mSh} {c s : Nat} {I : Nat → Nat → Int32} {L : Nat → Nat → Int64} {st : List Value} {a1 a2 a3 : Option Value} {x : Nat} : mWP tb_L_law Q 449 [some (.ref x), a1, a2, a3] st ((T, c, s), I, L) = mWP tb_L_law Q 450 [some (.ref x), a1, a2, a3] (.ref x :: st) ((T, c, s), I, L) := mWP_eq mt_L_law _ _ _ _ _
set_option maxRecDepth 100000 in
theorem e_L_law_449n {Q : mQo} {T : List mSh} {c s : Nat} {I : Nat → Nat → Int32} {L : Nat → Nat → Int64} {st : List Value} {a1 a2 a3 : Option Value} : mWP tb_L_law Q 449 [some .null, a1, a2, a3] st ((T, c, s), I, L) = mWP tb_L_law Q 450 [some .null, a1, a2, a3] (.null :: st) ((T, c, s), I, L) := mWP_eq mt_L_law _ _ _ _ _
set_option maxRecDepth 100000 in
theorem e_L_law_450 {Q : mQo} {T : List mSh} {c s : Nat} {I : Nat → Nat → Int32} {L : Nat → Nat → Int64} {st : List Value} {a0 a1 a2 : Option Value} {x : Int32} : mWP tb_L_law Q 450 [a0, a1, a2, some (.int x)] st ((T, c, s), I, L) = mWP tb_L_law Q 451 [a0, a1, a2, some (.int x)] (.int x :: st) ((T, c, s), I, L) := mWP_eq mt_L_law _ _ _ _ _
set_option maxRecDepth 100000 in
theorem e_L_law_451 {Q : mQo} {T : List mSh} {c s : Nat} {I : Nat → Nat → Int32} {L : Nat → Nat → Int64} {st : List Value} {a0 a1 a2 a3 : Option Value} : mWP tb_L_law Q 451 [a0, a1, a2, a3] st ((T, c, s), I, L) = mWP tb_L_law Q 452 [a0, a1, a2, a3] (.int 1 :: st) ((T, c, s), I, L) := mWP_eq mt_L_law _ _ _ _ _
set_option maxRecDepth 100000 in
theorem e_L_law_452 {Q : mQo} {T : List mSh} {c s : Nat} {I : Nat → Nat → Int32} {L : Nat → Nat → Int64} {st : List Value} {a0 a1 a2 a3 : Option Value} {x y : Int32} : mWP tb_L_law Q 452 [a0, a1, a2, a3] (.int y :: .int x :: st) ((T, c, s), I, L) = mWP tb_L_law Q 453 [a0, a1, a2, a3] (.int (x + y) :: st) ((T, c, s), I, L) := mWP_eq mt_L_law _ _ _ _ _
set_option maxRecDepth 100000 in
theorem e_L_law_453 {Q : mQo} {T : List mSh} {c s : Nat} {I : Nat → Nat → Int32} {L : Nat → Nat → Int64} {st : List Value} {a0 a1 a2 a3 : Option Value} {x : Nat} {y : Int32} : mWP tb_L_law Q 453 [a0, a1, a2, a3] (.int y :: .ref x :: st) ((T, c, s), I, L) = (mTg (T, c, s) x = 0 ∧ vp_in y (mLn (T, c, s) x) ∧ mWP tb_L_law Q 454 [a0, a1, a2, a3] (.int (I x y.toNatClampNeg) :: st) ((T, c, s), I, L)) := mWP_eq mt_L_law _ _ _ _ _
set_option maxRecDepth 100000 in
theorem e_L_law_454 {Q : mQo} {T : List mSh} {c s : Nat} {I : Nat → Nat → Int32} {L : Nat → Nat → Int64} {st : List Value} {a1 a2 a3 : Option Value} {x : Nat} : mWP tb_L_law Q 454 [some (.ref x), a1, a2, a3] st ((T, c, s), I, L) = mWP tb_L_law Q 455 [some (.ref x), a1, a2, a3] (.ref x :: st) ((T, c, s), I, L) := mWP_eq mt_L_law _ _ _ _ _
set_option maxRecDepth 100000 in
theorem e_L_law_454n {Q : mQo} {T : List mSh} {c s : Nat} {I : Nat → Nat → Int32} {L : Nat → Nat → Int64} {st : List Value} {a1 a2 a3 : Option Value} : mWP tb_L_law Q 454 [some .null, a1, a2, a3] st ((T, c, s), I, L) = mWP tb_L_law Q 455 [some .null, a1, a2, a3] (.null :: st) ((T, c, s), I, L) := mWP_eq mt_L_law _ _ _ _ _
set_option maxRecDepth 100000 in
theorem e_L_law_455 {Q : mQo} {T : List mSh} {c s : Nat} {I : Nat → Nat → Int32} {L : Nat → Nat → Int64} {st : List Value} {a0 a1 a2 : Option Value} {x : Int32} : mWP tb_L_law Q 455 [a0, a1, a2, some (.int x)] st ((T, c, s), I, L) = mWP tb_L_law Q 456 [a0, a1, a2, some (.int x)] (.int x :: st) ((T, c, s), I, L) := mWP_eq mt_L_law _ _ _ _ _
set_option maxRecDepth 100000 in
theorem e_L_law_456 {Q : mQo} {T : List mSh} {c s : Nat} {I : Nat → Nat → Int32} {L : Nat → Nat → Int64} {st : List Value} {a0 a1 a2 a3 : Option Value} : mWP tb_L_law Q 456 [a0, a1, a2, a3] st ((T, c, s), I, L) = mWP tb_L_law Q 457 [a0, a1, a2, a3] (.int 2 :: st) ((T, c, s), I, L) := mWP_eq mt_L_law _ _ _ _ _
set_option maxRecDepth 100000 in
theorem e_L_law_457 {Q : mQo} {T : List mSh} {c s : Nat} {I : Nat → Nat → Int32} {L : Nat → Nat → Int64} {st : List Value} {a0 a1 a2 a3 : Option Value} {x y : Int32} : mWP tb_L_law Q 457 [a0, a1, a2, a3] (.int y :: .int x :: st) ((T, c, s), I, L) = mWP tb_L_law Q 458 [a0, a1, a2, a3] (.int (x + y) :: st) ((T, c, s), I, L) := mWP_eq mt_L_law _ _ _ _ _
set_option maxRecDepth 100000 in
theorem e_L_law_458 {Q : mQo} {T : List mSh} {c s : Nat} {I : Nat → Nat → Int32} {L : Nat → Nat → Int64} {st : List Value} {a0 a1 a2 a3 : Option Value} {x : Nat} {y : Int32} : mWP tb_L_law Q 458 [a0, a1, a2, a3] (.int y :: .ref x :: st) ((T, c, s), I, L) = (mTg (T, c, s) x = 0 ∧ vp_in y (mLn (T, c, s) x) ∧ mWP tb_L_law Q 459 [a0, a1, a2, a3] (.int (I x y.toNatClampNeg) :: st) ((T, c, s), I, L)) := mWP_eq mt_L_law _ _ _ _ _
set_option maxRecDepth 100000 in
theorem e_L_law_459 {Q : mQo} {T : List mSh} {c s : Nat} {I : Nat → Nat → Int32} {L : Nat → Nat → Int64} {st : List Value} {a1 a2 a3 : Option Value} {x : Nat} : mWP tb_L_law Q 459 [some (.ref x), a1, a2, a3] st ((T, c, s), I, L) = mWP tb_L_law Q 460 [some (.ref x), a1, a2, a3] (.ref x :: st) ((T, c, s), I, L) := mWP_eq mt_L_law _ _ _ _ _
set_option maxRecDepth 100000 in
theorem e_L_law_459n {Q : mQo} {T : List mSh} {c s : Nat} {I : Nat → Nat → Int32} {L : Nat → Nat → Int64} {st : List Value} {a1 a2 a3 : Option Value} : mWP tb_L_law Q 459 [some .null, a1, a2, a3] st ((T, c, s), I, L) = mWP tb_L_law Q 460 [some .null, a1, a2, a3] (.null :: st) ((T, c, s), I, L) := mWP_eq mt_L_law _ _ _ _ _
set_option maxRecDepth 100000 in
theorem e_L_law_460 {Q : mQo} {T : List mSh} {c s : Nat} {I : Nat → Nat → Int32} {L : Nat → Nat → Int64} {st : List Value} {a0 a1 a2 : Option Value} {x : Int32} : mWP tb_L_law Q 460 [a0, a1, a2, some (.int x)] st ((T, c, s), I, L) = mWP tb_L_law Q 461 [a0, a1, a2, some (.int x)] (.int x :: st) ((T, c, s), I, L) := mWP_eq mt_L_law _ _ _ _ _
set_option maxRecDepth 100000 in
theorem e_L_law_461 {Q : mQo} {T : List mSh} {c s : Nat} {I : Nat → Nat → Int32} {L : Nat → Nat → Int64} {st : List Value} {a0 a1 a2 a3 : Option Value} : mWP tb_L_law Q 461 [a0, a1, a2, a3] st ((T, c, s), I, L) = mWP tb_L_law Q 462 [a0, a1, a2, a3] (.int 3 :: st) ((T, c, s), I, L) := mWP_eq mt_L_law _ _ _ _ _
set_option maxRecDepth 100000 in
theorem e_L_law_462 {Q : mQo} {T : List mSh} {c s : Nat} {I : Nat → Nat → Int32} {L : Nat → Nat → Int64} {st : List Value} {a0 a1 a2 a3 : Option Value} {x y : Int32} : mWP tb_L_law Q 462 [a0, a1, a2, a3] (.int y :: .int x :: st) ((T, c, s), I, L) = mWP tb_L_law Q 463 [a0, a1, a2, a3] (.int (x + y) :: st) ((T, c, s), I, L) := mWP_eq mt_L_law _ _ _ _ _
set_option maxRecDepth 100000 in
theorem e_L_law_463 {Q : mQo} {T : List mSh} {c s : Nat} {I : Nat → Nat → Int32} {L : Nat → Nat → Int64} {st : List Value} {a0 a1 a2 a3 : Option Value} {x : Nat} {y : Int32} : mWP tb_L_law Q 463 [a0, a1, a2, a3] (.int y :: .ref x :: st) ((T, c, s), I, L) = (mTg (T, c, s) x = 0 ∧ vp_in y (mLn (T, c, s) x) ∧ mWP tb_L_law Q 464 [a0, a1, a2, a3] (.int (I x y.toNatClampNeg) :: st) ((T, c, s), I, L)) := mWP_eq mt_L_law _ _ _ _ _
set_option maxRecDepth 100000 in
theorem e_L_law_464 {Q : mQo} {T : List mSh} {c s : Nat} {I : Nat → Nat → Int32} {L : Nat → Nat → Int64} {st : List Value} {a1 a2 a3 : Option Value} {x : Nat} : mWP tb_L_law Q 464 [some (.ref x), a1, a2, a3] st ((T, c, s), I, L) = mWP tb_L_law Q 465 [some (.ref x), a1, a2, a3] (.ref x :: st) ((T, c, s), I, L) := mWP_eq mt_L_law _ _ _ _ _
set_option maxRecDepth 100000 in
theorem e_L_law_464n {Q : mQo} {T : List mSh} {c s : Nat} {I : Nat → Nat → Int32} {L : Nat → Nat → Int64} {st : List Value} {a1 a2 a3 : Option Value} : mWP tb_L_law Q 464 [some .null, a1, a2, a3] st ((T, c, s), I, L) = mWP tb_L_law Q 465 [some .null, a1, a2, a3] (.null :: st) ((T, c, s), I, L) := mWP_eq mt_L_law _ _ _ _ _
set_option maxRecDepth 100000 in
theorem e_L_law_465 {Q : mQo} {T : List mSh} {c s : Nat} {I : Nat → Nat → Int32} {L : Nat → Nat → Int64} {st : List Value} {a0 a1 a2 : Option Value} {x : Int32} : mWP tb_L_law Q 465 [a0, a1, a2, some (.int x)] st ((T, c, s), I, L) = mWP tb_L_law Q 466 [a0, a1, a2, some (.int x)] (.int x :: st) ((T, c, s), I, L) := mWP_eq mt_L_law _ _ _ _ _
set_option maxRecDepth 100000 in
theorem e_L_law_466 {Q : mQo} {T : List mSh} {c s : Nat} {I : Nat → Nat → Int32} {L : Nat → Nat → Int64} {st : List Value} {a0 a1 a2 a3 : Option Value} : mWP tb_L_law Q 466 [a0, a1, a2, a3] st ((T, c, s), I, L) = mWP tb_L_law Q 467 [a0, a1, a2, a3] (.int 4 :: st) ((T, c, s), I, L) := mWP_eq mt_L_law _ _ _ _ _
set_option maxRecDepth 100000 in
theorem e_L_law_467 {Q : mQo} {T : List mSh} {c s : Nat} {I : Nat → Nat → Int32} {L : Nat → Nat → Int64} {st : List Value} {a0 a1 a2 a3 : Option Value} {x y : Int32} : mWP tb_L_law Q 467 [a0, a1, a2, a3] (.int y :: .int x :: st) ((T, c, s), I, L) = mWP tb_L_law Q 468 [a0, a1, a2, a3] (.int (x + y) :: st) ((T, c, s), I, L) := mWP_eq mt_L_law _ _ _ _ _
set_option maxRecDepth 100000 in
theorem e_L_law_468 {Q : mQo} {T : List mSh} {c s : Nat} {I : Nat → Nat → Int32} {L : Nat → Nat → Int64} {st : List Value} {a0 a1 a2 a3 : Option Value} {x : Nat} {y : Int32} : mWP tb_L_law Q 468 [a0, a1, a2, a3] (.int y :: .ref x :: st) ((T, c, s), I, L) = (mTg (T, c, s) x = 0 ∧ vp_in y (mLn (T, c, s) x) ∧ mWP tb_L_law Q 469 [a0, a1, a2, a3] (.int (I x y.toNatClampNeg) :: st) ((T, c, s), I, L)) := mWP_eq mt_L_law _ _ _ _ _
set_option maxRecDepth 100000 in
theorem e_L_law_469 {Q : mQo} {T : List mSh} {c s : Nat} {I : Nat → Nat → Int32} {L : Nat → Nat → Int64} {st : List Value} {a0 a1 a2 a3 : Option Value} {v0 : Int32} {v1 : Int32} {v2 : Int32} {v3 : Int32} {o : Nat} : mWP tb_L_law Q 469 [a0, a1, a2, a3] (.int v3 :: .int v2 :: .int v1 :: .int v0 :: .ref o :: st) ((T, c, s), I, L) = (mTg (T, c, s) o = 13 ∧ (st.map Value.category).sum ≤ 8 ∧ C_X10_bar [.ref o, .int v0, .int v1, .int v2, .int v3] (mZr (T, c, s), I, L) (fun r h' => h'.1 = mZr (T, c, s) ∧ mWP tb_L_law Q 472 [a0, a1, a2, a3] (r.toList ++ st) ((T, c, s), h'.2))) := (mWP_eq mt_L_law _ _ _ _ _).trans (eq_CV (Q := Q) 4 rfl)
set_option maxRecDepth 100000 in
theorem e_L_law_472 {Q : mQo} {T : List mSh} {c s : Nat} {I : Nat → Nat → Int32} {L : Nat → Nat → Int64} {st : List Value} {a0 a1 a3 : Option Value} {x : Nat} : mWP tb_L_law Q 472 [a0, a1, some (.ref x), a3] st ((T, c, s), I, L) = mWP tb_L_law Q 473 [a0, a1, some (.ref x), a3] (.ref x :: st) ((T, c, s), I, L) := mWP_eq mt_L_law _ _ _ _ _
set_option maxRecDepth 100000 in
theorem e_L_law_472n {Q : mQo} {T : List mSh} {c s : Nat} {I : Nat → Nat → Int32} {L : Nat → Nat → Int64} {st : List Value} {a0 a1 a3 : Option Value} : mWP tb_L_law Q 472 [a0, a1, some .null, a3] st ((T, c, s), I, L) = mWP tb_L_law Q 473 [a0, a1, some .null, a3] (.null :: st) ((T, c, s), I, L) := mWP_eq mt_L_law _ _ _ _ _
set_option maxRecDepth 100000 in
theorem e_L_law_473 {Q : mQo} {T : List mSh} {c s : Nat} {I : Nat → Nat → Int32} {L : Nat → Nat → Int64} {st : List Value} {a1 a2 a3 : Option Value} {x : Nat} : mWP tb_L_law Q 473 [some (.ref x), a1, a2, a3] st ((T, c, s), I, L) = mWP tb_L_law Q 474 [some (.ref x), a1, a2, a3] (.ref x :: st) ((T, c, s), I, L) := mWP_eq mt_L_law _ _ _ _ _
set_option maxRecDepth 100000 in
theorem e_L_law_473n {Q : mQo} {T : List mSh} {c s : Nat} {I : Nat → Nat → Int32} {L : Nat → Nat → Int64} {st : List Value} {a1 a2 a3 : Option Value} : mWP tb_L_law Q 473 [some .null, a1, a2, a3] st ((T, c, s), I, L) = mWP tb_L_law Q 474 [some .null, a1, a2, a3] (.null :: st) ((T, c, s), I, L) := mWP_eq mt_L_law _ _ _ _ _
set_option maxRecDepth 100000 in
theorem e_L_law_474 {Q : mQo} {T : List mSh} {c s : Nat} {I : Nat → Nat → Int32} {L : Nat → Nat → Int64} {st : List Value} {a0 a1 a2 : Option Value} {x : Int32} : mWP tb_L_law Q 474 [a0, a1, a2, some (.int x)] st ((T, c, s), I, L) = mWP tb_L_law Q 475 [a0, a1, a2, some (.int x)] (.int x :: st) ((T, c, s), I, L) := mWP_eq mt_L_law _ _ _ _ _
set_option maxRecDepth 100000 in
theorem e_L_law_475 {Q : mQo} {T : List mSh} {c s : Nat} {I : Nat → Nat → Int32} {L : Nat → Nat → Int64} {st : List Value} {a0 a1 a2 a3 : Option Value} : mWP tb_L_law Q 475 [a0, a1, a2, a3] st ((T, c, s), I, L) = mWP tb_L_law Q 476 [a0, a1, a2, a3] (.int 1 :: st) ((T, c, s), I, L) := mWP_eq mt_L_law _ _ _ _ _
set_option maxRecDepth 100000 in
theorem e_L_law_476 {Q : mQo} {T : List mSh} {c s : Nat} {I : Nat → Nat → Int32} {L : Nat → Nat → Int64} {st : List Value} {a0 a1 a2 a3 : Option Value} {x y : Int32} : mWP tb_L_law Q 476 [a0, a1, a2, a3] (.int y :: .int x :: st) ((T, c, s), I, L) = mWP tb_L_law Q 477 [a0, a1, a2, a3] (.int (x + y) :: st) ((T, c, s), I, L) := mWP_eq mt_L_law _ _ _ _ _
set_option maxRecDepth 100000 in
theorem e_L_law_477 {Q : mQo} {T : List mSh} {c s : Nat} {I : Nat → Nat → Int32} {L : Nat → Nat → Int64} {st : List Value} {a0 a1 a2 a3 : Option Value} {x : Nat} {y : Int32} : mWP tb_L_law Q 477 [a0, a1, a2, a3] (.int y :: .ref x :: st) ((T, c, s), I, L) = (mTg (T, c, s) x = 0 ∧ vp_in y (mLn (T, c, s) x) ∧ mWP tb_L_law Q 478 [a0, a1, a2, a3] (.int (I x y.toNatClampNeg) :: st) ((T, c, s), I, L)) := mWP_eq mt_L_law _ _ _ _ _
set_option maxRecDepth 100000 in
theorem e_L_law_478 {Q : mQo} {T : List mSh} {c s : Nat} {I : Nat → Nat → Int32} {L : Nat → Nat → Int64} {st : List Value} {a1 a2 a3 : Option Value} {x : Nat} : mWP tb_L_law Q 478 [some (.ref x), a1, a2, a3] st ((T, c, s), I, L) = mWP tb_L_law Q 479 [some (.ref x), a1, a2, a3] (.ref x :: st) ((T, c, s), I, L) := mWP_eq mt_L_law _ _ _ _ _
set_option maxRecDepth 100000 in
theorem e_L_law_478n {Q : mQo} {T : List mSh} {c s : Nat} {I : Nat → Nat → Int32} {L : Nat → Nat → Int64} {st : List Value} {a1 a2 a3 : Option Value} : mWP tb_L_law Q 478 [some .null, a1, a2, a3] st ((T, c, s), I, L) = mWP tb_L_law Q 479 [some .null, a1, a2, a3] (.null :: st) ((T, c, s), I, L) := mWP_eq mt_L_law _ _ _ _ _
set_option maxRecDepth 100000 in
theorem e_L_law_479 {Q : mQo} {T : List mSh} {c s : Nat} {I : Nat → Nat → Int32} {L : Nat → Nat → Int64} {st : List Value} {a0 a1 a2 : Option Value} {x : Int32} : mWP tb_L_law Q 479 [a0, a1, a2, some (.int x)] st ((T, c, s), I, L) = mWP tb_L_law Q 480 [a0, a1, a2, some (.int x)] (.int x :: st) ((T, c, s), I, L) := mWP_eq mt_L_law _ _ _ _ _
set_option maxRecDepth 100000 in
theorem e_L_law_480 {Q : mQo} {T : List mSh} {c s : Nat} {I : Nat → Nat → Int32} {L : Nat → Nat → Int64} {st : List Value} {a0 a1 a2 a3 : Option Value} : mWP tb_L_law Q 480 [a0, a1, a2, a3] st ((T, c, s), I, L) = mWP tb_L_law Q 481 [a0, a1, a2, a3] (.int 2 :: st) ((T, c, s), I, L) := mWP_eq mt_L_law _ _ _ _ _
set_option maxRecDepth 100000 in
theorem e_L_law_481 {Q : mQo} {T : List mSh} {c s : Nat} {I : Nat → Nat → Int32} {L : Nat → Nat → Int64} {st : List Value} {a0 a1 a2 a3 : Option Value} {x y : Int32} : mWP tb_L_law Q 481 [a0, a1, a2, a3] (.int y :: .int x :: st) ((T, c, s), I, L) = mWP tb_L_law Q 482 [a0, a1, a2, a3] (.int (x + y) :: st) ((T, c, s), I, L) := mWP_eq mt_L_law _ _ _ _ _
set_option maxRecDepth 100000 in
theorem e_L_law_482 {Q : mQo} {T : List mSh} {c s : Nat} {I : Nat → Nat → Int32} {L : Nat → Nat → Int64} {st : List Value} {a0 a1 a2 a3 : Option Value} {x : Nat} {y : Int32} : mWP tb_L_law Q 482 [a0, a1, a2, a3] (.int y :: .ref x :: st) ((T, c, s), I, L) = (mTg (T, c, s) x = 0 ∧ vp_in y (mLn (T, c, s) x) ∧ mWP tb_L_law Q 483 [a0, a1, a2, a3] (.int (I x y.toNatClampNeg) :: st) ((T, c, s), I, L)) := mWP_eq mt_L_law _ _ _ _ _
set_option maxRecDepth 100000 in
theorem e_L_law_483 {Q : mQo} {T : List mSh} {c s : Nat} {I : Nat → Nat → Int32} {L : Nat → Nat → Int64} {st : List Value} {a1 a2 a3 : Option Value} {x : Nat} : mWP tb_L_law Q 483 [some (.ref x), a1, a2, a3] st ((T, c, s), I, L) = mWP tb_L_law Q 484 [some (.ref x), a1, a2, a3] (.ref x :: st) ((T, c, s), I, L) := mWP_eq mt_L_law _ _ _ _ _
set_option maxRecDepth 100000 in
theorem e_L_law_483n {Q : mQo} {T : List mSh} {c s : Nat} {I : Nat → Nat → Int32} {L : Nat → Nat → Int64} {st : List Value} {a1 a2 a3 : Option Value} : mWP tb_L_law Q 483 [some .null, a1, a2, a3] st ((T, c, s), I, L) = mWP tb_L_law Q 484 [some .null, a1, a2, a3] (.null :: st) ((T, c, s), I, L) := mWP_eq mt_L_law _ _ _ _ _
set_option maxRecDepth 100000 in
theorem e_L_law_484 {Q : mQo} {T : List mSh} {c s : Nat} {I : Nat → Nat → Int32} {L : Nat → Nat → Int64} {st : List Value} {a0 a1 a2 : Option Value} {x : Int32} : mWP tb_L_law Q 484 [a0, a1, a2, some (.int x)] st ((T, c, s), I, L) = mWP tb_L_law Q 485 [a0, a1, a2, some (.int x)] (.int x :: st) ((T, c, s), I, L) := mWP_eq mt_L_law _ _ _ _ _
set_option maxRecDepth 100000 in
theorem e_L_law_485 {Q : mQo} {T : List mSh} {c s : Nat} {I : Nat → Nat → Int32} {L : Nat → Nat → Int64} {st : List Value} {a0 a1 a2 a3 : Option Value} : mWP tb_L_law Q 485 [a0, a1, a2, a3] st ((T, c, s), I, L) = mWP tb_L_law Q 486 [a0, a1, a2, a3] (.int 3 :: st) ((T, c, s), I, L) := mWP_eq mt_L_law _ _ _ _ _
set_option maxRecDepth 100000 in
theorem e_L_law_486 {Q : mQo} {T : List mSh} {c s : Nat} {I : Nat → Nat → Int32} {L : Nat → Nat → Int64} {st : List Value} {a0 a1 a2 a3 : Option Value} {x y : Int32} : mWP tb_L_law Q 486 [a0, a1, a2, a3] (.int y :: .int x :: st) ((T, c, s), I, L) = mWP tb_L_law Q 487 [a0, a1, a2, a3] (.int (x + y) :: st) ((T, c, s), I, L) := mWP_eq mt_L_law _ _ _ _ _
set_option maxRecDepth 100000 in
theorem e_L_law_487 {Q : mQo} {T : List mSh} {c s : Nat} {I : Nat → Nat → Int32} {L : Nat → Nat → Int64} {st : List Value} {a0 a1 a2 a3 : Option Value} {x : Nat} {y : Int32} : mWP tb_L_law Q 487 [a0, a1, a2, a3] (.int y :: .ref x :: st) ((T, c, s), I, L) = (mTg (T, c, s) x = 0 ∧ vp_in y (mLn (T, c, s) x) ∧ mWP tb_L_law Q 488 [a0, a1, a2, a3] (.int (I x y.toNatClampNeg) :: st) ((T, c, s), I, L)) := mWP_eq mt_L_law _ _ _ _ _
set_option maxRecDepth 100000 in
theorem e_L_law_488 {Q : mQo} {T : List mSh} {c s : Nat} {I : Nat → Nat → Int32} {L : Nat → Nat → Int64} {st : List Value} {a1 a2 a3 : Option Value} {x : Nat} : mWP tb_L_law Q 488 [some (.ref x), a1, a2, a3] st ((T, c, s), I, L) = mWP tb_L_law Q 489 [some (.ref x), a1, a2, a3] (.ref x :: st) ((T, c, s), I, L) := mWP_eq mt_L_law _ _ _ _ _
set_option maxRecDepth 100000 in
theorem e_L_law_488n {Q : mQo} {T : List mSh} {c s : Nat} {I : Nat → Nat → Int32} {L : Nat → Nat → Int64} {st : List Value} {a1 a2 a3 : Option Value} : mWP tb_L_law Q 488 [some .null, a1, a2, a3] st ((T, c, s), I, L) = mWP tb_L_law Q 489 [some .null, a1, a2, a3] (.null :: st) ((T, c, s), I, L) := mWP_eq mt_L_law _ _ _ _ _
set_option maxRecDepth 100000 in
theorem e_L_law_489 {Q : mQo} {T : List mSh} {c s : Nat} {I : Nat → Nat → Int32} {L : Nat → Nat → Int64} {st : List Value} {a0 a1 a2 : Option Value} {x : Int32} : mWP tb_L_law Q 489 [a0, a1, a2, some (.int x)] st ((T, c, s), I, L) = mWP tb_L_law Q 490 [a0, a1, a2, some (.int x)] (.int x :: st) ((T, c, s), I, L) := mWP_eq mt_L_law _ _ _ _ _
set_option maxRecDepth 100000 in
theorem e_L_law_490 {Q : mQo} {T : List mSh} {c s : Nat} {I : Nat → Nat → Int32} {L : Nat → Nat → Int64} {st : List Value} {a0 a1 a2 a3 : Option Value} : mWP tb_L_law Q 490 [a0, a1, a2, a3] st ((T, c, s), I, L) = mWP tb_L_law Q 491 [a0, a1, a2, a3] (.int 4 :: st) ((T, c, s), I, L) := mWP_eq mt_L_law _ _ _ _ _
set_option maxRecDepth 100000 in
theorem e_L_law_491 {Q : mQo} {T : List mSh} {c s : Nat} {I : Nat → Nat → Int32} {L : Nat → Nat → Int64} {st : List Value} {a0 a1 a2 a3 : Option Value} {x y : Int32} : mWP tb_L_law Q 491 [a0, a1, a2, a3] (.int y :: .int x :: st) ((T, c, s), I, L) = mWP tb_L_law Q 492 [a0, a1, a2, a3] (.int (x + y) :: st) ((T, c, s), I, L) := mWP_eq mt_L_law _ _ _ _ _
set_option maxRecDepth 100000 in
theorem e_L_law_492 {Q : mQo} {T : List mSh} {c s : Nat} {I : Nat → Nat → Int32} {L : Nat → Nat → Int64} {st : List Value} {a0 a1 a2 a3 : Option Value} {x : Nat} {y : Int32} : mWP tb_L_law Q 492 [a0, a1, a2, a3] (.int y :: .ref x :: st) ((T, c, s), I, L) = (mTg (T, c, s) x = 0 ∧ vp_in y (mLn (T, c, s) x) ∧ mWP tb_L_law Q 493 [a0, a1, a2, a3] (.int (I x y.toNatClampNeg) :: st) ((T, c, s), I, L)) := mWP_eq mt_L_law _ _ _ _ _
set_option maxRecDepth 100000 in
theorem e_L_law_493 {Q : mQo} {T : List mSh} {c s : Nat} {I : Nat → Nat → Int32} {L : Nat → Nat → Int64} {st : List Value} {a0 a1 a2 a3 : Option Value} {v0 : Int32} {v1 : Int32} {v2 : Int32} {v3 : Int32} {o : Nat} : mWP tb_L_law Q 493 [a0, a1, a2, a3] (.int v3 :: .int v2 :: .int v1 :: .int v0 :: .ref o :: st) ((T, c, s), I, L) = (mTg (T, c, s) o = 14 ∧ (st.map Value.category).sum ≤ 8 ∧ C_X11_bar [.ref o, .int v0, .int v1, .int v2, .int v3] (mZr (T, c, s), I, L) (fun r h' => h'.1 = mZr (T, c, s) ∧ mWP tb_L_law Q 496 [a0, a1, a2, a3] (r.toList ++ st) ((T, c, s), h'.2))) := (mWP_eq mt_L_law _ _ _ _ _).trans (eq_CV (Q := Q) 4 rfl)
set_option maxRecDepth 100000 in
theorem e_L_law_496 {Q : mQo} {T : List mSh} {c s : Nat} {I : Nat → Nat → Int32} {L : Nat → Nat → Int64} {st : List Value} {a0 a1 a2 a3 : Option Value} {x y : Int64} : mWP tb_L_law Q 496 [a0, a1, a2, a3] (.long y :: .long x :: st) ((T, c, s), I, L) = mWP tb_L_law Q 497 [a0, a1, a2, a3] (.int (lg_cmp x y) :: st) ((T, c, s), I, L) := mWP_eq mt_L_law _ _ _ _ _
set_option maxRecDepth 100000 in
theorem e_L_law_497 {Q : mQo} {T : List mSh} {c s : Nat} {I : Nat → Nat → Int32} {L : Nat → Nat → Int64} {st : List Value} {a0 a1 a2 a3 : Option Value} {x : Int32} : mWP tb_L_law Q 497 [a0, a1, a2, a3] (.int x :: st) ((T, c, s), I, L) = ((x = 0 → mWP tb_L_law Q 1460 [a0, a1, a2, a3] st ((T, c, s), I, L)) ∧ (¬ (x = 0) → mWP tb_L_law Q 500 [a0, a1, a2, a3] st ((T, c, s), I, L))) := mWP_eq mt_L_law _ _ _ _ _
set_option maxRecDepth 100000 in
theorem e_L_law_500 {Q : mQo} {T : List mSh} {c s : Nat} {I : Nat → Nat → Int32} {L : Nat → Nat → Int64} {st : List Value} {a0 a1 a2 a3 : Option Value} : mWP tb_L_law Q 500 [a0, a1, a2, a3] st ((T, c, s), I, L) = mWP tb_L_law Q 501 [a0, a1, a2, a3] (.int 0 :: st) ((T, c, s), I, L) := mWP_eq mt_L_law _ _ _ _ _
set_option maxRecDepth 100000 in
theorem e_L_law_501 {Q : mQo} {T : List mSh} {c s : Nat} {I : Nat → Nat → Int32} {L : Nat → Nat → Int64} {a0 a1 a2 a3 : Option Value} {x : Int32} : mWP tb_L_law Q 501 [a0, a1, a2, a3] [.int x] ((T, c, s), I, L) = ((x = 0 ∨ x = 1) ∧ Q (some (.int x)) ((T, c, s), I, L)) := mWP_eq mt_L_law _ _ _ _ _
set_option maxRecDepth 100000 in
theorem e_L_law_502 {Q : mQo} {T : List mSh} {c s : Nat} {I : Nat → Nat → Int32} {L : Nat → Nat → Int64} {st : List Value} {a0 a2 a3 : Option Value} {x : Nat} : mWP tb_L_law Q 502 [a0, some (.ref x), a2, a3] st ((T, c, s), I, L) = mWP tb_L_law Q 503 [a0, some (.ref x), a2, a3] (.ref x :: st) ((T, c, s), I, L) := mWP_eq mt_L_law _ _ _ _ _
set_option maxRecDepth 100000 in
theorem e_L_law_502n {Q : mQo} {T : List mSh} {c s : Nat} {I : Nat → Nat → Int32} {L : Nat → Nat → Int64} {st : List Value} {a0 a2 a3 : Option Value} : mWP tb_L_law Q 502 [a0, some .null, a2, a3] st ((T, c, s), I, L) = mWP tb_L_law Q 503 [a0, some .null, a2, a3] (.null :: st) ((T, c, s), I, L) := mWP_eq mt_L_law _ _ _ _ _
set_option maxRecDepth 100000 in
theorem e_L_law_503 {Q : mQo} {T : List mSh} {c s : Nat} {I : Nat → Nat → Int32} {L : Nat → Nat → Int64} {st : List Value} {a1 a2 a3 : Option Value} {x : Nat} : mWP tb_L_law Q 503 [some (.ref x), a1, a2, a3] st ((T, c, s), I, L) = mWP tb_L_law Q 504 [some (.ref x), a1, a2, a3] (.ref x :: st) ((T, c, s), I, L) := mWP_eq mt_L_law _ _ _ _ _
set_option maxRecDepth 100000 in
theorem e_L_law_503n {Q : mQo} {T : List mSh} {c s : Nat} {I : Nat → Nat → Int32} {L : Nat → Nat → Int64} {st : List Value} {a1 a2 a3 : Option Value} : mWP tb_L_law Q 503 [some .null, a1, a2, a3] st ((T, c, s), I, L) = mWP tb_L_law Q 504 [some .null, a1, a2, a3] (.null :: st) ((T, c, s), I, L) := mWP_eq mt_L_law _ _ _ _ _
set_option maxRecDepth 100000 in
theorem e_L_law_504 {Q : mQo} {T : List mSh} {c s : Nat} {I : Nat → Nat → Int32} {L : Nat → Nat → Int64} {st : List Value} {a0 a1 a2 : Option Value} {x : Int32} : mWP tb_L_law Q 504 [a0, a1, a2, some (.int x)] st ((T, c, s), I, L) = mWP tb_L_law Q 505 [a0, a1, a2, some (.int x)] (.int x :: st) ((T, c, s), I, L) := mWP_eq mt_L_law _ _ _ _ _
set_option maxRecDepth 100000 in
theorem e_L_law_505 {Q : mQo} {T : List mSh} {c s : Nat} {I : Nat → Nat → Int32} {L : Nat → Nat → Int64} {st : List Value} {a0 a1 a2 a3 : Option Value} : mWP tb_L_law Q 505 [a0, a1, a2, a3] st ((T, c, s), I, L) = mWP tb_L_law Q 506 [a0, a1, a2, a3] (.int 1 :: st) ((T, c, s), I, L) := mWP_eq mt_L_law _ _ _ _ _
set_option maxRecDepth 100000 in
theorem e_L_law_506 {Q : mQo} {T : List mSh} {c s : Nat} {I : Nat → Nat → Int32} {L : Nat → Nat → Int64} {st : List Value} {a0 a1 a2 a3 : Option Value} {x y : Int32} : mWP tb_L_law Q 506 [a0, a1, a2, a3] (.int y :: .int x :: st) ((T, c, s), I, L) = mWP tb_L_law Q 507 [a0, a1, a2, a3] (.int (x + y) :: st) ((T, c, s), I, L) := mWP_eq mt_L_law _ _ _ _ _
set_option maxRecDepth 100000 in
theorem e_L_law_507 {Q : mQo} {T : List mSh} {c s : Nat} {I : Nat → Nat → Int32} {L : Nat → Nat → Int64} {st : List Value} {a0 a1 a2 a3 : Option Value} {x : Nat} {y : Int32} : mWP tb_L_law Q 507 [a0, a1, a2, a3] (.int y :: .ref x :: st) ((T, c, s), I, L) = (mTg (T, c, s) x = 0 ∧ vp_in y (mLn (T, c, s) x) ∧ mWP tb_L_law Q 508 [a0, a1, a2, a3] (.int (I x y.toNatClampNeg) :: st) ((T, c, s), I, L)) := mWP_eq mt_L_law _ _ _ _ _
set_option maxRecDepth 100000 in
theorem e_L_law_508 {Q : mQo} {T : List mSh} {c s : Nat} {I : Nat → Nat → Int32} {L : Nat → Nat → Int64} {st : List Value} {a1 a2 a3 : Option Value} {x : Nat} : mWP tb_L_law Q 508 [some (.ref x), a1, a2, a3] st ((T, c, s), I, L) = mWP tb_L_law Q 509 [some (.ref x), a1, a2, a3] (.ref x :: st) ((T, c, s), I, L) := mWP_eq mt_L_law _ _ _ _ _
set_option maxRecDepth 100000 in
theorem e_L_law_508n {Q : mQo} {T : List mSh} {c s : Nat} {I : Nat → Nat → Int32} {L : Nat → Nat → Int64} {st : List Value} {a1 a2 a3 : Option Value} : mWP tb_L_law Q 508 [some .null, a1, a2, a3] st ((T, c, s), I, L) = mWP tb_L_law Q 509 [some .null, a1, a2, a3] (.null :: st) ((T, c, s), I, L) := mWP_eq mt_L_law _ _ _ _ _
set_option maxRecDepth 100000 in
theorem e_L_law_509 {Q : mQo} {T : List mSh} {c s : Nat} {I : Nat → Nat → Int32} {L : Nat → Nat → Int64} {st : List Value} {a0 a1 a2 : Option Value} {x : Int32} : mWP tb_L_law Q 509 [a0, a1, a2, some (.int x)] st ((T, c, s), I, L) = mWP tb_L_law Q 510 [a0, a1, a2, some (.int x)] (.int x :: st) ((T, c, s), I, L) := mWP_eq mt_L_law _ _ _ _ _
set_option maxRecDepth 100000 in
theorem e_L_law_510 {Q : mQo} {T : List mSh} {c s : Nat} {I : Nat → Nat → Int32} {L : Nat → Nat → Int64} {st : List Value} {a0 a1 a2 a3 : Option Value} : mWP tb_L_law Q 510 [a0, a1, a2, a3] st ((T, c, s), I, L) = mWP tb_L_law Q 511 [a0, a1, a2, a3] (.int 2 :: st) ((T, c, s), I, L) := mWP_eq mt_L_law _ _ _ _ _
set_option maxRecDepth 100000 in
theorem e_L_law_511 {Q : mQo} {T : List mSh} {c s : Nat} {I : Nat → Nat → Int32} {L : Nat → Nat → Int64} {st : List Value} {a0 a1 a2 a3 : Option Value} {x y : Int32} : mWP tb_L_law Q 511 [a0, a1, a2, a3] (.int y :: .int x :: st) ((T, c, s), I, L) = mWP tb_L_law Q 512 [a0, a1, a2, a3] (.int (x + y) :: st) ((T, c, s), I, L) := mWP_eq mt_L_law _ _ _ _ _
set_option maxRecDepth 100000 in
theorem e_L_law_512 {Q : mQo} {T : List mSh} {c s : Nat} {I : Nat → Nat → Int32} {L : Nat → Nat → Int64} {st : List Value} {a0 a1 a2 a3 : Option Value} {x : Nat} {y : Int32} : mWP tb_L_law Q 512 [a0, a1, a2, a3] (.int y :: .ref x :: st) ((T, c, s), I, L) = (mTg (T, c, s) x = 0 ∧ vp_in y (mLn (T, c, s) x) ∧ mWP tb_L_law Q 513 [a0, a1, a2, a3] (.int (I x y.toNatClampNeg) :: st) ((T, c, s), I, L)) := mWP_eq mt_L_law _ _ _ _ _
set_option maxRecDepth 100000 in
theorem e_L_law_513 {Q : mQo} {T : List mSh} {c s : Nat} {I : Nat → Nat → Int32} {L : Nat → Nat → Int64} {st : List Value} {a1 a2 a3 : Option Value} {x : Nat} : mWP tb_L_law Q 513 [some (.ref x), a1, a2, a3] st ((T, c, s), I, L) = mWP tb_L_law Q 514 [some (.ref x), a1, a2, a3] (.ref x :: st) ((T, c, s), I, L) := mWP_eq mt_L_law _ _ _ _ _
set_option maxRecDepth 100000 in
theorem e_L_law_513n {Q : mQo} {T : List mSh} {c s : Nat} {I : Nat → Nat → Int32} {L : Nat → Nat → Int64} {st : List Value} {a1 a2 a3 : Option Value} : mWP tb_L_law Q 513 [some .null, a1, a2, a3] st ((T, c, s), I, L) = mWP tb_L_law Q 514 [some .null, a1, a2, a3] (.null :: st) ((T, c, s), I, L) := mWP_eq mt_L_law _ _ _ _ _
set_option maxRecDepth 100000 in
theorem e_L_law_514 {Q : mQo} {T : List mSh} {c s : Nat} {I : Nat → Nat → Int32} {L : Nat → Nat → Int64} {st : List Value} {a0 a1 a2 : Option Value} {x : Int32} : mWP tb_L_law Q 514 [a0, a1, a2, some (.int x)] st ((T, c, s), I, L) = mWP tb_L_law Q 515 [a0, a1, a2, some (.int x)] (.int x :: st) ((T, c, s), I, L) := mWP_eq mt_L_law _ _ _ _ _
set_option maxRecDepth 100000 in
theorem e_L_law_515 {Q : mQo} {T : List mSh} {c s : Nat} {I : Nat → Nat → Int32} {L : Nat → Nat → Int64} {st : List Value} {a0 a1 a2 a3 : Option Value} : mWP tb_L_law Q 515 [a0, a1, a2, a3] st ((T, c, s), I, L) = mWP tb_L_law Q 516 [a0, a1, a2, a3] (.int 3 :: st) ((T, c, s), I, L) := mWP_eq mt_L_law _ _ _ _ _
set_option maxRecDepth 100000 in
theorem e_L_law_516 {Q : mQo} {T : List mSh} {c s : Nat} {I : Nat → Nat → Int32} {L : Nat → Nat → Int64} {st : List Value} {a0 a1 a2 a3 : Option Value} {x y : Int32} : mWP tb_L_law Q 516 [a0, a1, a2, a3] (.int y :: .int x :: st) ((T, c, s), I, L) = mWP tb_L_law Q 517 [a0, a1, a2, a3] (.int (x + y) :: st) ((T, c, s), I, L) := mWP_eq mt_L_law _ _ _ _ _
set_option maxRecDepth 100000 in
theorem e_L_law_517 {Q : mQo} {T : List mSh} {c s : Nat} {I : Nat → Nat → Int32} {L : Nat → Nat → Int64} {st : List Value} {a0 a1 a2 a3 : Option Value} {x : Nat} {y : Int32} : mWP tb_L_law Q 517 [a0, a1, a2, a3] (.int y :: .ref x :: st) ((T, c, s), I, L) = (mTg (T, c, s) x = 0 ∧ vp_in y (mLn (T, c, s) x) ∧ mWP tb_L_law Q 518 [a0, a1, a2, a3] (.int (I x y.toNatClampNeg) :: st) ((T, c, s), I, L)) := mWP_eq mt_L_law _ _ _ _ _
set_option maxRecDepth 100000 in
theorem e_L_law_518 {Q : mQo} {T : List mSh} {c s : Nat} {I : Nat → Nat → Int32} {L : Nat → Nat → Int64} {st : List Value} {a0 a1 a2 a3 : Option Value} {v0 : Int32} {v1 : Int32} {v2 : Int32} {o : Nat} : mWP tb_L_law Q 518 [a0, a1, a2, a3] (.int v2 :: .int v1 :: .int v0 :: .ref o :: st) ((T, c, s), I, L) = (mTg (T, c, s) o = 13 ∧ (st.map Value.category).sum ≤ 8 ∧ C_X10_bend [.ref o, .int v0, .int v1, .int v2] (mZr (T, c, s), I, L) (fun r h' => h'.1 = mZr (T, c, s) ∧ mWP tb_L_law Q 521 [a0, a1, a2, a3] (r.toList ++ st) ((T, c, s), h'.2))) := (mWP_eq mt_L_law _ _ _ _ _).trans (eq_CV (Q := Q) 3 rfl)
set_option maxRecDepth 100000 in
theorem e_L_law_521 {Q : mQo} {T : List mSh} {c s : Nat} {I : Nat → Nat → Int32} {L : Nat → Nat → Int64} {st : List Value} {a0 a1 a3 : Option Value} {x : Nat} : mWP tb_L_law Q 521 [a0, a1, some (.ref x), a3] st ((T, c, s), I, L) = mWP tb_L_law Q 522 [a0, a1, some (.ref x), a3] (.ref x :: st) ((T, c, s), I, L) := mWP_eq mt_L_law _ _ _ _ _
set_option maxRecDepth 100000 in
theorem e_L_law_521n {Q : mQo} {T : List mSh} {c s : Nat} {I : Nat → Nat → Int32} {L : Nat → Nat → Int64} {st : List Value} {a0 a1 a3 : Option Value} : mWP tb_L_law Q 521 [a0, a1, some .null, a3] st ((T, c, s), I, L) = mWP tb_L_law Q 522 [a0, a1, some .null, a3] (.null :: st) ((T, c, s), I, L) := mWP_eq mt_L_law _ _ _ _ _
set_option maxRecDepth 100000 in
theorem e_L_law_522 {Q : mQo} {T : List mSh} {c s : Nat} {I : Nat → Nat → Int32} {L : Nat → Nat → Int64} {st : List Value} {a1 a2 a3 : Option Value} {x : Nat} : mWP tb_L_law Q 522 [some (.ref x), a1, a2, a3] st ((T, c, s), I, L) = mWP tb_L_law Q 523 [some (.ref x), a1, a2, a3] (.ref x :: st) ((T, c, s), I, L) := mWP_eq mt_L_law _ _ _ _ _
set_option maxRecDepth 100000 in
theorem e_L_law_522n {Q : mQo} {T : List mSh} {c s : Nat} {I : Nat → Nat → Int32} {L : Nat → Nat → Int64} {st : List Value} {a1 a2 a3 : Option Value} : mWP tb_L_law Q 522 [some .null, a1, a2, a3] st ((T, c, s), I, L) = mWP tb_L_law Q 523 [some .null, a1, a2, a3] (.null :: st) ((T, c, s), I, L) := mWP_eq mt_L_law _ _ _ _ _
set_option maxRecDepth 100000 in
theorem e_L_law_523 {Q : mQo} {T : List mSh} {c s : Nat} {I : Nat → Nat → Int32} {L : Nat → Nat → Int64} {st : List Value} {a0 a1 a2 : Option Value} {x : Int32} : mWP tb_L_law Q 523 [a0, a1, a2, some (.int x)] st ((T, c, s), I, L) = mWP tb_L_law Q 524 [a0, a1, a2, some (.int x)] (.int x :: st) ((T, c, s), I, L) := mWP_eq mt_L_law _ _ _ _ _
set_option maxRecDepth 100000 in
theorem e_L_law_524 {Q : mQo} {T : List mSh} {c s : Nat} {I : Nat → Nat → Int32} {L : Nat → Nat → Int64} {st : List Value} {a0 a1 a2 a3 : Option Value} : mWP tb_L_law Q 524 [a0, a1, a2, a3] st ((T, c, s), I, L) = mWP tb_L_law Q 525 [a0, a1, a2, a3] (.int 1 :: st) ((T, c, s), I, L) := mWP_eq mt_L_law _ _ _ _ _
set_option maxRecDepth 100000 in
theorem e_L_law_525 {Q : mQo} {T : List mSh} {c s : Nat} {I : Nat → Nat → Int32} {L : Nat → Nat → Int64} {st : List Value} {a0 a1 a2 a3 : Option Value} {x y : Int32} : mWP tb_L_law Q 525 [a0, a1, a2, a3] (.int y :: .int x :: st) ((T, c, s), I, L) = mWP tb_L_law Q 526 [a0, a1, a2, a3] (.int (x + y) :: st) ((T, c, s), I, L) := mWP_eq mt_L_law _ _ _ _ _
set_option maxRecDepth 100000 in
theorem e_L_law_526 {Q : mQo} {T : List mSh} {c s : Nat} {I : Nat → Nat → Int32} {L : Nat → Nat → Int64} {st : List Value} {a0 a1 a2 a3 : Option Value} {x : Nat} {y : Int32} : mWP tb_L_law Q 526 [a0, a1, a2, a3] (.int y :: .ref x :: st) ((T, c, s), I, L) = (mTg (T, c, s) x = 0 ∧ vp_in y (mLn (T, c, s) x) ∧ mWP tb_L_law Q 527 [a0, a1, a2, a3] (.int (I x y.toNatClampNeg) :: st) ((T, c, s), I, L)) := mWP_eq mt_L_law _ _ _ _ _
set_option maxRecDepth 100000 in
theorem e_L_law_527 {Q : mQo} {T : List mSh} {c s : Nat} {I : Nat → Nat → Int32} {L : Nat → Nat → Int64} {st : List Value} {a1 a2 a3 : Option Value} {x : Nat} : mWP tb_L_law Q 527 [some (.ref x), a1, a2, a3] st ((T, c, s), I, L) = mWP tb_L_law Q 528 [some (.ref x), a1, a2, a3] (.ref x :: st) ((T, c, s), I, L) := mWP_eq mt_L_law _ _ _ _ _
set_option maxRecDepth 100000 in
theorem e_L_law_527n {Q : mQo} {T : List mSh} {c s : Nat} {I : Nat → Nat → Int32} {L : Nat → Nat → Int64} {st : List Value} {a1 a2 a3 : Option Value} : mWP tb_L_law Q 527 [some .null, a1, a2, a3] st ((T, c, s), I, L) = mWP tb_L_law Q 528 [some .null, a1, a2, a3] (.null :: st) ((T, c, s), I, L) := mWP_eq mt_L_law _ _ _ _ _
set_option maxRecDepth 100000 in
theorem e_L_law_528 {Q : mQo} {T : List mSh} {c s : Nat} {I : Nat → Nat → Int32} {L : Nat → Nat → Int64} {st : List Value} {a0 a1 a2 : Option Value} {x : Int32} : mWP tb_L_law Q 528 [a0, a1, a2, some (.int x)] st ((T, c, s), I, L) = mWP tb_L_law Q 529 [a0, a1, a2, some (.int x)] (.int x :: st) ((T, c, s), I, L) := mWP_eq mt_L_law _ _ _ _ _
set_option maxRecDepth 100000 in
theorem e_L_law_529 {Q : mQo} {T : List mSh} {c s : Nat} {I : Nat → Nat → Int32} {L : Nat → Nat → Int64} {st : List Value} {a0 a1 a2 a3 : Option Value} : mWP tb_L_law Q 529 [a0, a1, a2, a3] st ((T, c, s), I, L) = mWP tb_L_law Q 530 [a0, a1, a2, a3] (.int 2 :: st) ((T, c, s), I, L) := mWP_eq mt_L_law _ _ _ _ _
set_option maxRecDepth 100000 in
theorem e_L_law_530 {Q : mQo} {T : List mSh} {c s : Nat} {I : Nat → Nat → Int32} {L : Nat → Nat → Int64} {st : List Value} {a0 a1 a2 a3 : Option Value} {x y : Int32} : mWP tb_L_law Q 530 [a0, a1, a2, a3] (.int y :: .int x :: st) ((T, c, s), I, L) = mWP tb_L_law Q 531 [a0, a1, a2, a3] (.int (x + y) :: st) ((T, c, s), I, L) := mWP_eq mt_L_law _ _ _ _ _
set_option maxRecDepth 100000 in
theorem e_L_law_531 {Q : mQo} {T : List mSh} {c s : Nat} {I : Nat → Nat → Int32} {L : Nat → Nat → Int64} {st : List Value} {a0 a1 a2 a3 : Option Value} {x : Nat} {y : Int32} : mWP tb_L_law Q 531 [a0, a1, a2, a3] (.int y :: .ref x :: st) ((T, c, s), I, L) = (mTg (T, c, s) x = 0 ∧ vp_in y (mLn (T, c, s) x) ∧ mWP tb_L_law Q 532 [a0, a1, a2, a3] (.int (I x y.toNatClampNeg) :: st) ((T, c, s), I, L)) := mWP_eq mt_L_law _ _ _ _ _
set_option maxRecDepth 100000 in
theorem e_L_law_532 {Q : mQo} {T : List mSh} {c s : Nat} {I : Nat → Nat → Int32} {L : Nat → Nat → Int64} {st : List Value} {a1 a2 a3 : Option Value} {x : Nat} : mWP tb_L_law Q 532 [some (.ref x), a1, a2, a3] st ((T, c, s), I, L) = mWP tb_L_law Q 533 [some (.ref x), a1, a2, a3] (.ref x :: st) ((T, c, s), I, L) := mWP_eq mt_L_law _ _ _ _ _
set_option maxRecDepth 100000 in
theorem e_L_law_532n {Q : mQo} {T : List mSh} {c s : Nat} {I : Nat → Nat → Int32} {L : Nat → Nat → Int64} {st : List Value} {a1 a2 a3 : Option Value} : mWP tb_L_law Q 532 [some .null, a1, a2, a3] st ((T, c, s), I, L) = mWP tb_L_law Q 533 [some .null, a1, a2, a3] (.null :: st) ((T, c, s), I, L) := mWP_eq mt_L_law _ _ _ _ _
set_option maxRecDepth 100000 in
theorem e_L_law_533 {Q : mQo} {T : List mSh} {c s : Nat} {I : Nat → Nat → Int32} {L : Nat → Nat → Int64} {st : List Value} {a0 a1 a2 : Option Value} {x : Int32} : mWP tb_L_law Q 533 [a0, a1, a2, some (.int x)] st ((T, c, s), I, L) = mWP tb_L_law Q 534 [a0, a1, a2, some (.int x)] (.int x :: st) ((T, c, s), I, L) := mWP_eq mt_L_law _ _ _ _ _
set_option maxRecDepth 100000 in
theorem e_L_law_534 {Q : mQo} {T : List mSh} {c s : Nat} {I : Nat → Nat → Int32} {L : Nat → Nat → Int64} {st : List Value} {a0 a1 a2 a3 : Option Value} : mWP tb_L_law Q 534 [a0, a1, a2, a3] st ((T, c, s), I, L) = mWP tb_L_law Q 535 [a0, a1, a2, a3] (.int 3 :: st) ((T, c, s), I, L) := mWP_eq mt_L_law _ _ _ _ _
set_option maxRecDepth 100000 in
theorem e_L_law_535 {Q : mQo} {T : List mSh} {c s : Nat} {I : Nat → Nat → Int32} {L : Nat → Nat → Int64} {st : List Value} {a0 a1 a2 a3 : Option Value} {x y : Int32} : mWP tb_L_law Q 535 [a0, a1, a2, a3] (.int y :: .int x :: st) ((T, c, s), I, L) = mWP tb_L_law Q 536 [a0, a1, a2, a3] (.int (x + y) :: st) ((T, c, s), I, L) := mWP_eq mt_L_law _ _ _ _ _
set_option maxRecDepth 100000 in
theorem e_L_law_536 {Q : mQo} {T : List mSh} {c s : Nat} {I : Nat → Nat → Int32} {L : Nat → Nat → Int64} {st : List Value} {a0 a1 a2 a3 : Option Value} {x : Nat} {y : Int32} : mWP tb_L_law Q 536 [a0, a1, a2, a3] (.int y :: .ref x :: st) ((T, c, s), I, L) = (mTg (T, c, s) x = 0 ∧ vp_in y (mLn (T, c, s) x) ∧ mWP tb_L_law Q 537 [a0, a1, a2, a3] (.int (I x y.toNatClampNeg) :: st) ((T, c, s), I, L)) := mWP_eq mt_L_law _ _ _ _ _
set_option maxRecDepth 100000 in
theorem e_L_law_537 {Q : mQo} {T : List mSh} {c s : Nat} {I : Nat → Nat → Int32} {L : Nat → Nat → Int64} {st : List Value} {a0 a1 a2 a3 : Option Value} {v0 : Int32} {v1 : Int32} {v2 : Int32} {o : Nat} : mWP tb_L_law Q 537 [a0, a1, a2, a3] (.int v2 :: .int v1 :: .int v0 :: .ref o :: st) ((T, c, s), I, L) = (mTg (T, c, s) o = 14 ∧ (st.map Value.category).sum ≤ 8 ∧ C_X11_bend [.ref o, .int v0, .int v1, .int v2] (mZr (T, c, s), I, L) (fun r h' => h'.1 = mZr (T, c, s) ∧ mWP tb_L_law Q 540 [a0, a1, a2, a3] (r.toList ++ st) ((T, c, s), h'.2))) := (mWP_eq mt_L_law _ _ _ _ _).trans (eq_CV (Q := Q) 3 rfl)
set_option maxRecDepth 100000 in
theorem e_L_law_540 {Q : mQo} {T : List mSh} {c s : Nat} {I : Nat → Nat → Int32} {L : Nat → Nat → Int64} {st : List Value} {a0 a1 a2 a3 : Option Value} {x y : Int64} : mWP tb_L_law Q 540 [a0, a1, a2, a3] (.long y :: .long x :: st) ((T, c, s), I, L) = mWP tb_L_law Q 541 [a0, a1, a2, a3] (.int (lg_cmp x y) :: st) ((T, c, s), I, L) := mWP_eq mt_L_law _ _ _ _ _
set_option maxRecDepth 100000 in
theorem e_L_law_541 {Q : mQo} {T : List mSh} {c s : Nat} {I : Nat → Nat → Int32} {L : Nat → Nat → Int64} {st : List Value} {a0 a1 a2 a3 : Option Value} {x : Int32} : mWP tb_L_law Q 541 [a0, a1, a2, a3] (.int x :: st) ((T, c, s), I, L) = ((x = 0 → mWP tb_L_law Q 1460 [a0, a1, a2, a3] st ((T, c, s), I, L)) ∧ (¬ (x = 0) → mWP tb_L_law Q 544 [a0, a1, a2, a3] st ((T, c, s), I, L))) := mWP_eq mt_L_law _ _ _ _ _
set_option maxRecDepth 100000 in
theorem e_L_law_544 {Q : mQo} {T : List mSh} {c s : Nat} {I : Nat → Nat → Int32} {L : Nat → Nat → Int64} {st : List Value} {a0 a1 a2 a3 : Option Value} : mWP tb_L_law Q 544 [a0, a1, a2, a3] st ((T, c, s), I, L) = mWP tb_L_law Q 545 [a0, a1, a2, a3] (.int 0 :: st) ((T, c, s), I, L) := mWP_eq mt_L_law _ _ _ _ _
set_option maxRecDepth 100000 in
theorem e_L_law_545 {Q : mQo} {T : List mSh} {c s : Nat} {I : Nat → Nat → Int32} {L : Nat → Nat → Int64} {a0 a1 a2 a3 : Option Value} {x : Int32} : mWP tb_L_law Q 545 [a0, a1, a2, a3] [.int x] ((T, c, s), I, L) = ((x = 0 ∨ x = 1) ∧ Q (some (.int x)) ((T, c, s), I, L)) := mWP_eq mt_L_law _ _ _ _ _
set_option maxRecDepth 100000 in
theorem e_L_law_546 {Q : mQo} {T : List mSh} {c s : Nat} {I : Nat → Nat → Int32} {L : Nat → Nat → Int64} {st : List Value} {a0 a2 a3 : Option Value} {x : Nat} : mWP tb_L_law Q 546 [a0, some (.ref x), a2, a3] st ((T, c, s), I, L) = mWP tb_L_law Q 547 [a0, some (.ref x), a2, a3] (.ref x :: st) ((T, c, s), I, L) := mWP_eq mt_L_law _ _ _ _ _
set_option maxRecDepth 100000 in
theorem e_L_law_546n {Q : mQo} {T : List mSh} {c s : Nat} {I : Nat → Nat → Int32} {L : Nat → Nat → Int64} {st : List Value} {a0 a2 a3 : Option Value} : mWP tb_L_law Q 546 [a0, some .null, a2, a3] st ((T, c, s), I, L) = mWP tb_L_law Q 547 [a0, some .null, a2, a3] (.null :: st) ((T, c, s), I, L) := mWP_eq mt_L_law _ _ _ _ _
set_option maxRecDepth 100000 in
theorem e_L_law_547 {Q : mQo} {T : List mSh} {c s : Nat} {I : Nat → Nat → Int32} {L : Nat → Nat → Int64} {st : List Value} {a1 a2 a3 : Option Value} {x : Nat} : mWP tb_L_law Q 547 [some (.ref x), a1, a2, a3] st ((T, c, s), I, L) = mWP tb_L_law Q 548 [some (.ref x), a1, a2, a3] (.ref x :: st) ((T, c, s), I, L) := mWP_eq mt_L_law _ _ _ _ _
set_option maxRecDepth 100000 in
theorem e_L_law_547n {Q : mQo} {T : List mSh} {c s : Nat} {I : Nat → Nat → Int32} {L : Nat → Nat → Int64} {st : List Value} {a1 a2 a3 : Option Value} : mWP tb_L_law Q 547 [some .null, a1, a2, a3] st ((T, c, s), I, L) = mWP tb_L_law Q 548 [some .null, a1, a2, a3] (.null :: st) ((T, c, s), I, L) := mWP_eq mt_L_law _ _ _ _ _
set_option maxRecDepth 100000 in
theorem e_L_law_548 {Q : mQo} {T : List mSh} {c s : Nat} {I : Nat → Nat → Int32} {L : Nat → Nat → Int64} {st : List Value} {a0 a1 a2 : Option Value} {x : Int32} : mWP tb_L_law Q 548 [a0, a1, a2, some (.int x)] st ((T, c, s), I, L) = mWP tb_L_law Q 549 [a0, a1, a2, some (.int x)] (.int x :: st) ((T, c, s), I, L) := mWP_eq mt_L_law _ _ _ _ _
set_option maxRecDepth 100000 in
theorem e_L_law_549 {Q : mQo} {T : List mSh} {c s : Nat} {I : Nat → Nat → Int32} {L : Nat → Nat → Int64} {st : List Value} {a0 a1 a2 a3 : Option Value} : mWP tb_L_law Q 549 [a0, a1, a2, a3] st ((T, c, s), I, L) = mWP tb_L_law Q 550 [a0, a1, a2, a3] (.int 1 :: st) ((T, c, s), I, L) := mWP_eq mt_L_law _ _ _ _ _
set_option maxRecDepth 100000 in
theorem e_L_law_550 {Q : mQo} {T : List mSh} {c s : Nat} {I : Nat → Nat → Int32} {L : Nat → Nat → Int64} {st : List Value} {a0 a1 a2 a3 : Option Value} {x y : Int32} : mWP tb_L_law Q 550 [a0, a1, a2, a3] (.int y :: .int x :: st) ((T, c, s), I, L) = mWP tb_L_law Q 551 [a0, a1, a2, a3] (.int (x + y) :: st) ((T, c, s), I, L) := mWP_eq mt_L_law _ _ _ _ _
set_option maxRecDepth 100000 in
theorem e_L_law_551 {Q : mQo} {T : List mSh} {c s : Nat} {I : Nat → Nat → Int32} {L : Nat → Nat → Int64} {st : List Value} {a0 a1 a2 a3 : Option Value} {x : Nat} {y : Int32} : mWP tb_L_law Q 551 [a0, a1, a2, a3] (.int y :: .ref x :: st) ((T, c, s), I, L) = (mTg (T, c, s) x = 0 ∧ vp_in y (mLn (T, c, s) x) ∧ mWP tb_L_law Q 552 [a0, a1, a2, a3] (.int (I x y.toNatClampNeg) :: st) ((T, c, s), I, L)) := mWP_eq mt_L_law _ _ _ _ _
set_option maxRecDepth 100000 in
theorem e_L_law_552 {Q : mQo} {T : List mSh} {c s : Nat} {I : Nat → Nat → Int32} {L : Nat → Nat → Int64} {st : List Value} {a1 a2 a3 : Option Value} {x : Nat} : mWP tb_L_law Q 552 [some (.ref x), a1, a2, a3] st ((T, c, s), I, L) = mWP tb_L_law Q 553 [some (.ref x), a1, a2, a3] (.ref x :: st) ((T, c, s), I, L) := mWP_eq mt_L_law _ _ _ _ _
set_option maxRecDepth 100000 in
theorem e_L_law_552n {Q : mQo} {T : List mSh} {c s : Nat} {I : Nat → Nat → Int32} {L : Nat → Nat → Int64} {st : List Value} {a1 a2 a3 : Option Value} : mWP tb_L_law Q 552 [some .null, a1, a2, a3] st ((T, c, s), I, L) = mWP tb_L_law Q 553 [some .null, a1, a2, a3] (.null :: st) ((T, c, s), I, L) := mWP_eq mt_L_law _ _ _ _ _
set_option maxRecDepth 100000 in
theorem e_L_law_553 {Q : mQo} {T : List mSh} {c s : Nat} {I : Nat → Nat → Int32} {L : Nat → Nat → Int64} {st : List Value} {a0 a1 a2 : Option Value} {x : Int32} : mWP tb_L_law Q 553 [a0, a1, a2, some (.int x)] st ((T, c, s), I, L) = mWP tb_L_law Q 554 [a0, a1, a2, some (.int x)] (.int x :: st) ((T, c, s), I, L) := mWP_eq mt_L_law _ _ _ _ _
set_option maxRecDepth 100000 in
theorem e_L_law_554 {Q : mQo} {T : List mSh} {c s : Nat} {I : Nat → Nat → Int32} {L : Nat → Nat → Int64} {st : List Value} {a0 a1 a2 a3 : Option Value} : mWP tb_L_law Q 554 [a0, a1, a2, a3] st ((T, c, s), I, L) = mWP tb_L_law Q 555 [a0, a1, a2, a3] (.int 2 :: st) ((T, c, s), I, L) := mWP_eq mt_L_law _ _ _ _ _
set_option maxRecDepth 100000 in
theorem e_L_law_555 {Q : mQo} {T : List mSh} {c s : Nat} {I : Nat → Nat → Int32} {L : Nat → Nat → Int64} {st : List Value} {a0 a1 a2 a3 : Option Value} {x y : Int32} : mWP tb_L_law Q 555 [a0, a1, a2, a3] (.int y :: .int x :: st) ((T, c, s), I, L) = mWP tb_L_law Q 556 [a0, a1, a2, a3] (.int (x + y) :: st) ((T, c, s), I, L) := mWP_eq mt_L_law _ _ _ _ _
set_option maxRecDepth 100000 in
theorem e_L_law_556 {Q : mQo} {T : List mSh} {c s : Nat} {I : Nat → Nat → Int32} {L : Nat → Nat → Int64} {st : List Value} {a0 a1 a2 a3 : Option Value} {x : Nat} {y : Int32} : mWP tb_L_law Q 556 [a0, a1, a2, a3] (.int y :: .ref x :: st) ((T, c, s), I, L) = (mTg (T, c, s) x = 0 ∧ vp_in y (mLn (T, c, s) x) ∧ mWP tb_L_law Q 557 [a0, a1, a2, a3] (.int (I x y.toNatClampNeg) :: st) ((T, c, s), I, L)) := mWP_eq mt_L_law _ _ _ _ _
set_option maxRecDepth 100000 in
theorem e_L_law_557 {Q : mQo} {T : List mSh} {c s : Nat} {I : Nat → Nat → Int32} {L : Nat → Nat → Int64} {st : List Value} {a0 a1 a2 a3 : Option Value} {v0 : Int32} {v1 : Int32} {o : Nat} : mWP tb_L_law Q 557 [a0, a1, a2, a3] (.int v1 :: .int v0 :: .ref o :: st) ((T, c, s), I, L) = (mTg (T, c, s) o = 13 ∧ (st.map Value.category).sum ≤ 8 ∧ C_X10_hand [.ref o, .int v0, .int v1] (mZr (T, c, s), I, L) (fun r h' => h'.1 = mZr (T, c, s) ∧ mWP tb_L_law Q 560 [a0, a1, a2, a3] (r.toList ++ st) ((T, c, s), h'.2))) := (mWP_eq mt_L_law _ _ _ _ _).trans (eq_CV (Q := Q) 2 rfl)
set_option maxRecDepth 100000 in
theorem e_L_law_560 {Q : mQo} {T : List mSh} {c s : Nat} {I : Nat → Nat → Int32} {L : Nat → Nat → Int64} {st : List Value} {a0 a1 a3 : Option Value} {x : Nat} : mWP tb_L_law Q 560 [a0, a1, some (.ref x), a3] st ((T, c, s), I, L) = mWP tb_L_law Q 561 [a0, a1, some (.ref x), a3] (.ref x :: st) ((T, c, s), I, L) := mWP_eq mt_L_law _ _ _ _ _
set_option maxRecDepth 100000 in
theorem e_L_law_560n {Q : mQo} {T : List mSh} {c s : Nat} {I : Nat → Nat → Int32} {L : Nat → Nat → Int64} {st : List Value} {a0 a1 a3 : Option Value} : mWP tb_L_law Q 560 [a0, a1, some .null, a3] st ((T, c, s), I, L) = mWP tb_L_law Q 561 [a0, a1, some .null, a3] (.null :: st) ((T, c, s), I, L) := mWP_eq mt_L_law _ _ _ _ _
set_option maxRecDepth 100000 in
theorem e_L_law_561 {Q : mQo} {T : List mSh} {c s : Nat} {I : Nat → Nat → Int32} {L : Nat → Nat → Int64} {st : List Value} {a1 a2 a3 : Option Value} {x : Nat} : mWP tb_L_law Q 561 [some (.ref x), a1, a2, a3] st ((T, c, s), I, L) = mWP tb_L_law Q 562 [some (.ref x), a1, a2, a3] (.ref x :: st) ((T, c, s), I, L) := mWP_eq mt_L_law _ _ _ _ _
set_option maxRecDepth 100000 in
theorem e_L_law_561n {Q : mQo} {T : List mSh} {c s : Nat} {I : Nat → Nat → Int32} {L : Nat → Nat → Int64} {st : List Value} {a1 a2 a3 : Option Value} : mWP tb_L_law Q 561 [some .null, a1, a2, a3] st ((T, c, s), I, L) = mWP tb_L_law Q 562 [some .null, a1, a2, a3] (.null :: st) ((T, c, s), I, L) := mWP_eq mt_L_law _ _ _ _ _
set_option maxRecDepth 100000 in
theorem e_L_law_562 {Q : mQo} {T : List mSh} {c s : Nat} {I : Nat → Nat → Int32} {L : Nat → Nat → Int64} {st : List Value} {a0 a1 a2 : Option Value} {x : Int32} : mWP tb_L_law Q 562 [a0, a1, a2, some (.int x)] st ((T, c, s), I, L) = mWP tb_L_law Q 563 [a0, a1, a2, some (.int x)] (.int x :: st) ((T, c, s), I, L) := mWP_eq mt_L_law _ _ _ _ _
set_option maxRecDepth 100000 in
theorem e_L_law_563 {Q : mQo} {T : List mSh} {c s : Nat} {I : Nat → Nat → Int32} {L : Nat → Nat → Int64} {st : List Value} {a0 a1 a2 a3 : Option Value} : mWP tb_L_law Q 563 [a0, a1, a2, a3] st ((T, c, s), I, L) = mWP tb_L_law Q 564 [a0, a1, a2, a3] (.int 1 :: st) ((T, c, s), I, L) := mWP_eq mt_L_law _ _ _ _ _
set_option maxRecDepth 100000 in
theorem e_L_law_564 {Q : mQo} {T : List mSh} {c s : Nat} {I : Nat → Nat → Int32} {L : Nat → Nat → Int64} {st : List Value} {a0 a1 a2 a3 : Option Value} {x y : Int32} : mWP tb_L_law Q 564 [a0, a1, a2, a3] (.int y :: .int x :: st) ((T, c, s), I, L) = mWP tb_L_law Q 565 [a0, a1, a2, a3] (.int (x + y) :: st) ((T, c, s), I, L) := mWP_eq mt_L_law _ _ _ _ _
set_option maxRecDepth 100000 in
theorem e_L_law_565 {Q : mQo} {T : List mSh} {c s : Nat} {I : Nat → Nat → Int32} {L : Nat → Nat → Int64} {st : List Value} {a0 a1 a2 a3 : Option Value} {x : Nat} {y : Int32} : mWP tb_L_law Q 565 [a0, a1, a2, a3] (.int y :: .ref x :: st) ((T, c, s), I, L) = (mTg (T, c, s) x = 0 ∧ vp_in y (mLn (T, c, s) x) ∧ mWP tb_L_law Q 566 [a0, a1, a2, a3] (.int (I x y.toNatClampNeg) :: st) ((T, c, s), I, L)) := mWP_eq mt_L_law _ _ _ _ _
set_option maxRecDepth 100000 in
theorem e_L_law_566 {Q : mQo} {T : List mSh} {c s : Nat} {I : Nat → Nat → Int32} {L : Nat → Nat → Int64} {st : List Value} {a1 a2 a3 : Option Value} {x : Nat} : mWP tb_L_law Q 566 [some (.ref x), a1, a2, a3] st ((T, c, s), I, L) = mWP tb_L_law Q 567 [some (.ref x), a1, a2, a3] (.ref x :: st) ((T, c, s), I, L) := mWP_eq mt_L_law _ _ _ _ _
set_option maxRecDepth 100000 in
theorem e_L_law_566n {Q : mQo} {T : List mSh} {c s : Nat} {I : Nat → Nat → Int32} {L : Nat → Nat → Int64} {st : List Value} {a1 a2 a3 : Option Value} : mWP tb_L_law Q 566 [some .null, a1, a2, a3] st ((T, c, s), I, L) = mWP tb_L_law Q 567 [some .null, a1, a2, a3] (.null :: st) ((T, c, s), I, L) := mWP_eq mt_L_law _ _ _ _ _
set_option maxRecDepth 100000 in
theorem e_L_law_567 {Q : mQo} {T : List mSh} {c s : Nat} {I : Nat → Nat → Int32} {L : Nat → Nat → Int64} {st : List Value} {a0 a1 a2 : Option Value} {x : Int32} : mWP tb_L_law Q 567 [a0, a1, a2, some (.int x)] st ((T, c, s), I, L) = mWP tb_L_law Q 568 [a0, a1, a2, some (.int x)] (.int x :: st) ((T, c, s), I, L) := mWP_eq mt_L_law _ _ _ _ _
set_option maxRecDepth 100000 in
theorem e_L_law_568 {Q : mQo} {T : List mSh} {c s : Nat} {I : Nat → Nat → Int32} {L : Nat → Nat → Int64} {st : List Value} {a0 a1 a2 a3 : Option Value} : mWP tb_L_law Q 568 [a0, a1, a2, a3] st ((T, c, s), I, L) = mWP tb_L_law Q 569 [a0, a1, a2, a3] (.int 2 :: st) ((T, c, s), I, L) := mWP_eq mt_L_law _ _ _ _ _
set_option maxRecDepth 100000 in
theorem e_L_law_569 {Q : mQo} {T : List mSh} {c s : Nat} {I : Nat → Nat → Int32} {L : Nat → Nat → Int64} {st : List Value} {a0 a1 a2 a3 : Option Value} {x y : Int32} : mWP tb_L_law Q 569 [a0, a1, a2, a3] (.int y :: .int x :: st) ((T, c, s), I, L) = mWP tb_L_law Q 570 [a0, a1, a2, a3] (.int (x + y) :: st) ((T, c, s), I, L) := mWP_eq mt_L_law _ _ _ _ _
set_option maxRecDepth 100000 in
theorem e_L_law_570 {Q : mQo} {T : List mSh} {c s : Nat} {I : Nat → Nat → Int32} {L : Nat → Nat → Int64} {st : List Value} {a0 a1 a2 a3 : Option Value} {x : Nat} {y : Int32} : mWP tb_L_law Q 570 [a0, a1, a2, a3] (.int y :: .ref x :: st) ((T, c, s), I, L) = (mTg (T, c, s) x = 0 ∧ vp_in y (mLn (T, c, s) x) ∧ mWP tb_L_law Q 571 [a0, a1, a2, a3] (.int (I x y.toNatClampNeg) :: st) ((T, c, s), I, L)) := mWP_eq mt_L_law _ _ _ _ _
set_option maxRecDepth 100000 in
theorem e_L_law_571 {Q : mQo} {T : List mSh} {c s : Nat} {I : Nat → Nat → Int32} {L : Nat → Nat → Int64} {st : List Value} {a0 a1 a2 a3 : Option Value} {v0 : Int32} {v1 : Int32} {o : Nat} : mWP tb_L_law Q 571 [a0, a1, a2, a3] (.int v1 :: .int v0 :: .ref o :: st) ((T, c, s), I, L) = (mTg (T, c, s) o = 14 ∧ (st.map Value.category).sum ≤ 8 ∧ C_X11_hand [.ref o, .int v0, .int v1] (mZr (T, c, s), I, L) (fun r h' => h'.1 = mZr (T, c, s) ∧ mWP tb_L_law Q 574 [a0, a1, a2, a3] (r.toList ++ st) ((T, c, s), h'.2))) := (mWP_eq mt_L_law _ _ _ _ _).trans (eq_CV (Q := Q) 2 rfl)
set_option maxRecDepth 100000 in
theorem e_L_law_574 {Q : mQo} {T : List mSh} {c s : Nat} {I : Nat → Nat → Int32} {L : Nat → Nat → Int64} {st : List Value} {a0 a1 a2 a3 : Option Value} {x y : Int64} : mWP tb_L_law Q 574 [a0, a1, a2, a3] (.long y :: .long x :: st) ((T, c, s), I, L) = mWP tb_L_law Q 575 [a0, a1, a2, a3] (.int (lg_cmp x y) :: st) ((T, c, s), I, L) := mWP_eq mt_L_law _ _ _ _ _
set_option maxRecDepth 100000 in
theorem e_L_law_575 {Q : mQo} {T : List mSh} {c s : Nat} {I : Nat → Nat → Int32} {L : Nat → Nat → Int64} {st : List Value} {a0 a1 a2 a3 : Option Value} {x : Int32} : mWP tb_L_law Q 575 [a0, a1, a2, a3] (.int x :: st) ((T, c, s), I, L) = ((x = 0 → mWP tb_L_law Q 1460 [a0, a1, a2, a3] st ((T, c, s), I, L)) ∧ (¬ (x = 0) → mWP tb_L_law Q 578 [a0, a1, a2, a3] st ((T, c, s), I, L))) := mWP_eq mt_L_law _ _ _ _ _
set_option maxRecDepth 100000 in
theorem e_L_law_578 {Q : mQo} {T : List mSh} {c s : Nat} {I : Nat → Nat → Int32} {L : Nat → Nat → Int64} {st : List Value} {a0 a1 a2 a3 : Option Value} : mWP tb_L_law Q 578 [a0, a1, a2, a3] st ((T, c, s), I, L) = mWP tb_L_law Q 579 [a0, a1, a2, a3] (.int 0 :: st) ((T, c, s), I, L) := mWP_eq mt_L_law _ _ _ _ _
set_option maxRecDepth 100000 in
theorem e_L_law_579 {Q : mQo} {T : List mSh} {c s : Nat} {I : Nat → Nat → Int32} {L : Nat → Nat → Int64} {a0 a1 a2 a3 : Option Value} {x : Int32} : mWP tb_L_law Q 579 [a0, a1, a2, a3] [.int x] ((T, c, s), I, L) = ((x = 0 ∨ x = 1) ∧ Q (some (.int x)) ((T, c, s), I, L)) := mWP_eq mt_L_law _ _ _ _ _
set_option maxRecDepth 100000 in
theorem e_L_law_580 {Q : mQo} {T : List mSh} {c s : Nat} {I : Nat → Nat → Int32} {L : Nat → Nat → Int64} {st : List Value} {a0 a2 a3 : Option Value} {x : Nat} : mWP tb_L_law Q 580 [a0, some (.ref x), a2, a3] st ((T, c, s), I, L) = mWP tb_L_law Q 581 [a0, some (.ref x), a2, a3] (.ref x :: st) ((T, c, s), I, L) := mWP_eq mt_L_law _ _ _ _ _
set_option maxRecDepth 100000 in
theorem e_L_law_580n {Q : mQo} {T : List mSh} {c s : Nat} {I : Nat → Nat → Int32} {L : Nat → Nat → Int64} {st : List Value} {a0 a2 a3 : Option Value} : mWP tb_L_law Q 580 [a0, some .null, a2, a3] st ((T, c, s), I, L) = mWP tb_L_law Q 581 [a0, some .null, a2, a3] (.null :: st) ((T, c, s), I, L) := mWP_eq mt_L_law _ _ _ _ _
set_option maxRecDepth 100000 in
theorem e_L_law_581 {Q : mQo} {T : List mSh} {c s : Nat} {I : Nat → Nat → Int32} {L : Nat → Nat → Int64} {st : List Value} {a1 a2 a3 : Option Value} {x : Nat} : mWP tb_L_law Q 581 [some (.ref x), a1, a2, a3] st ((T, c, s), I, L) = mWP tb_L_law Q 582 [some (.ref x), a1, a2, a3] (.ref x :: st) ((T, c, s), I, L) := mWP_eq mt_L_law _ _ _ _ _
set_option maxRecDepth 100000 in
theorem e_L_law_581n {Q : mQo} {T : List mSh} {c s : Nat} {I : Nat → Nat → Int32} {L : Nat → Nat → Int64} {st : List Value} {a1 a2 a3 : Option Value} : mWP tb_L_law Q 581 [some .null, a1, a2, a3] st ((T, c, s), I, L) = mWP tb_L_law Q 582 [some .null, a1, a2, a3] (.null :: st) ((T, c, s), I, L) := mWP_eq mt_L_law _ _ _ _ _
set_option maxRecDepth 100000 in
theorem e_L_law_582 {Q : mQo} {T : List mSh} {c s : Nat} {I : Nat → Nat → Int32} {L : Nat → Nat → Int64} {st : List Value} {a0 a1 a2 : Option Value} {x : Int32} : mWP tb_L_law Q 582 [a0, a1, a2, some (.int x)] st ((T, c, s), I, L) = mWP tb_L_law Q 583 [a0, a1, a2, some (.int x)] (.int x :: st) ((T, c, s), I, L) := mWP_eq mt_L_law _ _ _ _ _
set_option maxRecDepth 100000 in
theorem e_L_law_583 {Q : mQo} {T : List mSh} {c s : Nat} {I : Nat → Nat → Int32} {L : Nat → Nat → Int64} {st : List Value} {a0 a1 a2 a3 : Option Value} : mWP tb_L_law Q 583 [a0, a1, a2, a3] st ((T, c, s), I, L) = mWP tb_L_law Q 584 [a0, a1, a2, a3] (.int 1 :: st) ((T, c, s), I, L) := mWP_eq mt_L_law _ _ _ _ _
set_option maxRecDepth 100000 in
theorem e_L_law_584 {Q : mQo} {T : List mSh} {c s : Nat} {I : Nat → Nat → Int32} {L : Nat → Nat → Int64} {st : List Value} {a0 a1 a2 a3 : Option Value} {x y : Int32} : mWP tb_L_law Q 584 [a0, a1, a2, a3] (.int y :: .int x :: st) ((T, c, s), I, L) = mWP tb_L_law Q 585 [a0, a1, a2, a3] (.int (x + y) :: st) ((T, c, s), I, L) := mWP_eq mt_L_law _ _ _ _ _
set_option maxRecDepth 100000 in
theorem e_L_law_585 {Q : mQo} {T : List mSh} {c s : Nat} {I : Nat → Nat → Int32} {L : Nat → Nat → Int64} {st : List Value} {a0 a1 a2 a3 : Option Value} {x : Nat} {y : Int32} : mWP tb_L_law Q 585 [a0, a1, a2, a3] (.int y :: .ref x :: st) ((T, c, s), I, L) = (mTg (T, c, s) x = 0 ∧ vp_in y (mLn (T, c, s) x) ∧ mWP tb_L_law Q 586 [a0, a1, a2, a3] (.int (I x y.toNatClampNeg) :: st) ((T, c, s), I, L)) := mWP_eq mt_L_law _ _ _ _ _
set_option maxRecDepth 100000 in
theorem e_L_law_586 {Q : mQo} {T : List mSh} {c s : Nat} {I : Nat → Nat → Int32} {L : Nat → Nat → Int64} {st : List Value} {a1 a2 a3 : Option Value} {x : Nat} : mWP tb_L_law Q 586 [some (.ref x), a1, a2, a3] st ((T, c, s), I, L) = mWP tb_L_law Q 587 [some (.ref x), a1, a2, a3] (.ref x :: st) ((T, c, s), I, L) := mWP_eq mt_L_law _ _ _ _ _
set_option maxRecDepth 100000 in
theorem e_L_law_586n {Q : mQo} {T : List mSh} {c s : Nat} {I : Nat → Nat → Int32} {L : Nat → Nat → Int64} {st : List Value} {a1 a2 a3 : Option Value} : mWP tb_L_law Q 586 [some .null, a1, a2, a3] st ((T, c, s), I, L) = mWP tb_L_law Q 587 [some .null, a1, a2, a3] (.null :: st) ((T, c, s), I, L) := mWP_eq mt_L_law _ _ _ _ _
set_option maxRecDepth 100000 in
theorem e_L_law_587 {Q : mQo} {T : List mSh} {c s : Nat} {I : Nat → Nat → Int32} {L : Nat → Nat → Int64} {st : List Value} {a0 a1 a2 : Option Value} {x : Int32} : mWP tb_L_law Q 587 [a0, a1, a2, some (.int x)] st ((T, c, s), I, L) = mWP tb_L_law Q 588 [a0, a1, a2, some (.int x)] (.int x :: st) ((T, c, s), I, L) := mWP_eq mt_L_law _ _ _ _ _
set_option maxRecDepth 100000 in
theorem e_L_law_588 {Q : mQo} {T : List mSh} {c s : Nat} {I : Nat → Nat → Int32} {L : Nat → Nat → Int64} {st : List Value} {a0 a1 a2 a3 : Option Value} : mWP tb_L_law Q 588 [a0, a1, a2, a3] st ((T, c, s), I, L) = mWP tb_L_law Q 589 [a0, a1, a2, a3] (.int 2 :: st) ((T, c, s), I, L) := mWP_eq mt_L_law _ _ _ _ _
set_option maxRecDepth 100000 in
theorem e_L_law_589 {Q : mQo} {T : List mSh} {c s : Nat} {I : Nat → Nat → Int32} {L : Nat → Nat → Int64} {st : List Value} {a0 a1 a2 a3 : Option Value} {x y : Int32} : mWP tb_L_law Q 589 [a0, a1, a2, a3] (.int y :: .int x :: st) ((T, c, s), I, L) = mWP tb_L_law Q 590 [a0, a1, a2, a3] (.int (x + y) :: st) ((T, c, s), I, L) := mWP_eq mt_L_law _ _ _ _ _
set_option maxRecDepth 100000 in
theorem e_L_law_590 {Q : mQo} {T : List mSh} {c s : Nat} {I : Nat → Nat → Int32} {L : Nat → Nat → Int64} {st : List Value} {a0 a1 a2 a3 : Option Value} {x : Nat} {y : Int32} : mWP tb_L_law Q 590 [a0, a1, a2, a3] (.int y :: .ref x :: st) ((T, c, s), I, L) = (mTg (T, c, s) x = 0 ∧ vp_in y (mLn (T, c, s) x) ∧ mWP tb_L_law Q 591 [a0, a1, a2, a3] (.int (I x y.toNatClampNeg) :: st) ((T, c, s), I, L)) := mWP_eq mt_L_law _ _ _ _ _
set_option maxRecDepth 100000 in
theorem e_L_law_591 {Q : mQo} {T : List mSh} {c s : Nat} {I : Nat → Nat → Int32} {L : Nat → Nat → Int64} {st : List Value} {a0 a1 a2 a3 : Option Value} {v0 : Int32} {v1 : Int32} {o : Nat} : mWP tb_L_law Q 591 [a0, a1, a2, a3] (.int v1 :: .int v0 :: .ref o :: st) ((T, c, s), I, L) = (mTg (T, c, s) o = 13 ∧ (st.map Value.category).sum ≤ 8 ∧ C_X10_about [.ref o, .int v0, .int v1] (mZr (T, c, s), I, L) (fun r h' => h'.1 = mZr (T, c, s) ∧ mWP tb_L_law Q 594 [a0, a1, a2, a3] (r.toList ++ st) ((T, c, s), h'.2))) := (mWP_eq mt_L_law _ _ _ _ _).trans (eq_CV (Q := Q) 2 rfl)
set_option maxRecDepth 100000 in
theorem e_L_law_594 {Q : mQo} {T : List mSh} {c s : Nat} {I : Nat → Nat → Int32} {L : Nat → Nat → Int64} {st : List Value} {a0 a1 a3 : Option Value} {x : Nat} : mWP tb_L_law Q 594 [a0, a1, some (.ref x), a3] st ((T, c, s), I, L) = mWP tb_L_law Q 595 [a0, a1, some (.ref x), a3] (.ref x :: st) ((T, c, s), I, L) := mWP_eq mt_L_law _ _ _ _ _
set_option maxRecDepth 100000 in
theorem e_L_law_594n {Q : mQo} {T : List mSh} {c s : Nat} {I : Nat → Nat → Int32} {L : Nat → Nat → Int64} {st : List Value} {a0 a1 a3 : Option Value} : mWP tb_L_law Q 594 [a0, a1, some .null, a3] st ((T, c, s), I, L) = mWP tb_L_law Q 595 [a0, a1, some .null, a3] (.null :: st) ((T, c, s), I, L) := mWP_eq mt_L_law _ _ _ _ _
set_option maxRecDepth 100000 in
theorem e_L_law_595 {Q : mQo} {T : List mSh} {c s : Nat} {I : Nat → Nat → Int32} {L : Nat → Nat → Int64} {st : List Value} {a1 a2 a3 : Option Value} {x : Nat} : mWP tb_L_law Q 595 [some (.ref x), a1, a2, a3] st ((T, c, s), I, L) = mWP tb_L_law Q 596 [some (.ref x), a1, a2, a3] (.ref x :: st) ((T, c, s), I, L) := mWP_eq mt_L_law _ _ _ _ _
set_option maxRecDepth 100000 in
theorem e_L_law_595n {Q : mQo} {T : List mSh} {c s : Nat} {I : Nat → Nat → Int32} {L : Nat → Nat → Int64} {st : List Value} {a1 a2 a3 : Option Value} : mWP tb_L_law Q 595 [some .null, a1, a2, a3] st ((T, c, s), I, L) = mWP tb_L_law Q 596 [some .null, a1, a2, a3] (.null :: st) ((T, c, s), I, L) := mWP_eq mt_L_law _ _ _ _ _
set_option maxRecDepth 100000 in
theorem e_L_law_596 {Q : mQo} {T : List mSh} {c s : Nat} {I : Nat → Nat → Int32} {L : Nat → Nat → Int64} {st : List Value} {a0 a1 a2 : Option Value} {x : Int32} : mWP tb_L_law Q 596 [a0, a1, a2, some (.int x)] st ((T, c, s), I, L) = mWP tb_L_law Q 597 [a0, a1, a2, some (.int x)] (.int x :: st) ((T, c, s), I, L) := mWP_eq mt_L_law _ _ _ _ _
set_option maxRecDepth 100000 in
theorem e_L_law_597 {Q : mQo} {T : List mSh} {c s : Nat} {I : Nat → Nat → Int32} {L : Nat → Nat → Int64} {st : List Value} {a0 a1 a2 a3 : Option Value} : mWP tb_L_law Q 597 [a0, a1, a2, a3] st ((T, c, s), I, L) = mWP tb_L_law Q 598 [a0, a1, a2, a3] (.int 1 :: st) ((T, c, s), I, L) := mWP_eq mt_L_law _ _ _ _ _
set_option maxRecDepth 100000 in
theorem e_L_law_598 {Q : mQo} {T : List mSh} {c s : Nat} {I : Nat → Nat → Int32} {L : Nat → Nat → Int64} {st : List Value} {a0 a1 a2 a3 : Option Value} {x y : Int32} : mWP tb_L_law Q 598 [a0, a1, a2, a3] (.int y :: .int x :: st) ((T, c, s), I, L) = mWP tb_L_law Q 599 [a0, a1, a2, a3] (.int (x + y) :: st) ((T, c, s), I, L) := mWP_eq mt_L_law _ _ _ _ _
set_option maxRecDepth 100000 in
theorem e_L_law_599 {Q : mQo} {T : List mSh} {c s : Nat} {I : Nat → Nat → Int32} {L : Nat → Nat → Int64} {st : List Value} {a0 a1 a2 a3 : Option Value} {x : Nat} {y : Int32} : mWP tb_L_law Q 599 [a0, a1, a2, a3] (.int y :: .ref x :: st) ((T, c, s), I, L) = (mTg (T, c, s) x = 0 ∧ vp_in y (mLn (T, c, s) x) ∧ mWP tb_L_law Q 600 [a0, a1, a2, a3] (.int (I x y.toNatClampNeg) :: st) ((T, c, s), I, L)) := mWP_eq mt_L_law _ _ _ _ _
set_option maxRecDepth 100000 in
theorem e_L_law_600 {Q : mQo} {T : List mSh} {c s : Nat} {I : Nat → Nat → Int32} {L : Nat → Nat → Int64} {st : List Value} {a1 a2 a3 : Option Value} {x : Nat} : mWP tb_L_law Q 600 [some (.ref x), a1, a2, a3] st ((T, c, s), I, L) = mWP tb_L_law Q 601 [some (.ref x), a1, a2, a3] (.ref x :: st) ((T, c, s), I, L) := mWP_eq mt_L_law _ _ _ _ _
set_option maxRecDepth 100000 in
theorem e_L_law_600n {Q : mQo} {T : List mSh} {c s : Nat} {I : Nat → Nat → Int32} {L : Nat → Nat → Int64} {st : List Value} {a1 a2 a3 : Option Value} : mWP tb_L_law Q 600 [some .null, a1, a2, a3] st ((T, c, s), I, L) = mWP tb_L_law Q 601 [some .null, a1, a2, a3] (.null :: st) ((T, c, s), I, L) := mWP_eq mt_L_law _ _ _ _ _
set_option maxRecDepth 100000 in
theorem e_L_law_601 {Q : mQo} {T : List mSh} {c s : Nat} {I : Nat → Nat → Int32} {L : Nat → Nat → Int64} {st : List Value} {a0 a1 a2 : Option Value} {x : Int32} : mWP tb_L_law Q 601 [a0, a1, a2, some (.int x)] st ((T, c, s), I, L) = mWP tb_L_law Q 602 [a0, a1, a2, some (.int x)] (.int x :: st) ((T, c, s), I, L) := mWP_eq mt_L_law _ _ _ _ _
set_option maxRecDepth 100000 in
theorem e_L_law_602 {Q : mQo} {T : List mSh} {c s : Nat} {I : Nat → Nat → Int32} {L : Nat → Nat → Int64} {st : List Value} {a0 a1 a2 a3 : Option Value} : mWP tb_L_law Q 602 [a0, a1, a2, a3] st ((T, c, s), I, L) = mWP tb_L_law Q 603 [a0, a1, a2, a3] (.int 2 :: st) ((T, c, s), I, L) := mWP_eq mt_L_law _ _ _ _ _
set_option maxRecDepth 100000 in
theorem e_L_law_603 {Q : mQo} {T : List mSh} {c s : Nat} {I : Nat → Nat → Int32} {L : Nat → Nat → Int64} {st : List Value} {a0 a1 a2 a3 : Option Value} {x y : Int32} : mWP tb_L_law Q 603 [a0, a1, a2, a3] (.int y :: .int x :: st) ((T, c, s), I, L) = mWP tb_L_law Q 604 [a0, a1, a2, a3] (.int (x + y) :: st) ((T, c, s), I, L) := mWP_eq mt_L_law _ _ _ _ _
set_option maxRecDepth 100000 in
theorem e_L_law_604 {Q : mQo} {T : List mSh} {c s : Nat} {I : Nat → Nat → Int32} {L : Nat → Nat → Int64} {st : List Value} {a0 a1 a2 a3 : Option Value} {x : Nat} {y : Int32} : mWP tb_L_law Q 604 [a0, a1, a2, a3] (.int y :: .ref x :: st) ((T, c, s), I, L) = (mTg (T, c, s) x = 0 ∧ vp_in y (mLn (T, c, s) x) ∧ mWP tb_L_law Q 605 [a0, a1, a2, a3] (.int (I x y.toNatClampNeg) :: st) ((T, c, s), I, L)) := mWP_eq mt_L_law _ _ _ _ _
set_option maxRecDepth 100000 in
theorem e_L_law_605 {Q : mQo} {T : List mSh} {c s : Nat} {I : Nat → Nat → Int32} {L : Nat → Nat → Int64} {st : List Value} {a0 a1 a2 a3 : Option Value} {v0 : Int32} {v1 : Int32} {o : Nat} : mWP tb_L_law Q 605 [a0, a1, a2, a3] (.int v1 :: .int v0 :: .ref o :: st) ((T, c, s), I, L) = (mTg (T, c, s) o = 14 ∧ (st.map Value.category).sum ≤ 8 ∧ C_X11_about [.ref o, .int v0, .int v1] (mZr (T, c, s), I, L) (fun r h' => h'.1 = mZr (T, c, s) ∧ mWP tb_L_law Q 608 [a0, a1, a2, a3] (r.toList ++ st) ((T, c, s), h'.2))) := (mWP_eq mt_L_law _ _ _ _ _).trans (eq_CV (Q := Q) 2 rfl)
set_option maxRecDepth 100000 in
theorem e_L_law_608 {Q : mQo} {T : List mSh} {c s : Nat} {I : Nat → Nat → Int32} {L : Nat → Nat → Int64} {st : List Value} {a0 a1 a2 a3 : Option Value} {x y : Int64} : mWP tb_L_law Q 608 [a0, a1, a2, a3] (.long y :: .long x :: st) ((T, c, s), I, L) = mWP tb_L_law Q 609 [a0, a1, a2, a3] (.int (lg_cmp x y) :: st) ((T, c, s), I, L) := mWP_eq mt_L_law _ _ _ _ _
set_option maxRecDepth 100000 in
theorem e_L_law_609 {Q : mQo} {T : List mSh} {c s : Nat} {I : Nat → Nat → Int32} {L : Nat → Nat → Int64} {st : List Value} {a0 a1 a2 a3 : Option Value} {x : Int32} : mWP tb_L_law Q 609 [a0, a1, a2, a3] (.int x :: st) ((T, c, s), I, L) = ((x = 0 → mWP tb_L_law Q 1460 [a0, a1, a2, a3] st ((T, c, s), I, L)) ∧ (¬ (x = 0) → mWP tb_L_law Q 612 [a0, a1, a2, a3] st ((T, c, s), I, L))) := mWP_eq mt_L_law _ _ _ _ _
set_option maxRecDepth 100000 in
theorem e_L_law_612 {Q : mQo} {T : List mSh} {c s : Nat} {I : Nat → Nat → Int32} {L : Nat → Nat → Int64} {st : List Value} {a0 a1 a2 a3 : Option Value} : mWP tb_L_law Q 612 [a0, a1, a2, a3] st ((T, c, s), I, L) = mWP tb_L_law Q 613 [a0, a1, a2, a3] (.int 0 :: st) ((T, c, s), I, L) := mWP_eq mt_L_law _ _ _ _ _
set_option maxRecDepth 100000 in
theorem e_L_law_613 {Q : mQo} {T : List mSh} {c s : Nat} {I : Nat → Nat → Int32} {L : Nat → Nat → Int64} {a0 a1 a2 a3 : Option Value} {x : Int32} : mWP tb_L_law Q 613 [a0, a1, a2, a3] [.int x] ((T, c, s), I, L) = ((x = 0 ∨ x = 1) ∧ Q (some (.int x)) ((T, c, s), I, L)) := mWP_eq mt_L_law _ _ _ _ _
set_option maxRecDepth 100000 in
theorem e_L_law_614 {Q : mQo} {T : List mSh} {c s : Nat} {I : Nat → Nat → Int32} {L : Nat → Nat → Int64} {st : List Value} {a0 a2 a3 : Option Value} {x : Nat} : mWP tb_L_law Q 614 [a0, some (.ref x), a2, a3] st ((T, c, s), I, L) = mWP tb_L_law Q 615 [a0, some (.ref x), a2, a3] (.ref x :: st) ((T, c, s), I, L) := mWP_eq mt_L_law _ _ _ _ _
set_option maxRecDepth 100000 in
theorem e_L_law_614n {Q : mQo} {T : List mSh} {c s : Nat} {I : Nat → Nat → Int32} {L : Nat → Nat → Int64} {st : List Value} {a0 a2 a3 : Option Value} : mWP tb_L_law Q 614 [a0, some .null, a2, a3] st ((T, c, s), I, L) = mWP tb_L_law Q 615 [a0, some .null, a2, a3] (.null :: st) ((T, c, s), I, L) := mWP_eq mt_L_law _ _ _ _ _
set_option maxRecDepth 100000 in
theorem e_L_law_615 {Q : mQo} {T : List mSh} {c s : Nat} {I : Nat → Nat → Int32} {L : Nat → Nat → Int64} {st : List Value} {a1 a2 a3 : Option Value} {x : Nat} : mWP tb_L_law Q 615 [some (.ref x), a1, a2, a3] st ((T, c, s), I, L) = mWP tb_L_law Q 616 [some (.ref x), a1, a2, a3] (.ref x :: st) ((T, c, s), I, L) := mWP_eq mt_L_law _ _ _ _ _
set_option maxRecDepth 100000 in
theorem e_L_law_615n {Q : mQo} {T : List mSh} {c s : Nat} {I : Nat → Nat → Int32} {L : Nat → Nat → Int64} {st : List Value} {a1 a2 a3 : Option Value} : mWP tb_L_law Q 615 [some .null, a1, a2, a3] st ((T, c, s), I, L) = mWP tb_L_law Q 616 [some .null, a1, a2, a3] (.null :: st) ((T, c, s), I, L) := mWP_eq mt_L_law _ _ _ _ _
set_option maxRecDepth 100000 in
theorem e_L_law_616 {Q : mQo} {T : List mSh} {c s : Nat} {I : Nat → Nat → Int32} {L : Nat → Nat → Int64} {st : List Value} {a0 a1 a2 : Option Value} {x : Int32} : mWP tb_L_law Q 616 [a0, a1, a2, some (.int x)] st ((T, c, s), I, L) = mWP tb_L_law Q 617 [a0, a1, a2, some (.int x)] (.int x :: st) ((T, c, s), I, L) := mWP_eq mt_L_law _ _ _ _ _
set_option maxRecDepth 100000 in
theorem e_L_law_617 {Q : mQo} {T : List mSh} {c s : Nat} {I : Nat → Nat → Int32} {L : Nat → Nat → Int64} {st : List Value} {a0 a1 a2 a3 : Option Value} : mWP tb_L_law Q 617 [a0, a1, a2, a3] st ((T, c, s), I, L) = mWP tb_L_law Q 618 [a0, a1, a2, a3] (.int 1 :: st) ((T, c, s), I, L) := mWP_eq mt_L_law _ _ _ _ _
set_option maxRecDepth 100000 in
theorem e_L_law_618 {Q : mQo} {T : List mSh} {c s : Nat} {I : Nat → Nat → Int32} {L : Nat → Nat → Int64} {st : List Value} {a0 a1 a2 a3 : Option Value} {x y : Int32} : mWP tb_L_law Q 618 [a0, a1, a2, a3] (.int y :: .int x :: st) ((T, c, s), I, L) = mWP tb_L_law Q 619 [a0, a1, a2, a3] (.int (x + y) :: st) ((T, c, s), I, L) := mWP_eq mt_L_law _ _ _ _ _
set_option maxRecDepth 100000 in
theorem e_L_law_619 {Q : mQo} {T : List mSh} {c s : Nat} {I : Nat → Nat → Int32} {L : Nat → Nat → Int64} {st : List Value} {a0 a1 a2 a3 : Option Value} {x : Nat} {y : Int32} : mWP tb_L_law Q 619 [a0, a1, a2, a3] (.int y :: .ref x :: st) ((T, c, s), I, L) = (mTg (T, c, s) x = 0 ∧ vp_in y (mLn (T, c, s) x) ∧ mWP tb_L_law Q 620 [a0, a1, a2, a3] (.int (I x y.toNatClampNeg) :: st) ((T, c, s), I, L)) := mWP_eq mt_L_law _ _ _ _ _
set_option maxRecDepth 100000 in
theorem e_L_law_620 {Q : mQo} {T : List mSh} {c s : Nat} {I : Nat → Nat → Int32} {L : Nat → Nat → Int64} {st : List Value} {a1 a2 a3 : Option Value} {x : Nat} : mWP tb_L_law Q 620 [some (.ref x), a1, a2, a3] st ((T, c, s), I, L) = mWP tb_L_law Q 621 [some (.ref x), a1, a2, a3] (.ref x :: st) ((T, c, s), I, L) := mWP_eq mt_L_law _ _ _ _ _
set_option maxRecDepth 100000 in
theorem e_L_law_620n {Q : mQo} {T : List mSh} {c s : Nat} {I : Nat → Nat → Int32} {L : Nat → Nat → Int64} {st : List Value} {a1 a2 a3 : Option Value} : mWP tb_L_law Q 620 [some .null, a1, a2, a3] st ((T, c, s), I, L) = mWP tb_L_law Q 621 [some .null, a1, a2, a3] (.null :: st) ((T, c, s), I, L) := mWP_eq mt_L_law _ _ _ _ _
set_option maxRecDepth 100000 in
theorem e_L_law_621 {Q : mQo} {T : List mSh} {c s : Nat} {I : Nat → Nat → Int32} {L : Nat → Nat → Int64} {st : List Value} {a0 a1 a2 : Option Value} {x : Int32} : mWP tb_L_law Q 621 [a0, a1, a2, some (.int x)] st ((T, c, s), I, L) = mWP tb_L_law Q 622 [a0, a1, a2, some (.int x)] (.int x :: st) ((T, c, s), I, L) := mWP_eq mt_L_law _ _ _ _ _
set_option maxRecDepth 100000 in
theorem e_L_law_622 {Q : mQo} {T : List mSh} {c s : Nat} {I : Nat → Nat → Int32} {L : Nat → Nat → Int64} {st : List Value} {a0 a1 a2 a3 : Option Value} : mWP tb_L_law Q 622 [a0, a1, a2, a3] st ((T, c, s), I, L) = mWP tb_L_law Q 623 [a0, a1, a2, a3] (.int 2 :: st) ((T, c, s), I, L) := mWP_eq mt_L_law _ _ _ _ _
set_option maxRecDepth 100000 in
theorem e_L_law_623 {Q : mQo} {T : List mSh} {c s : Nat} {I : Nat → Nat → Int32} {L : Nat → Nat → Int64} {st : List Value} {a0 a1 a2 a3 : Option Value} {x y : Int32} : mWP tb_L_law Q 623 [a0, a1, a2, a3] (.int y :: .int x :: st) ((T, c, s), I, L) = mWP tb_L_law Q 624 [a0, a1, a2, a3] (.int (x + y) :: st) ((T, c, s), I, L) := mWP_eq mt_L_law _ _ _ _ _
set_option maxRecDepth 100000 in
theorem e_L_law_624 {Q : mQo} {T : List mSh} {c s : Nat} {I : Nat → Nat → Int32} {L : Nat → Nat → Int64} {st : List Value} {a0 a1 a2 a3 : Option Value} {x : Nat} {y : Int32} : mWP tb_L_law Q 624 [a0, a1, a2, a3] (.int y :: .ref x :: st) ((T, c, s), I, L) = (mTg (T, c, s) x = 0 ∧ vp_in y (mLn (T, c, s) x) ∧ mWP tb_L_law Q 625 [a0, a1, a2, a3] (.int (I x y.toNatClampNeg) :: st) ((T, c, s), I, L)) := mWP_eq mt_L_law _ _ _ _ _
set_option maxRecDepth 100000 in
theorem e_L_law_625 {Q : mQo} {T : List mSh} {c s : Nat} {I : Nat → Nat → Int32} {L : Nat → Nat → Int64} {st : List Value} {a1 a2 a3 : Option Value} {x : Nat} : mWP tb_L_law Q 625 [some (.ref x), a1, a2, a3] st ((T, c, s), I, L) = mWP tb_L_law Q 626 [some (.ref x), a1, a2, a3] (.ref x :: st) ((T, c, s), I, L) := mWP_eq mt_L_law _ _ _ _ _
set_option maxRecDepth 100000 in
theorem e_L_law_625n {Q : mQo} {T : List mSh} {c s : Nat} {I : Nat → Nat → Int32} {L : Nat → Nat → Int64} {st : List Value} {a1 a2 a3 : Option Value} : mWP tb_L_law Q 625 [some .null, a1, a2, a3] st ((T, c, s), I, L) = mWP tb_L_law Q 626 [some .null, a1, a2, a3] (.null :: st) ((T, c, s), I, L) := mWP_eq mt_L_law _ _ _ _ _
set_option maxRecDepth 100000 in
theorem e_L_law_626 {Q : mQo} {T : List mSh} {c s : Nat} {I : Nat → Nat → Int32} {L : Nat → Nat → Int64} {st : List Value} {a0 a1 a2 : Option Value} {x : Int32} : mWP tb_L_law Q 626 [a0, a1, a2, some (.int x)] st ((T, c, s), I, L) = mWP tb_L_law Q 627 [a0, a1, a2, some (.int x)] (.int x :: st) ((T, c, s), I, L) := mWP_eq mt_L_law _ _ _ _ _
set_option maxRecDepth 100000 in
theorem e_L_law_627 {Q : mQo} {T : List mSh} {c s : Nat} {I : Nat → Nat → Int32} {L : Nat → Nat → Int64} {st : List Value} {a0 a1 a2 a3 : Option Value} : mWP tb_L_law Q 627 [a0, a1, a2, a3] st ((T, c, s), I, L) = mWP tb_L_law Q 628 [a0, a1, a2, a3] (.int 3 :: st) ((T, c, s), I, L) := mWP_eq mt_L_law _ _ _ _ _
set_option maxRecDepth 100000 in
theorem e_L_law_628 {Q : mQo} {T : List mSh} {c s : Nat} {I : Nat → Nat → Int32} {L : Nat → Nat → Int64} {st : List Value} {a0 a1 a2 a3 : Option Value} {x y : Int32} : mWP tb_L_law Q 628 [a0, a1, a2, a3] (.int y :: .int x :: st) ((T, c, s), I, L) = mWP tb_L_law Q 629 [a0, a1, a2, a3] (.int (x + y) :: st) ((T, c, s), I, L) := mWP_eq mt_L_law _ _ _ _ _
set_option maxRecDepth 100000 in
theorem e_L_law_629 {Q : mQo} {T : List mSh} {c s : Nat} {I : Nat → Nat → Int32} {L : Nat → Nat → Int64} {st : List Value} {a0 a1 a2 a3 : Option Value} {x : Nat} {y : Int32} : mWP tb_L_law Q 629 [a0, a1, a2, a3] (.int y :: .ref x :: st) ((T, c, s), I, L) = (mTg (T, c, s) x = 0 ∧ vp_in y (mLn (T, c, s) x) ∧ mWP tb_L_law Q 630 [a0, a1, a2, a3] (.int (I x y.toNatClampNeg) :: st) ((T, c, s), I, L)) := mWP_eq mt_L_law _ _ _ _ _
set_option maxRecDepth 100000 in
theorem e_L_law_630 {Q : mQo} {T : List mSh} {c s : Nat} {I : Nat → Nat → Int32} {L : Nat → Nat → Int64} {st : List Value} {a0 a1 a2 a3 : Option Value} {v0 : Int32} {v1 : Int32} {v2 : Int32} {o : Nat} : mWP tb_L_law Q 630 [a0, a1, a2, a3] (.int v2 :: .int v1 :: .int v0 :: .ref o :: st) ((T, c, s), I, L) = (mTg (T, c, s) o = 13 ∧ (st.map Value.category).sum ≤ 8 ∧ C_X10_told [.ref o, .int v0, .int v1, .int v2] (mZr (T, c, s), I, L) (fun r h' => h'.1 = mZr (T, c, s) ∧ mWP tb_L_law Q 633 [a0, a1, a2, a3] (r.toList ++ st) ((T, c, s), h'.2))) := (mWP_eq mt_L_law _ _ _ _ _).trans (eq_CV (Q := Q) 3 rfl)
set_option maxRecDepth 100000 in
theorem e_L_law_633 {Q : mQo} {T : List mSh} {c s : Nat} {I : Nat → Nat → Int32} {L : Nat → Nat → Int64} {st : List Value} {a0 a1 a3 : Option Value} {x : Nat} : mWP tb_L_law Q 633 [a0, a1, some (.ref x), a3] st ((T, c, s), I, L) = mWP tb_L_law Q 634 [a0, a1, some (.ref x), a3] (.ref x :: st) ((T, c, s), I, L) := mWP_eq mt_L_law _ _ _ _ _
set_option maxRecDepth 100000 in
theorem e_L_law_633n {Q : mQo} {T : List mSh} {c s : Nat} {I : Nat → Nat → Int32} {L : Nat → Nat → Int64} {st : List Value} {a0 a1 a3 : Option Value} : mWP tb_L_law Q 633 [a0, a1, some .null, a3] st ((T, c, s), I, L) = mWP tb_L_law Q 634 [a0, a1, some .null, a3] (.null :: st) ((T, c, s), I, L) := mWP_eq mt_L_law _ _ _ _ _
set_option maxRecDepth 100000 in
theorem e_L_law_634 {Q : mQo} {T : List mSh} {c s : Nat} {I : Nat → Nat → Int32} {L : Nat → Nat → Int64} {st : List Value} {a1 a2 a3 : Option Value} {x : Nat} : mWP tb_L_law Q 634 [some (.ref x), a1, a2, a3] st ((T, c, s), I, L) = mWP tb_L_law Q 635 [some (.ref x), a1, a2, a3] (.ref x :: st) ((T, c, s), I, L) := mWP_eq mt_L_law _ _ _ _ _
set_option maxRecDepth 100000 in
theorem e_L_law_634n {Q : mQo} {T : List mSh} {c s : Nat} {I : Nat → Nat → Int32} {L : Nat → Nat → Int64} {st : List Value} {a1 a2 a3 : Option Value} : mWP tb_L_law Q 634 [some .null, a1, a2, a3] st ((T, c, s), I, L) = mWP tb_L_law Q 635 [some .null, a1, a2, a3] (.null :: st) ((T, c, s), I, L) := mWP_eq mt_L_law _ _ _ _ _
set_option maxRecDepth 100000 in
theorem e_L_law_635 {Q : mQo} {T : List mSh} {c s : Nat} {I : Nat → Nat → Int32} {L : Nat → Nat → Int64} {st : List Value} {a0 a1 a2 : Option Value} {x : Int32} : mWP tb_L_law Q 635 [a0, a1, a2, some (.int x)] st ((T, c, s), I, L) = mWP tb_L_law Q 636 [a0, a1, a2, some (.int x)] (.int x :: st) ((T, c, s), I, L) := mWP_eq mt_L_law _ _ _ _ _
set_option maxRecDepth 100000 in
theorem e_L_law_636 {Q : mQo} {T : List mSh} {c s : Nat} {I : Nat → Nat → Int32} {L : Nat → Nat → Int64} {st : List Value} {a0 a1 a2 a3 : Option Value} : mWP tb_L_law Q 636 [a0, a1, a2, a3] st ((T, c, s), I, L) = mWP tb_L_law Q 637 [a0, a1, a2, a3] (.int 1 :: st) ((T, c, s), I, L) := mWP_eq mt_L_law _ _ _ _ _
set_option maxRecDepth 100000 in
theorem e_L_law_637 {Q : mQo} {T : List mSh} {c s : Nat} {I : Nat → Nat → Int32} {L : Nat → Nat → Int64} {st : List Value} {a0 a1 a2 a3 : Option Value} {x y : Int32} : mWP tb_L_law Q 637 [a0, a1, a2, a3] (.int y :: .int x :: st) ((T, c, s), I, L) = mWP tb_L_law Q 638 [a0, a1, a2, a3] (.int (x + y) :: st) ((T, c, s), I, L) := mWP_eq mt_L_law _ _ _ _ _
set_option maxRecDepth 100000 in
theorem e_L_law_638 {Q : mQo} {T : List mSh} {c s : Nat} {I : Nat → Nat → Int32} {L : Nat → Nat → Int64} {st : List Value} {a0 a1 a2 a3 : Option Value} {x : Nat} {y : Int32} : mWP tb_L_law Q 638 [a0, a1, a2, a3] (.int y :: .ref x :: st) ((T, c, s), I, L) = (mTg (T, c, s) x = 0 ∧ vp_in y (mLn (T, c, s) x) ∧ mWP tb_L_law Q 639 [a0, a1, a2, a3] (.int (I x y.toNatClampNeg) :: st) ((T, c, s), I, L)) := mWP_eq mt_L_law _ _ _ _ _
set_option maxRecDepth 100000 in
theorem e_L_law_639 {Q : mQo} {T : List mSh} {c s : Nat} {I : Nat → Nat → Int32} {L : Nat → Nat → Int64} {st : List Value} {a1 a2 a3 : Option Value} {x : Nat} : mWP tb_L_law Q 639 [some (.ref x), a1, a2, a3] st ((T, c, s), I, L) = mWP tb_L_law Q 640 [some (.ref x), a1, a2, a3] (.ref x :: st) ((T, c, s), I, L) := mWP_eq mt_L_law _ _ _ _ _
set_option maxRecDepth 100000 in
theorem e_L_law_639n {Q : mQo} {T : List mSh} {c s : Nat} {I : Nat → Nat → Int32} {L : Nat → Nat → Int64} {st : List Value} {a1 a2 a3 : Option Value} : mWP tb_L_law Q 639 [some .null, a1, a2, a3] st ((T, c, s), I, L) = mWP tb_L_law Q 640 [some .null, a1, a2, a3] (.null :: st) ((T, c, s), I, L) := mWP_eq mt_L_law _ _ _ _ _
set_option maxRecDepth 100000 in
theorem e_L_law_640 {Q : mQo} {T : List mSh} {c s : Nat} {I : Nat → Nat → Int32} {L : Nat → Nat → Int64} {st : List Value} {a0 a1 a2 : Option Value} {x : Int32} : mWP tb_L_law Q 640 [a0, a1, a2, some (.int x)] st ((T, c, s), I, L) = mWP tb_L_law Q 641 [a0, a1, a2, some (.int x)] (.int x :: st) ((T, c, s), I, L) := mWP_eq mt_L_law _ _ _ _ _
set_option maxRecDepth 100000 in
theorem e_L_law_641 {Q : mQo} {T : List mSh} {c s : Nat} {I : Nat → Nat → Int32} {L : Nat → Nat → Int64} {st : List Value} {a0 a1 a2 a3 : Option Value} : mWP tb_L_law Q 641 [a0, a1, a2, a3] st ((T, c, s), I, L) = mWP tb_L_law Q 642 [a0, a1, a2, a3] (.int 2 :: st) ((T, c, s), I, L) := mWP_eq mt_L_law _ _ _ _ _
set_option maxRecDepth 100000 in
theorem e_L_law_642 {Q : mQo} {T : List mSh} {c s : Nat} {I : Nat → Nat → Int32} {L : Nat → Nat → Int64} {st : List Value} {a0 a1 a2 a3 : Option Value} {x y : Int32} : mWP tb_L_law Q 642 [a0, a1, a2, a3] (.int y :: .int x :: st) ((T, c, s), I, L) = mWP tb_L_law Q 643 [a0, a1, a2, a3] (.int (x + y) :: st) ((T, c, s), I, L) := mWP_eq mt_L_law _ _ _ _ _
set_option maxRecDepth 100000 in
theorem e_L_law_643 {Q : mQo} {T : List mSh} {c s : Nat} {I : Nat → Nat → Int32} {L : Nat → Nat → Int64} {st : List Value} {a0 a1 a2 a3 : Option Value} {x : Nat} {y : Int32} : mWP tb_L_law Q 643 [a0, a1, a2, a3] (.int y :: .ref x :: st) ((T, c, s), I, L) = (mTg (T, c, s) x = 0 ∧ vp_in y (mLn (T, c, s) x) ∧ mWP tb_L_law Q 644 [a0, a1, a2, a3] (.int (I x y.toNatClampNeg) :: st) ((T, c, s), I, L)) := mWP_eq mt_L_law _ _ _ _ _
set_option maxRecDepth 100000 in
theorem e_L_law_644 {Q : mQo} {T : List mSh} {c s : Nat} {I : Nat → Nat → Int32} {L : Nat → Nat → Int64} {st : List Value} {a1 a2 a3 : Option Value} {x : Nat} : mWP tb_L_law Q 644 [some (.ref x), a1, a2, a3] st ((T, c, s), I, L) = mWP tb_L_law Q 645 [some (.ref x), a1, a2, a3] (.ref x :: st) ((T, c, s), I, L) := mWP_eq mt_L_law _ _ _ _ _
set_option maxRecDepth 100000 in
theorem e_L_law_644n {Q : mQo} {T : List mSh} {c s : Nat} {I : Nat → Nat → Int32} {L : Nat → Nat → Int64} {st : List Value} {a1 a2 a3 : Option Value} : mWP tb_L_law Q 644 [some .null, a1, a2, a3] st ((T, c, s), I, L) = mWP tb_L_law Q 645 [some .null, a1, a2, a3] (.null :: st) ((T, c, s), I, L) := mWP_eq mt_L_law _ _ _ _ _
set_option maxRecDepth 100000 in
theorem e_L_law_645 {Q : mQo} {T : List mSh} {c s : Nat} {I : Nat → Nat → Int32} {L : Nat → Nat → Int64} {st : List Value} {a0 a1 a2 : Option Value} {x : Int32} : mWP tb_L_law Q 645 [a0, a1, a2, some (.int x)] st ((T, c, s), I, L) = mWP tb_L_law Q 646 [a0, a1, a2, some (.int x)] (.int x :: st) ((T, c, s), I, L) := mWP_eq mt_L_law _ _ _ _ _
set_option maxRecDepth 100000 in
theorem e_L_law_646 {Q : mQo} {T : List mSh} {c s : Nat} {I : Nat → Nat → Int32} {L : Nat → Nat → Int64} {st : List Value} {a0 a1 a2 a3 : Option Value} : mWP tb_L_law Q 646 [a0, a1, a2, a3] st ((T, c, s), I, L) = mWP tb_L_law Q 647 [a0, a1, a2, a3] (.int 3 :: st) ((T, c, s), I, L) := mWP_eq mt_L_law _ _ _ _ _
set_option maxRecDepth 100000 in
theorem e_L_law_647 {Q : mQo} {T : List mSh} {c s : Nat} {I : Nat → Nat → Int32} {L : Nat → Nat → Int64} {st : List Value} {a0 a1 a2 a3 : Option Value} {x y : Int32} : mWP tb_L_law Q 647 [a0, a1, a2, a3] (.int y :: .int x :: st) ((T, c, s), I, L) = mWP tb_L_law Q 648 [a0, a1, a2, a3] (.int (x + y) :: st) ((T, c, s), I, L) := mWP_eq mt_L_law _ _ _ _ _
set_option maxRecDepth 100000 in
theorem e_L_law_648 {Q : mQo} {T : List mSh} {c s : Nat} {I : Nat → Nat → Int32} {L : Nat → Nat → Int64} {st : List Value} {a0 a1 a2 a3 : Option Value} {x : Nat} {y : Int32} : mWP tb_L_law Q 648 [a0, a1, a2, a3] (.int y :: .ref x :: st) ((T, c, s), I, L) = (mTg (T, c, s) x = 0 ∧ vp_in y (mLn (T, c, s) x) ∧ mWP tb_L_law Q 649 [a0, a1, a2, a3] (.int (I x y.toNatClampNeg) :: st) ((T, c, s), I, L)) := mWP_eq mt_L_law _ _ _ _ _
set_option maxRecDepth 100000 in
theorem e_L_law_649 {Q : mQo} {T : List mSh} {c s : Nat} {I : Nat → Nat → Int32} {L : Nat → Nat → Int64} {st : List Value} {a0 a1 a2 a3 : Option Value} {v0 : Int32} {v1 : Int32} {v2 : Int32} {o : Nat} : mWP tb_L_law Q 649 [a0, a1, a2, a3] (.int v2 :: .int v1 :: .int v0 :: .ref o :: st) ((T, c, s), I, L) = (mTg (T, c, s) o = 14 ∧ (st.map Value.category).sum ≤ 8 ∧ C_X11_told [.ref o, .int v0, .int v1, .int v2] (mZr (T, c, s), I, L) (fun r h' => h'.1 = mZr (T, c, s) ∧ mWP tb_L_law Q 652 [a0, a1, a2, a3] (r.toList ++ st) ((T, c, s), h'.2))) := (mWP_eq mt_L_law _ _ _ _ _).trans (eq_CV (Q := Q) 3 rfl)
set_option maxRecDepth 100000 in
theorem e_L_law_652 {Q : mQo} {T : List mSh} {c s : Nat} {I : Nat → Nat → Int32} {L : Nat → Nat → Int64} {st : List Value} {a0 a1 a2 a3 : Option Value} {x y : Int64} : mWP tb_L_law Q 652 [a0, a1, a2, a3] (.long y :: .long x :: st) ((T, c, s), I, L) = mWP tb_L_law Q 653 [a0, a1, a2, a3] (.int (lg_cmp x y) :: st) ((T, c, s), I, L) := mWP_eq mt_L_law _ _ _ _ _
set_option maxRecDepth 100000 in
theorem e_L_law_653 {Q : mQo} {T : List mSh} {c s : Nat} {I : Nat → Nat → Int32} {L : Nat → Nat → Int64} {st : List Value} {a0 a1 a2 a3 : Option Value} {x : Int32} : mWP tb_L_law Q 653 [a0, a1, a2, a3] (.int x :: st) ((T, c, s), I, L) = ((x = 0 → mWP tb_L_law Q 1460 [a0, a1, a2, a3] st ((T, c, s), I, L)) ∧ (¬ (x = 0) → mWP tb_L_law Q 656 [a0, a1, a2, a3] st ((T, c, s), I, L))) := mWP_eq mt_L_law _ _ _ _ _
set_option maxRecDepth 100000 in
theorem e_L_law_656 {Q : mQo} {T : List mSh} {c s : Nat} {I : Nat → Nat → Int32} {L : Nat → Nat → Int64} {st : List Value} {a0 a1 a2 a3 : Option Value} : mWP tb_L_law Q 656 [a0, a1, a2, a3] st ((T, c, s), I, L) = mWP tb_L_law Q 657 [a0, a1, a2, a3] (.int 0 :: st) ((T, c, s), I, L) := mWP_eq mt_L_law _ _ _ _ _
set_option maxRecDepth 100000 in
theorem e_L_law_657 {Q : mQo} {T : List mSh} {c s : Nat} {I : Nat → Nat → Int32} {L : Nat → Nat → Int64} {a0 a1 a2 a3 : Option Value} {x : Int32} : mWP tb_L_law Q 657 [a0, a1, a2, a3] [.int x] ((T, c, s), I, L) = ((x = 0 ∨ x = 1) ∧ Q (some (.int x)) ((T, c, s), I, L)) := mWP_eq mt_L_law _ _ _ _ _
set_option maxRecDepth 100000 in
theorem e_L_law_658 {Q : mQo} {T : List mSh} {c s : Nat} {I : Nat → Nat → Int32} {L : Nat → Nat → Int64} {st : List Value} {a0 a2 a3 : Option Value} {x : Nat} : mWP tb_L_law Q 658 [a0, some (.ref x), a2, a3] st ((T, c, s), I, L) = mWP tb_L_law Q 659 [a0, some (.ref x), a2, a3] (.ref x :: st) ((T, c, s), I, L) := mWP_eq mt_L_law _ _ _ _ _
set_option maxRecDepth 100000 in
theorem e_L_law_658n {Q : mQo} {T : List mSh} {c s : Nat} {I : Nat → Nat → Int32} {L : Nat → Nat → Int64} {st : List Value} {a0 a2 a3 : Option Value} : mWP tb_L_law Q 658 [a0, some .null, a2, a3] st ((T, c, s), I, L) = mWP tb_L_law Q 659 [a0, some .null, a2, a3] (.null :: st) ((T, c, s), I, L) := mWP_eq mt_L_law _ _ _ _ _
set_option maxRecDepth 100000 in
theorem e_L_law_659 {Q : mQo} {T : List mSh} {c s : Nat} {I : Nat → Nat → Int32} {L : Nat → Nat → Int64} {st : List Value} {a1 a2 a3 : Option Value} {x : Nat} : mWP tb_L_law Q 659 [some (.ref x), a1, a2, a3] st ((T, c, s), I, L) = mWP tb_L_law Q 660 [some (.ref x), a1, a2, a3] (.ref x :: st) ((T, c, s), I, L) := mWP_eq mt_L_law _ _ _ _ _
set_option maxRecDepth 100000 in
theorem e_L_law_659n {Q : mQo} {T : List mSh} {c s : Nat} {I : Nat → Nat → Int32} {L : Nat → Nat → Int64} {st : List Value} {a1 a2 a3 : Option Value} : mWP tb_L_law Q 659 [some .null, a1, a2, a3] st ((T, c, s), I, L) = mWP tb_L_law Q 660 [some .null, a1, a2, a3] (.null :: st) ((T, c, s), I, L) := mWP_eq mt_L_law _ _ _ _ _
set_option maxRecDepth 100000 in
theorem e_L_law_660 {Q : mQo} {T : List mSh} {c s : Nat} {I : Nat → Nat → Int32} {L : Nat → Nat → Int64} {st : List Value} {a0 a1 a2 : Option Value} {x : Int32} : mWP tb_L_law Q 660 [a0, a1, a2, some (.int x)] st ((T, c, s), I, L) = mWP tb_L_law Q 661 [a0, a1, a2, some (.int x)] (.int x :: st) ((T, c, s), I, L) := mWP_eq mt_L_law _ _ _ _ _
set_option maxRecDepth 100000 in
theorem e_L_law_661 {Q : mQo} {T : List mSh} {c s : Nat} {I : Nat → Nat → Int32} {L : Nat → Nat → Int64} {st : List Value} {a0 a1 a2 a3 : Option Value} : mWP tb_L_law Q 661 [a0, a1, a2, a3] st ((T, c, s), I, L) = mWP tb_L_law Q 662 [a0, a1, a2, a3] (.int 1 :: st) ((T, c, s), I, L) := mWP_eq mt_L_law _ _ _ _ _
set_option maxRecDepth 100000 in
theorem e_L_law_662 {Q : mQo} {T : List mSh} {c s : Nat} {I : Nat → Nat → Int32} {L : Nat → Nat → Int64} {st : List Value} {a0 a1 a2 a3 : Option Value} {x y : Int32} : mWP tb_L_law Q 662 [a0, a1, a2, a3] (.int y :: .int x :: st) ((T, c, s), I, L) = mWP tb_L_law Q 663 [a0, a1, a2, a3] (.int (x + y) :: st) ((T, c, s), I, L) := mWP_eq mt_L_law _ _ _ _ _
set_option maxRecDepth 100000 in
theorem e_L_law_663 {Q : mQo} {T : List mSh} {c s : Nat} {I : Nat → Nat → Int32} {L : Nat → Nat → Int64} {st : List Value} {a0 a1 a2 a3 : Option Value} {x : Nat} {y : Int32} : mWP tb_L_law Q 663 [a0, a1, a2, a3] (.int y :: .ref x :: st) ((T, c, s), I, L) = (mTg (T, c, s) x = 0 ∧ vp_in y (mLn (T, c, s) x) ∧ mWP tb_L_law Q 664 [a0, a1, a2, a3] (.int (I x y.toNatClampNeg) :: st) ((T, c, s), I, L)) := mWP_eq mt_L_law _ _ _ _ _
set_option maxRecDepth 100000 in
theorem e_L_law_664 {Q : mQo} {T : List mSh} {c s : Nat} {I : Nat → Nat → Int32} {L : Nat → Nat → Int64} {st : List Value} {a1 a2 a3 : Option Value} {x : Nat} : mWP tb_L_law Q 664 [some (.ref x), a1, a2, a3] st ((T, c, s), I, L) = mWP tb_L_law Q 665 [some (.ref x), a1, a2, a3] (.ref x :: st) ((T, c, s), I, L) := mWP_eq mt_L_law _ _ _ _ _
set_option maxRecDepth 100000 in
theorem e_L_law_664n {Q : mQo} {T : List mSh} {c s : Nat} {I : Nat → Nat → Int32} {L : Nat → Nat → Int64} {st : List Value} {a1 a2 a3 : Option Value} : mWP tb_L_law Q 664 [some .null, a1, a2, a3] st ((T, c, s), I, L) = mWP tb_L_law Q 665 [some .null, a1, a2, a3] (.null :: st) ((T, c, s), I, L) := mWP_eq mt_L_law _ _ _ _ _
set_option maxRecDepth 100000 in
theorem e_L_law_665 {Q : mQo} {T : List mSh} {c s : Nat} {I : Nat → Nat → Int32} {L : Nat → Nat → Int64} {st : List Value} {a0 a1 a2 : Option Value} {x : Int32} : mWP tb_L_law Q 665 [a0, a1, a2, some (.int x)] st ((T, c, s), I, L) = mWP tb_L_law Q 666 [a0, a1, a2, some (.int x)] (.int x :: st) ((T, c, s), I, L) := mWP_eq mt_L_law _ _ _ _ _
set_option maxRecDepth 100000 in
theorem e_L_law_666 {Q : mQo} {T : List mSh} {c s : Nat} {I : Nat → Nat → Int32} {L : Nat → Nat → Int64} {st : List Value} {a0 a1 a2 a3 : Option Value} : mWP tb_L_law Q 666 [a0, a1, a2, a3] st ((T, c, s), I, L) = mWP tb_L_law Q 667 [a0, a1, a2, a3] (.int 2 :: st) ((T, c, s), I, L) := mWP_eq mt_L_law _ _ _ _ _
set_option maxRecDepth 100000 in
theorem e_L_law_667 {Q : mQo} {T : List mSh} {c s : Nat} {I : Nat → Nat → Int32} {L : Nat → Nat → Int64} {st : List Value} {a0 a1 a2 a3 : Option Value} {x y : Int32} : mWP tb_L_law Q 667 [a0, a1, a2, a3] (.int y :: .int x :: st) ((T, c, s), I, L) = mWP tb_L_law Q 668 [a0, a1, a2, a3] (.int (x + y) :: st) ((T, c, s), I, L) := mWP_eq mt_L_law _ _ _ _ _
set_option maxRecDepth 100000 in
theorem e_L_law_668 {Q : mQo} {T : List mSh} {c s : Nat} {I : Nat → Nat → Int32} {L : Nat → Nat → Int64} {st : List Value} {a0 a1 a2 a3 : Option Value} {x : Nat} {y : Int32} : mWP tb_L_law Q 668 [a0, a1, a2, a3] (.int y :: .ref x :: st) ((T, c, s), I, L) = (mTg (T, c, s) x = 0 ∧ vp_in y (mLn (T, c, s) x) ∧ mWP tb_L_law Q 669 [a0, a1, a2, a3] (.int (I x y.toNatClampNeg) :: st) ((T, c, s), I, L)) := mWP_eq mt_L_law _ _ _ _ _
set_option maxRecDepth 100000 in
theorem e_L_law_669 {Q : mQo} {T : List mSh} {c s : Nat} {I : Nat → Nat → Int32} {L : Nat → Nat → Int64} {st : List Value} {a1 a2 a3 : Option Value} {x : Nat} : mWP tb_L_law Q 669 [some (.ref x), a1, a2, a3] st ((T, c, s), I, L) = mWP tb_L_law Q 670 [some (.ref x), a1, a2, a3] (.ref x :: st) ((T, c, s), I, L) := mWP_eq mt_L_law _ _ _ _ _
set_option maxRecDepth 100000 in
theorem e_L_law_669n {Q : mQo} {T : List mSh} {c s : Nat} {I : Nat → Nat → Int32} {L : Nat → Nat → Int64} {st : List Value} {a1 a2 a3 : Option Value} : mWP tb_L_law Q 669 [some .null, a1, a2, a3] st ((T, c, s), I, L) = mWP tb_L_law Q 670 [some .null, a1, a2, a3] (.null :: st) ((T, c, s), I, L) := mWP_eq mt_L_law _ _ _ _ _
set_option maxRecDepth 100000 in
theorem e_L_law_670 {Q : mQo} {T : List mSh} {c s : Nat} {I : Nat → Nat → Int32} {L : Nat → Nat → Int64} {st : List Value} {a0 a1 a2 : Option Value} {x : Int32} : mWP tb_L_law Q 670 [a0, a1, a2, some (.int x)] st ((T, c, s), I, L) = mWP tb_L_law Q 671 [a0, a1, a2, some (.int x)] (.int x :: st) ((T, c, s), I, L) := mWP_eq mt_L_law _ _ _ _ _
set_option maxRecDepth 100000 in
theorem e_L_law_671 {Q : mQo} {T : List mSh} {c s : Nat} {I : Nat → Nat → Int32} {L : Nat → Nat → Int64} {st : List Value} {a0 a1 a2 a3 : Option Value} : mWP tb_L_law Q 671 [a0, a1, a2, a3] st ((T, c, s), I, L) = mWP tb_L_law Q 672 [a0, a1, a2, a3] (.int 3 :: st) ((T, c, s), I, L) := mWP_eq mt_L_law _ _ _ _ _
set_option maxRecDepth 100000 in
theorem e_L_law_672 {Q : mQo} {T : List mSh} {c s : Nat} {I : Nat → Nat → Int32} {L : Nat → Nat → Int64} {st : List Value} {a0 a1 a2 a3 : Option Value} {x y : Int32} : mWP tb_L_law Q 672 [a0, a1, a2, a3] (.int y :: .int x :: st) ((T, c, s), I, L) = mWP tb_L_law Q 673 [a0, a1, a2, a3] (.int (x + y) :: st) ((T, c, s), I, L) := mWP_eq mt_L_law _ _ _ _ _
set_option maxRecDepth 100000 in
theorem e_L_law_673 {Q : mQo} {T : List mSh} {c s : Nat} {I : Nat → Nat → Int32} {L : Nat → Nat → Int64} {st : List Value} {a0 a1 a2 a3 : Option Value} {x : Nat} {y : Int32} : mWP tb_L_law Q 673 [a0, a1, a2, a3] (.int y :: .ref x :: st) ((T, c, s), I, L) = (mTg (T, c, s) x = 0 ∧ vp_in y (mLn (T, c, s) x) ∧ mWP tb_L_law Q 674 [a0, a1, a2, a3] (.int (I x y.toNatClampNeg) :: st) ((T, c, s), I, L)) := mWP_eq mt_L_law _ _ _ _ _
set_option maxRecDepth 100000 in
theorem e_L_law_674 {Q : mQo} {T : List mSh} {c s : Nat} {I : Nat → Nat → Int32} {L : Nat → Nat → Int64} {st : List Value} {a1 a2 a3 : Option Value} {x : Nat} : mWP tb_L_law Q 674 [some (.ref x), a1, a2, a3] st ((T, c, s), I, L) = mWP tb_L_law Q 675 [some (.ref x), a1, a2, a3] (.ref x :: st) ((T, c, s), I, L) := mWP_eq mt_L_law _ _ _ _ _
set_option maxRecDepth 100000 in
theorem e_L_law_674n {Q : mQo} {T : List mSh} {c s : Nat} {I : Nat → Nat → Int32} {L : Nat → Nat → Int64} {st : List Value} {a1 a2 a3 : Option Value} : mWP tb_L_law Q 674 [some .null, a1, a2, a3] st ((T, c, s), I, L) = mWP tb_L_law Q 675 [some .null, a1, a2, a3] (.null :: st) ((T, c, s), I, L) := mWP_eq mt_L_law _ _ _ _ _
set_option maxRecDepth 100000 in
theorem e_L_law_675 {Q : mQo} {T : List mSh} {c s : Nat} {I : Nat → Nat → Int32} {L : Nat → Nat → Int64} {st : List Value} {a0 a1 a2 : Option Value} {x : Int32} : mWP tb_L_law Q 675 [a0, a1, a2, some (.int x)] st ((T, c, s), I, L) = mWP tb_L_law Q 676 [a0, a1, a2, some (.int x)] (.int x :: st) ((T, c, s), I, L) := mWP_eq mt_L_law _ _ _ _ _
set_option maxRecDepth 100000 in
theorem e_L_law_676 {Q : mQo} {T : List mSh} {c s : Nat} {I : Nat → Nat → Int32} {L : Nat → Nat → Int64} {st : List Value} {a0 a1 a2 a3 : Option Value} : mWP tb_L_law Q 676 [a0, a1, a2, a3] st ((T, c, s), I, L) = mWP tb_L_law Q 677 [a0, a1, a2, a3] (.int 4 :: st) ((T, c, s), I, L) := mWP_eq mt_L_law _ _ _ _ _
set_option maxRecDepth 100000 in
theorem e_L_law_677 {Q : mQo} {T : List mSh} {c s : Nat} {I : Nat → Nat → Int32} {L : Nat → Nat → Int64} {st : List Value} {a0 a1 a2 a3 : Option Value} {x y : Int32} : mWP tb_L_law Q 677 [a0, a1, a2, a3] (.int y :: .int x :: st) ((T, c, s), I, L) = mWP tb_L_law Q 678 [a0, a1, a2, a3] (.int (x + y) :: st) ((T, c, s), I, L) := mWP_eq mt_L_law _ _ _ _ _
set_option maxRecDepth 100000 in
theorem e_L_law_678 {Q : mQo} {T : List mSh} {c s : Nat} {I : Nat → Nat → Int32} {L : Nat → Nat → Int64} {st : List Value} {a0 a1 a2 a3 : Option Value} {x : Nat} {y : Int32} : mWP tb_L_law Q 678 [a0, a1, a2, a3] (.int y :: .ref x :: st) ((T, c, s), I, L) = (mTg (T, c, s) x = 0 ∧ vp_in y (mLn (T, c, s) x) ∧ mWP tb_L_law Q 679 [a0, a1, a2, a3] (.int (I x y.toNatClampNeg) :: st) ((T, c, s), I, L)) := mWP_eq mt_L_law _ _ _ _ _
set_option maxRecDepth 100000 in
theorem e_L_law_679 {Q : mQo} {T : List mSh} {c s : Nat} {I : Nat → Nat → Int32} {L : Nat → Nat → Int64} {st : List Value} {a0 a1 a2 a3 : Option Value} {v0 : Int32} {v1 : Int32} {v2 : Int32} {v3 : Int32} {o : Nat} : mWP tb_L_law Q 679 [a0, a1, a2, a3] (.int v3 :: .int v2 :: .int v1 :: .int v0 :: .ref o :: st) ((T, c, s), I, L) = (mTg (T, c, s) o = 13 ∧ (st.map Value.category).sum ≤ 8 ∧ C_X10_at [.ref o, .int v0, .int v1, .int v2, .int v3] (mZr (T, c, s), I, L) (fun r h' => h'.1 = mZr (T, c, s) ∧ mWP tb_L_law Q 682 [a0, a1, a2, a3] (r.toList ++ st) ((T, c, s), h'.2))) := (mWP_eq mt_L_law _ _ _ _ _).trans (eq_CV (Q := Q) 4 rfl)
set_option maxRecDepth 100000 in
theorem e_L_law_682 {Q : mQo} {T : List mSh} {c s : Nat} {I : Nat → Nat → Int32} {L : Nat → Nat → Int64} {st : List Value} {a0 a1 a3 : Option Value} {x : Nat} : mWP tb_L_law Q 682 [a0, a1, some (.ref x), a3] st ((T, c, s), I, L) = mWP tb_L_law Q 683 [a0, a1, some (.ref x), a3] (.ref x :: st) ((T, c, s), I, L) := mWP_eq mt_L_law _ _ _ _ _
set_option maxRecDepth 100000 in
theorem e_L_law_682n {Q : mQo} {T : List mSh} {c s : Nat} {I : Nat → Nat → Int32} {L : Nat → Nat → Int64} {st : List Value} {a0 a1 a3 : Option Value} : mWP tb_L_law Q 682 [a0, a1, some .null, a3] st ((T, c, s), I, L) = mWP tb_L_law Q 683 [a0, a1, some .null, a3] (.null :: st) ((T, c, s), I, L) := mWP_eq mt_L_law _ _ _ _ _
set_option maxRecDepth 100000 in
theorem e_L_law_683 {Q : mQo} {T : List mSh} {c s : Nat} {I : Nat → Nat → Int32} {L : Nat → Nat → Int64} {st : List Value} {a1 a2 a3 : Option Value} {x : Nat} : mWP tb_L_law Q 683 [some (.ref x), a1, a2, a3] st ((T, c, s), I, L) = mWP tb_L_law Q 684 [some (.ref x), a1, a2, a3] (.ref x :: st) ((T, c, s), I, L) := mWP_eq mt_L_law _ _ _ _ _
set_option maxRecDepth 100000 in
theorem e_L_law_683n {Q : mQo} {T : List mSh} {c s : Nat} {I : Nat → Nat → Int32} {L : Nat → Nat → Int64} {st : List Value} {a1 a2 a3 : Option Value} : mWP tb_L_law Q 683 [some .null, a1, a2, a3] st ((T, c, s), I, L) = mWP tb_L_law Q 684 [some .null, a1, a2, a3] (.null :: st) ((T, c, s), I, L) := mWP_eq mt_L_law _ _ _ _ _
set_option maxRecDepth 100000 in
theorem e_L_law_684 {Q : mQo} {T : List mSh} {c s : Nat} {I : Nat → Nat → Int32} {L : Nat → Nat → Int64} {st : List Value} {a0 a1 a2 : Option Value} {x : Int32} : mWP tb_L_law Q 684 [a0, a1, a2, some (.int x)] st ((T, c, s), I, L) = mWP tb_L_law Q 685 [a0, a1, a2, some (.int x)] (.int x :: st) ((T, c, s), I, L) := mWP_eq mt_L_law _ _ _ _ _
set_option maxRecDepth 100000 in
theorem e_L_law_685 {Q : mQo} {T : List mSh} {c s : Nat} {I : Nat → Nat → Int32} {L : Nat → Nat → Int64} {st : List Value} {a0 a1 a2 a3 : Option Value} : mWP tb_L_law Q 685 [a0, a1, a2, a3] st ((T, c, s), I, L) = mWP tb_L_law Q 686 [a0, a1, a2, a3] (.int 1 :: st) ((T, c, s), I, L) := mWP_eq mt_L_law _ _ _ _ _
set_option maxRecDepth 100000 in
theorem e_L_law_686 {Q : mQo} {T : List mSh} {c s : Nat} {I : Nat → Nat → Int32} {L : Nat → Nat → Int64} {st : List Value} {a0 a1 a2 a3 : Option Value} {x y : Int32} : mWP tb_L_law Q 686 [a0, a1, a2, a3] (.int y :: .int x :: st) ((T, c, s), I, L) = mWP tb_L_law Q 687 [a0, a1, a2, a3] (.int (x + y) :: st) ((T, c, s), I, L) := mWP_eq mt_L_law _ _ _ _ _
set_option maxRecDepth 100000 in
theorem e_L_law_687 {Q : mQo} {T : List mSh} {c s : Nat} {I : Nat → Nat → Int32} {L : Nat → Nat → Int64} {st : List Value} {a0 a1 a2 a3 : Option Value} {x : Nat} {y : Int32} : mWP tb_L_law Q 687 [a0, a1, a2, a3] (.int y :: .ref x :: st) ((T, c, s), I, L) = (mTg (T, c, s) x = 0 ∧ vp_in y (mLn (T, c, s) x) ∧ mWP tb_L_law Q 688 [a0, a1, a2, a3] (.int (I x y.toNatClampNeg) :: st) ((T, c, s), I, L)) := mWP_eq mt_L_law _ _ _ _ _
set_option maxRecDepth 100000 in
theorem e_L_law_688 {Q : mQo} {T : List mSh} {c s : Nat} {I : Nat → Nat → Int32} {L : Nat → Nat → Int64} {st : List Value} {a1 a2 a3 : Option Value} {x : Nat} : mWP tb_L_law Q 688 [some (.ref x), a1, a2, a3] st ((T, c, s), I, L) = mWP tb_L_law Q 689 [some (.ref x), a1, a2, a3] (.ref x :: st) ((T, c, s), I, L) := mWP_eq mt_L_law _ _ _ _ _
set_option maxRecDepth 100000 in
theorem e_L_law_688n {Q : mQo} {T : List mSh} {c s : Nat} {I : Nat → Nat → Int32} {L : Nat → Nat → Int64} {st : List Value} {a1 a2 a3 : Option Value} : mWP tb_L_law Q 688 [some .null, a1, a2, a3] st ((T, c, s), I, L) = mWP tb_L_law Q 689 [some .null, a1, a2, a3] (.null :: st) ((T, c, s), I, L) := mWP_eq mt_L_law _ _ _ _ _
set_option maxRecDepth 100000 in
theorem e_L_law_689 {Q : mQo} {T : List mSh} {c s : Nat} {I : Nat → Nat → Int32} {L : Nat → Nat → Int64} {st : List Value} {a0 a1 a2 : Option Value} {x : Int32} : mWP tb_L_law Q 689 [a0, a1, a2, some (.int x)] st ((T, c, s), I, L) = mWP tb_L_law Q 690 [a0, a1, a2, some (.int x)] (.int x :: st) ((T, c, s), I, L) := mWP_eq mt_L_law _ _ _ _ _
set_option maxRecDepth 100000 in
theorem e_L_law_690 {Q : mQo} {T : List mSh} {c s : Nat} {I : Nat → Nat → Int32} {L : Nat → Nat → Int64} {st : List Value} {a0 a1 a2 a3 : Option Value} : mWP tb_L_law Q 690 [a0, a1, a2, a3] st ((T, c, s), I, L) = mWP tb_L_law Q 691 [a0, a1, a2, a3] (.int 2 :: st) ((T, c, s), I, L) := mWP_eq mt_L_law _ _ _ _ _
set_option maxRecDepth 100000 in
theorem e_L_law_691 {Q : mQo} {T : List mSh} {c s : Nat} {I : Nat → Nat → Int32} {L : Nat → Nat → Int64} {st : List Value} {a0 a1 a2 a3 : Option Value} {x y : Int32} : mWP tb_L_law Q 691 [a0, a1, a2, a3] (.int y :: .int x :: st) ((T, c, s), I, L) = mWP tb_L_law Q 692 [a0, a1, a2, a3] (.int (x + y) :: st) ((T, c, s), I, L) := mWP_eq mt_L_law _ _ _ _ _
set_option maxRecDepth 100000 in
theorem e_L_law_692 {Q : mQo} {T : List mSh} {c s : Nat} {I : Nat → Nat → Int32} {L : Nat → Nat → Int64} {st : List Value} {a0 a1 a2 a3 : Option Value} {x : Nat} {y : Int32} : mWP tb_L_law Q 692 [a0, a1, a2, a3] (.int y :: .ref x :: st) ((T, c, s), I, L) = (mTg (T, c, s) x = 0 ∧ vp_in y (mLn (T, c, s) x) ∧ mWP tb_L_law Q 693 [a0, a1, a2, a3] (.int (I x y.toNatClampNeg) :: st) ((T, c, s), I, L)) := mWP_eq mt_L_law _ _ _ _ _
set_option maxRecDepth 100000 in
theorem e_L_law_693 {Q : mQo} {T : List mSh} {c s : Nat} {I : Nat → Nat → Int32} {L : Nat → Nat → Int64} {st : List Value} {a1 a2 a3 : Option Value} {x : Nat} : mWP tb_L_law Q 693 [some (.ref x), a1, a2, a3] st ((T, c, s), I, L) = mWP tb_L_law Q 694 [some (.ref x), a1, a2, a3] (.ref x :: st) ((T, c, s), I, L) := mWP_eq mt_L_law _ _ _ _ _
set_option maxRecDepth 100000 in
theorem e_L_law_693n {Q : mQo} {T : List mSh} {c s : Nat} {I : Nat → Nat → Int32} {L : Nat → Nat → Int64} {st : List Value} {a1 a2 a3 : Option Value} : mWP tb_L_law Q 693 [some .null, a1, a2, a3] st ((T, c, s), I, L) = mWP tb_L_law Q 694 [some .null, a1, a2, a3] (.null :: st) ((T, c, s), I, L) := mWP_eq mt_L_law _ _ _ _ _
set_option maxRecDepth 100000 in
theorem e_L_law_694 {Q : mQo} {T : List mSh} {c s : Nat} {I : Nat → Nat → Int32} {L : Nat → Nat → Int64} {st : List Value} {a0 a1 a2 : Option Value} {x : Int32} : mWP tb_L_law Q 694 [a0, a1, a2, some (.int x)] st ((T, c, s), I, L) = mWP tb_L_law Q 695 [a0, a1, a2, some (.int x)] (.int x :: st) ((T, c, s), I, L) := mWP_eq mt_L_law _ _ _ _ _
set_option maxRecDepth 100000 in
theorem e_L_law_695 {Q : mQo} {T : List mSh} {c s : Nat} {I : Nat → Nat → Int32} {L : Nat → Nat → Int64} {st : List Value} {a0 a1 a2 a3 : Option Value} : mWP tb_L_law Q 695 [a0, a1, a2, a3] st ((T, c, s), I, L) = mWP tb_L_law Q 696 [a0, a1, a2, a3] (.int 3 :: st) ((T, c, s), I, L) := mWP_eq mt_L_law _ _ _ _ _
set_option maxRecDepth 100000 in
theorem e_L_law_696 {Q : mQo} {T : List mSh} {c s : Nat} {I : Nat → Nat → Int32} {L : Nat → Nat → Int64} {st : List Value} {a0 a1 a2 a3 : Option Value} {x y : Int32} : mWP tb_L_law Q 696 [a0, a1, a2, a3] (.int y :: .int x :: st) ((T, c, s), I, L) = mWP tb_L_law Q 697 [a0, a1, a2, a3] (.int (x + y) :: st) ((T, c, s), I, L) := mWP_eq mt_L_law _ _ _ _ _
set_option maxRecDepth 100000 in
theorem e_L_law_697 {Q : mQo} {T : List mSh} {c s : Nat} {I : Nat → Nat → Int32} {L : Nat → Nat → Int64} {st : List Value} {a0 a1 a2 a3 : Option Value} {x : Nat} {y : Int32} : mWP tb_L_law Q 697 [a0, a1, a2, a3] (.int y :: .ref x :: st) ((T, c, s), I, L) = (mTg (T, c, s) x = 0 ∧ vp_in y (mLn (T, c, s) x) ∧ mWP tb_L_law Q 698 [a0, a1, a2, a3] (.int (I x y.toNatClampNeg) :: st) ((T, c, s), I, L)) := mWP_eq mt_L_law _ _ _ _ _
set_option maxRecDepth 100000 in
theorem e_L_law_698 {Q : mQo} {T : List mSh} {c s : Nat} {I : Nat → Nat → Int32} {L : Nat → Nat → Int64} {st : List Value} {a1 a2 a3 : Option Value} {x : Nat} : mWP tb_L_law Q 698 [some (.ref x), a1, a2, a3] st ((T, c, s), I, L) = mWP tb_L_law Q 699 [some (.ref x), a1, a2, a3] (.ref x :: st) ((T, c, s), I, L) := mWP_eq mt_L_law _ _ _ _ _
set_option maxRecDepth 100000 in
theorem e_L_law_698n {Q : mQo} {T : List mSh} {c s : Nat} {I : Nat → Nat → Int32} {L : Nat → Nat → Int64} {st : List Value} {a1 a2 a3 : Option Value} : mWP tb_L_law Q 698 [some .null, a1, a2, a3] st ((T, c, s), I, L) = mWP tb_L_law Q 699 [some .null, a1, a2, a3] (.null :: st) ((T, c, s), I, L) := mWP_eq mt_L_law _ _ _ _ _
set_option maxRecDepth 100000 in
theorem e_L_law_699 {Q : mQo} {T : List mSh} {c s : Nat} {I : Nat → Nat → Int32} {L : Nat → Nat → Int64} {st : List Value} {a0 a1 a2 : Option Value} {x : Int32} : mWP tb_L_law Q 699 [a0, a1, a2, some (.int x)] st ((T, c, s), I, L) = mWP tb_L_law Q 700 [a0, a1, a2, some (.int x)] (.int x :: st) ((T, c, s), I, L) := mWP_eq mt_L_law _ _ _ _ _
set_option maxRecDepth 100000 in
theorem e_L_law_700 {Q : mQo} {T : List mSh} {c s : Nat} {I : Nat → Nat → Int32} {L : Nat → Nat → Int64} {st : List Value} {a0 a1 a2 a3 : Option Value} : mWP tb_L_law Q 700 [a0, a1, a2, a3] st ((T, c, s), I, L) = mWP tb_L_law Q 701 [a0, a1, a2, a3] (.int 4 :: st) ((T, c, s), I, L) := mWP_eq mt_L_law _ _ _ _ _
set_option maxRecDepth 100000 in
theorem e_L_law_701 {Q : mQo} {T : List mSh} {c s : Nat} {I : Nat → Nat → Int32} {L : Nat → Nat → Int64} {st : List Value} {a0 a1 a2 a3 : Option Value} {x y : Int32} : mWP tb_L_law Q 701 [a0, a1, a2, a3] (.int y :: .int x :: st) ((T, c, s), I, L) = mWP tb_L_law Q 702 [a0, a1, a2, a3] (.int (x + y) :: st) ((T, c, s), I, L) := mWP_eq mt_L_law _ _ _ _ _
set_option maxRecDepth 100000 in
theorem e_L_law_702 {Q : mQo} {T : List mSh} {c s : Nat} {I : Nat → Nat → Int32} {L : Nat → Nat → Int64} {st : List Value} {a0 a1 a2 a3 : Option Value} {x : Nat} {y : Int32} : mWP tb_L_law Q 702 [a0, a1, a2, a3] (.int y :: .ref x :: st) ((T, c, s), I, L) = (mTg (T, c, s) x = 0 ∧ vp_in y (mLn (T, c, s) x) ∧ mWP tb_L_law Q 703 [a0, a1, a2, a3] (.int (I x y.toNatClampNeg) :: st) ((T, c, s), I, L)) := mWP_eq mt_L_law _ _ _ _ _
set_option maxRecDepth 100000 in
theorem e_L_law_703 {Q : mQo} {T : List mSh} {c s : Nat} {I : Nat → Nat → Int32} {L : Nat → Nat → Int64} {st : List Value} {a0 a1 a2 a3 : Option Value} {v0 : Int32} {v1 : Int32} {v2 : Int32} {v3 : Int32} {o : Nat} : mWP tb_L_law Q 703 [a0, a1, a2, a3] (.int v3 :: .int v2 :: .int v1 :: .int v0 :: .ref o :: st) ((T, c, s), I, L) = (mTg (T, c, s) o = 14 ∧ (st.map Value.category).sum ≤ 8 ∧ C_X11_at [.ref o, .int v0, .int v1, .int v2, .int v3] (mZr (T, c, s), I, L) (fun r h' => h'.1 = mZr (T, c, s) ∧ mWP tb_L_law Q 706 [a0, a1, a2, a3] (r.toList ++ st) ((T, c, s), h'.2))) := (mWP_eq mt_L_law _ _ _ _ _).trans (eq_CV (Q := Q) 4 rfl)
set_option maxRecDepth 100000 in
theorem e_L_law_706 {Q : mQo} {T : List mSh} {c s : Nat} {I : Nat → Nat → Int32} {L : Nat → Nat → Int64} {st : List Value} {a0 a1 a2 a3 : Option Value} {x y : Int64} : mWP tb_L_law Q 706 [a0, a1, a2, a3] (.long y :: .long x :: st) ((T, c, s), I, L) = mWP tb_L_law Q 707 [a0, a1, a2, a3] (.int (lg_cmp x y) :: st) ((T, c, s), I, L) := mWP_eq mt_L_law _ _ _ _ _
set_option maxRecDepth 100000 in
theorem e_L_law_707 {Q : mQo} {T : List mSh} {c s : Nat} {I : Nat → Nat → Int32} {L : Nat → Nat → Int64} {st : List Value} {a0 a1 a2 a3 : Option Value} {x : Int32} : mWP tb_L_law Q 707 [a0, a1, a2, a3] (.int x :: st) ((T, c, s), I, L) = ((x = 0 → mWP tb_L_law Q 1460 [a0, a1, a2, a3] st ((T, c, s), I, L)) ∧ (¬ (x = 0) → mWP tb_L_law Q 710 [a0, a1, a2, a3] st ((T, c, s), I, L))) := mWP_eq mt_L_law _ _ _ _ _
set_option maxRecDepth 100000 in
theorem e_L_law_710 {Q : mQo} {T : List mSh} {c s : Nat} {I : Nat → Nat → Int32} {L : Nat → Nat → Int64} {st : List Value} {a0 a1 a2 a3 : Option Value} : mWP tb_L_law Q 710 [a0, a1, a2, a3] st ((T, c, s), I, L) = mWP tb_L_law Q 711 [a0, a1, a2, a3] (.int 0 :: st) ((T, c, s), I, L) := mWP_eq mt_L_law _ _ _ _ _
set_option maxRecDepth 100000 in
theorem e_L_law_711 {Q : mQo} {T : List mSh} {c s : Nat} {I : Nat → Nat → Int32} {L : Nat → Nat → Int64} {a0 a1 a2 a3 : Option Value} {x : Int32} : mWP tb_L_law Q 711 [a0, a1, a2, a3] [.int x] ((T, c, s), I, L) = ((x = 0 ∨ x = 1) ∧ Q (some (.int x)) ((T, c, s), I, L)) := mWP_eq mt_L_law _ _ _ _ _
set_option maxRecDepth 100000 in
theorem e_L_law_712 {Q : mQo} {T : List mSh} {c s : Nat} {I : Nat → Nat → Int32} {L : Nat → Nat → Int64} {st : List Value} {a0 a2 a3 : Option Value} {x : Nat} : mWP tb_L_law Q 712 [a0, some (.ref x), a2, a3] st ((T, c, s), I, L) = mWP tb_L_law Q 713 [a0, some (.ref x), a2, a3] (.ref x :: st) ((T, c, s), I, L) := mWP_eq mt_L_law _ _ _ _ _
set_option maxRecDepth 100000 in
theorem e_L_law_712n {Q : mQo} {T : List mSh} {c s : Nat} {I : Nat → Nat → Int32} {L : Nat → Nat → Int64} {st : List Value} {a0 a2 a3 : Option Value} : mWP tb_L_law Q 712 [a0, some .null, a2, a3] st ((T, c, s), I, L) = mWP tb_L_law Q 713 [a0, some .null, a2, a3] (.null :: st) ((T, c, s), I, L) := mWP_eq mt_L_law _ _ _ _ _
set_option maxRecDepth 100000 in
theorem e_L_law_713 {Q : mQo} {T : List mSh} {c s : Nat} {I : Nat → Nat → Int32} {L : Nat → Nat → Int64} {st : List Value} {a1 a2 a3 : Option Value} {x : Nat} : mWP tb_L_law Q 713 [some (.ref x), a1, a2, a3] st ((T, c, s), I, L) = mWP tb_L_law Q 714 [some (.ref x), a1, a2, a3] (.ref x :: st) ((T, c, s), I, L) := mWP_eq mt_L_law _ _ _ _ _
set_option maxRecDepth 100000 in
theorem e_L_law_713n {Q : mQo} {T : List mSh} {c s : Nat} {I : Nat → Nat → Int32} {L : Nat → Nat → Int64} {st : List Value} {a1 a2 a3 : Option Value} : mWP tb_L_law Q 713 [some .null, a1, a2, a3] st ((T, c, s), I, L) = mWP tb_L_law Q 714 [some .null, a1, a2, a3] (.null :: st) ((T, c, s), I, L) := mWP_eq mt_L_law _ _ _ _ _
set_option maxRecDepth 100000 in
theorem e_L_law_714 {Q : mQo} {T : List mSh} {c s : Nat} {I : Nat → Nat → Int32} {L : Nat → Nat → Int64} {st : List Value} {a0 a1 a2 : Option Value} {x : Int32} : mWP tb_L_law Q 714 [a0, a1, a2, some (.int x)] st ((T, c, s), I, L) = mWP tb_L_law Q 715 [a0, a1, a2, some (.int x)] (.int x :: st) ((T, c, s), I, L) := mWP_eq mt_L_law _ _ _ _ _
set_option maxRecDepth 100000 in
theorem e_L_law_715 {Q : mQo} {T : List mSh} {c s : Nat} {I : Nat → Nat → Int32} {L : Nat → Nat → Int64} {st : List Value} {a0 a1 a2 a3 : Option Value} : mWP tb_L_law Q 715 [a0, a1, a2, a3] st ((T, c, s), I, L) = mWP tb_L_law Q 716 [a0, a1, a2, a3] (.int 1 :: st) ((T, c, s), I, L) := mWP_eq mt_L_law _ _ _ _ _
set_option maxRecDepth 100000 in
theorem e_L_law_716 {Q : mQo} {T : List mSh} {c s : Nat} {I : Nat → Nat → Int32} {L : Nat → Nat → Int64} {st : List Value} {a0 a1 a2 a3 : Option Value} {x y : Int32} : mWP tb_L_law Q 716 [a0, a1, a2, a3] (.int y :: .int x :: st) ((T, c, s), I, L) = mWP tb_L_law Q 717 [a0, a1, a2, a3] (.int (x + y) :: st) ((T, c, s), I, L) := mWP_eq mt_L_law _ _ _ _ _
set_option maxRecDepth 100000 in
theorem e_L_law_717 {Q : mQo} {T : List mSh} {c s : Nat} {I : Nat → Nat → Int32} {L : Nat → Nat → Int64} {st : List Value} {a0 a1 a2 a3 : Option Value} {x : Nat} {y : Int32} : mWP tb_L_law Q 717 [a0, a1, a2, a3] (.int y :: .ref x :: st) ((T, c, s), I, L) = (mTg (T, c, s) x = 0 ∧ vp_in y (mLn (T, c, s) x) ∧ mWP tb_L_law Q 718 [a0, a1, a2, a3] (.int (I x y.toNatClampNeg) :: st) ((T, c, s), I, L)) := mWP_eq mt_L_law _ _ _ _ _
set_option maxRecDepth 100000 in
theorem e_L_law_718 {Q : mQo} {T : List mSh} {c s : Nat} {I : Nat → Nat → Int32} {L : Nat → Nat → Int64} {st : List Value} {a1 a2 a3 : Option Value} {x : Nat} : mWP tb_L_law Q 718 [some (.ref x), a1, a2, a3] st ((T, c, s), I, L) = mWP tb_L_law Q 719 [some (.ref x), a1, a2, a3] (.ref x :: st) ((T, c, s), I, L) := mWP_eq mt_L_law _ _ _ _ _
set_option maxRecDepth 100000 in
theorem e_L_law_718n {Q : mQo} {T : List mSh} {c s : Nat} {I : Nat → Nat → Int32} {L : Nat → Nat → Int64} {st : List Value} {a1 a2 a3 : Option Value} : mWP tb_L_law Q 718 [some .null, a1, a2, a3] st ((T, c, s), I, L) = mWP tb_L_law Q 719 [some .null, a1, a2, a3] (.null :: st) ((T, c, s), I, L) := mWP_eq mt_L_law _ _ _ _ _
set_option maxRecDepth 100000 in
theorem e_L_law_719 {Q : mQo} {T : List mSh} {c s : Nat} {I : Nat → Nat → Int32} {L : Nat → Nat → Int64} {st : List Value} {a0 a1 a2 : Option Value} {x : Int32} : mWP tb_L_law Q 719 [a0, a1, a2, some (.int x)] st ((T, c, s), I, L) = mWP tb_L_law Q 720 [a0, a1, a2, some (.int x)] (.int x :: st) ((T, c, s), I, L) := mWP_eq mt_L_law _ _ _ _ _
set_option maxRecDepth 100000 in
theorem e_L_law_720 {Q : mQo} {T : List mSh} {c s : Nat} {I : Nat → Nat → Int32} {L : Nat → Nat → Int64} {st : List Value} {a0 a1 a2 a3 : Option Value} : mWP tb_L_law Q 720 [a0, a1, a2, a3] st ((T, c, s), I, L) = mWP tb_L_law Q 721 [a0, a1, a2, a3] (.int 2 :: st) ((T, c, s), I, L) := mWP_eq mt_L_law _ _ _ _ _
set_option maxRecDepth 100000 in
theorem e_L_law_721 {Q : mQo} {T : List mSh} {c s : Nat} {I : Nat → Nat → Int32} {L : Nat → Nat → Int64} {st : List Value} {a0 a1 a2 a3 : Option Value} {x y : Int32} : mWP tb_L_law Q 721 [a0, a1, a2, a3] (.int y :: .int x :: st) ((T, c, s), I, L) = mWP tb_L_law Q 722 [a0, a1, a2, a3] (.int (x + y) :: st) ((T, c, s), I, L) := mWP_eq mt_L_law _ _ _ _ _
set_option maxRecDepth 100000 in
theorem e_L_law_722 {Q : mQo} {T : List mSh} {c s : Nat} {I : Nat → Nat → Int32} {L : Nat → Nat → Int64} {st : List Value} {a0 a1 a2 a3 : Option Value} {x : Nat} {y : Int32} : mWP tb_L_law Q 722 [a0, a1, a2, a3] (.int y :: .ref x :: st) ((T, c, s), I, L) = (mTg (T, c, s) x = 0 ∧ vp_in y (mLn (T, c, s) x) ∧ mWP tb_L_law Q 723 [a0, a1, a2, a3] (.int (I x y.toNatClampNeg) :: st) ((T, c, s), I, L)) := mWP_eq mt_L_law _ _ _ _ _
set_option maxRecDepth 100000 in
theorem e_L_law_723 {Q : mQo} {T : List mSh} {c s : Nat} {I : Nat → Nat → Int32} {L : Nat → Nat → Int64} {st : List Value} {a1 a2 a3 : Option Value} {x : Nat} : mWP tb_L_law Q 723 [some (.ref x), a1, a2, a3] st ((T, c, s), I, L) = mWP tb_L_law Q 724 [some (.ref x), a1, a2, a3] (.ref x :: st) ((T, c, s), I, L) := mWP_eq mt_L_law _ _ _ _ _
set_option maxRecDepth 100000 in
theorem e_L_law_723n {Q : mQo} {T : List mSh} {c s : Nat} {I : Nat → Nat → Int32} {L : Nat → Nat → Int64} {st : List Value} {a1 a2 a3 : Option Value} : mWP tb_L_law Q 723 [some .null, a1, a2, a3] st ((T, c, s), I, L) = mWP tb_L_law Q 724 [some .null, a1, a2, a3] (.null :: st) ((T, c, s), I, L) := mWP_eq mt_L_law _ _ _ _ _
set_option maxRecDepth 100000 in
theorem e_L_law_724 {Q : mQo} {T : List mSh} {c s : Nat} {I : Nat → Nat → Int32} {L : Nat → Nat → Int64} {st : List Value} {a0 a1 a2 : Option Value} {x : Int32} : mWP tb_L_law Q 724 [a0, a1, a2, some (.int x)] st ((T, c, s), I, L) = mWP tb_L_law Q 725 [a0, a1, a2, some (.int x)] (.int x :: st) ((T, c, s), I, L) := mWP_eq mt_L_law _ _ _ _ _
set_option maxRecDepth 100000 in
theorem e_L_law_725 {Q : mQo} {T : List mSh} {c s : Nat} {I : Nat → Nat → Int32} {L : Nat → Nat → Int64} {st : List Value} {a0 a1 a2 a3 : Option Value} : mWP tb_L_law Q 725 [a0, a1, a2, a3] st ((T, c, s), I, L) = mWP tb_L_law Q 726 [a0, a1, a2, a3] (.int 3 :: st) ((T, c, s), I, L) := mWP_eq mt_L_law _ _ _ _ _
set_option maxRecDepth 100000 in
theorem e_L_law_726 {Q : mQo} {T : List mSh} {c s : Nat} {I : Nat → Nat → Int32} {L : Nat → Nat → Int64} {st : List Value} {a0 a1 a2 a3 : Option Value} {x y : Int32} : mWP tb_L_law Q 726 [a0, a1, a2, a3] (.int y :: .int x :: st) ((T, c, s), I, L) = mWP tb_L_law Q 727 [a0, a1, a2, a3] (.int (x + y) :: st) ((T, c, s), I, L) := mWP_eq mt_L_law _ _ _ _ _
set_option maxRecDepth 100000 in
theorem e_L_law_727 {Q : mQo} {T : List mSh} {c s : Nat} {I : Nat → Nat → Int32} {L : Nat → Nat → Int64} {st : List Value} {a0 a1 a2 a3 : Option Value} {x : Nat} {y : Int32} : mWP tb_L_law Q 727 [a0, a1, a2, a3] (.int y :: .ref x :: st) ((T, c, s), I, L) = (mTg (T, c, s) x = 0 ∧ vp_in y (mLn (T, c, s) x) ∧ mWP tb_L_law Q 728 [a0, a1, a2, a3] (.int (I x y.toNatClampNeg) :: st) ((T, c, s), I, L)) := mWP_eq mt_L_law _ _ _ _ _
set_option maxRecDepth 100000 in
theorem e_L_law_728 {Q : mQo} {T : List mSh} {c s : Nat} {I : Nat → Nat → Int32} {L : Nat → Nat → Int64} {st : List Value} {a0 a1 a2 a3 : Option Value} {v0 : Int32} {v1 : Int32} {v2 : Int32} {o : Nat} : mWP tb_L_law Q 728 [a0, a1, a2, a3] (.int v2 :: .int v1 :: .int v0 :: .ref o :: st) ((T, c, s), I, L) = (mTg (T, c, s) o = 13 ∧ (st.map Value.category).sum ≤ 8 ∧ C_X10_barAt [.ref o, .int v0, .int v1, .int v2] (mZr (T, c, s), I, L) (fun r h' => h'.1 = mZr (T, c, s) ∧ mWP tb_L_law Q 731 [a0, a1, a2, a3] (r.toList ++ st) ((T, c, s), h'.2))) := (mWP_eq mt_L_law _ _ _ _ _).trans (eq_CV (Q := Q) 3 rfl)
set_option maxRecDepth 100000 in
theorem e_L_law_731 {Q : mQo} {T : List mSh} {c s : Nat} {I : Nat → Nat → Int32} {L : Nat → Nat → Int64} {st : List Value} {a0 a1 a3 : Option Value} {x : Nat} : mWP tb_L_law Q 731 [a0, a1, some (.ref x), a3] st ((T, c, s), I, L) = mWP tb_L_law Q 732 [a0, a1, some (.ref x), a3] (.ref x :: st) ((T, c, s), I, L) := mWP_eq mt_L_law _ _ _ _ _
set_option maxRecDepth 100000 in
theorem e_L_law_731n {Q : mQo} {T : List mSh} {c s : Nat} {I : Nat → Nat → Int32} {L : Nat → Nat → Int64} {st : List Value} {a0 a1 a3 : Option Value} : mWP tb_L_law Q 731 [a0, a1, some .null, a3] st ((T, c, s), I, L) = mWP tb_L_law Q 732 [a0, a1, some .null, a3] (.null :: st) ((T, c, s), I, L) := mWP_eq mt_L_law _ _ _ _ _
set_option maxRecDepth 100000 in
theorem e_L_law_732 {Q : mQo} {T : List mSh} {c s : Nat} {I : Nat → Nat → Int32} {L : Nat → Nat → Int64} {st : List Value} {a1 a2 a3 : Option Value} {x : Nat} : mWP tb_L_law Q 732 [some (.ref x), a1, a2, a3] st ((T, c, s), I, L) = mWP tb_L_law Q 733 [some (.ref x), a1, a2, a3] (.ref x :: st) ((T, c, s), I, L) := mWP_eq mt_L_law _ _ _ _ _
set_option maxRecDepth 100000 in
theorem e_L_law_732n {Q : mQo} {T : List mSh} {c s : Nat} {I : Nat → Nat → Int32} {L : Nat → Nat → Int64} {st : List Value} {a1 a2 a3 : Option Value} : mWP tb_L_law Q 732 [some .null, a1, a2, a3] st ((T, c, s), I, L) = mWP tb_L_law Q 733 [some .null, a1, a2, a3] (.null :: st) ((T, c, s), I, L) := mWP_eq mt_L_law _ _ _ _ _
set_option maxRecDepth 100000 in
theorem e_L_law_733 {Q : mQo} {T : List mSh} {c s : Nat} {I : Nat → Nat → Int32} {L : Nat → Nat → Int64} {st : List Value} {a0 a1 a2 : Option Value} {x : Int32} : mWP tb_L_law Q 733 [a0, a1, a2, some (.int x)] st ((T, c, s), I, L) = mWP tb_L_law Q 734 [a0, a1, a2, some (.int x)] (.int x :: st) ((T, c, s), I, L) := mWP_eq mt_L_law _ _ _ _ _
set_option maxRecDepth 100000 in
theorem e_L_law_734 {Q : mQo} {T : List mSh} {c s : Nat} {I : Nat → Nat → Int32} {L : Nat → Nat → Int64} {st : List Value} {a0 a1 a2 a3 : Option Value} : mWP tb_L_law Q 734 [a0, a1, a2, a3] st ((T, c, s), I, L) = mWP tb_L_law Q 735 [a0, a1, a2, a3] (.int 1 :: st) ((T, c, s), I, L) := mWP_eq mt_L_law _ _ _ _ _
set_option maxRecDepth 100000 in
theorem e_L_law_735 {Q : mQo} {T : List mSh} {c s : Nat} {I : Nat → Nat → Int32} {L : Nat → Nat → Int64} {st : List Value} {a0 a1 a2 a3 : Option Value} {x y : Int32} : mWP tb_L_law Q 735 [a0, a1, a2, a3] (.int y :: .int x :: st) ((T, c, s), I, L) = mWP tb_L_law Q 736 [a0, a1, a2, a3] (.int (x + y) :: st) ((T, c, s), I, L) := mWP_eq mt_L_law _ _ _ _ _
set_option maxRecDepth 100000 in
theorem e_L_law_736 {Q : mQo} {T : List mSh} {c s : Nat} {I : Nat → Nat → Int32} {L : Nat → Nat → Int64} {st : List Value} {a0 a1 a2 a3 : Option Value} {x : Nat} {y : Int32} : mWP tb_L_law Q 736 [a0, a1, a2, a3] (.int y :: .ref x :: st) ((T, c, s), I, L) = (mTg (T, c, s) x = 0 ∧ vp_in y (mLn (T, c, s) x) ∧ mWP tb_L_law Q 737 [a0, a1, a2, a3] (.int (I x y.toNatClampNeg) :: st) ((T, c, s), I, L)) := mWP_eq mt_L_law _ _ _ _ _
set_option maxRecDepth 100000 in
theorem e_L_law_737 {Q : mQo} {T : List mSh} {c s : Nat} {I : Nat → Nat → Int32} {L : Nat → Nat → Int64} {st : List Value} {a1 a2 a3 : Option Value} {x : Nat} : mWP tb_L_law Q 737 [some (.ref x), a1, a2, a3] st ((T, c, s), I, L) = mWP tb_L_law Q 738 [some (.ref x), a1, a2, a3] (.ref x :: st) ((T, c, s), I, L) := mWP_eq mt_L_law _ _ _ _ _
set_option maxRecDepth 100000 in
theorem e_L_law_737n {Q : mQo} {T : List mSh} {c s : Nat} {I : Nat → Nat → Int32} {L : Nat → Nat → Int64} {st : List Value} {a1 a2 a3 : Option Value} : mWP tb_L_law Q 737 [some .null, a1, a2, a3] st ((T, c, s), I, L) = mWP tb_L_law Q 738 [some .null, a1, a2, a3] (.null :: st) ((T, c, s), I, L) := mWP_eq mt_L_law _ _ _ _ _
set_option maxRecDepth 100000 in
theorem e_L_law_738 {Q : mQo} {T : List mSh} {c s : Nat} {I : Nat → Nat → Int32} {L : Nat → Nat → Int64} {st : List Value} {a0 a1 a2 : Option Value} {x : Int32} : mWP tb_L_law Q 738 [a0, a1, a2, some (.int x)] st ((T, c, s), I, L) = mWP tb_L_law Q 739 [a0, a1, a2, some (.int x)] (.int x :: st) ((T, c, s), I, L) := mWP_eq mt_L_law _ _ _ _ _
set_option maxRecDepth 100000 in
theorem e_L_law_739 {Q : mQo} {T : List mSh} {c s : Nat} {I : Nat → Nat → Int32} {L : Nat → Nat → Int64} {st : List Value} {a0 a1 a2 a3 : Option Value} : mWP tb_L_law Q 739 [a0, a1, a2, a3] st ((T, c, s), I, L) = mWP tb_L_law Q 740 [a0, a1, a2, a3] (.int 2 :: st) ((T, c, s), I, L) := mWP_eq mt_L_law _ _ _ _ _
set_option maxRecDepth 100000 in
theorem e_L_law_740 {Q : mQo} {T : List mSh} {c s : Nat} {I : Nat → Nat → Int32} {L : Nat → Nat → Int64} {st : List Value} {a0 a1 a2 a3 : Option Value} {x y : Int32} : mWP tb_L_law Q 740 [a0, a1, a2, a3] (.int y :: .int x :: st) ((T, c, s), I, L) = mWP tb_L_law Q 741 [a0, a1, a2, a3] (.int (x + y) :: st) ((T, c, s), I, L) := mWP_eq mt_L_law _ _ _ _ _
set_option maxRecDepth 100000 in
theorem e_L_law_741 {Q : mQo} {T : List mSh} {c s : Nat} {I : Nat → Nat → Int32} {L : Nat → Nat → Int64} {st : List Value} {a0 a1 a2 a3 : Option Value} {x : Nat} {y : Int32} : mWP tb_L_law Q 741 [a0, a1, a2, a3] (.int y :: .ref x :: st) ((T, c, s), I, L) = (mTg (T, c, s) x = 0 ∧ vp_in y (mLn (T, c, s) x) ∧ mWP tb_L_law Q 742 [a0, a1, a2, a3] (.int (I x y.toNatClampNeg) :: st) ((T, c, s), I, L)) := mWP_eq mt_L_law _ _ _ _ _
set_option maxRecDepth 100000 in
theorem e_L_law_742 {Q : mQo} {T : List mSh} {c s : Nat} {I : Nat → Nat → Int32} {L : Nat → Nat → Int64} {st : List Value} {a1 a2 a3 : Option Value} {x : Nat} : mWP tb_L_law Q 742 [some (.ref x), a1, a2, a3] st ((T, c, s), I, L) = mWP tb_L_law Q 743 [some (.ref x), a1, a2, a3] (.ref x :: st) ((T, c, s), I, L) := mWP_eq mt_L_law _ _ _ _ _
set_option maxRecDepth 100000 in
theorem e_L_law_742n {Q : mQo} {T : List mSh} {c s : Nat} {I : Nat → Nat → Int32} {L : Nat → Nat → Int64} {st : List Value} {a1 a2 a3 : Option Value} : mWP tb_L_law Q 742 [some .null, a1, a2, a3] st ((T, c, s), I, L) = mWP tb_L_law Q 743 [some .null, a1, a2, a3] (.null :: st) ((T, c, s), I, L) := mWP_eq mt_L_law _ _ _ _ _
set_option maxRecDepth 100000 in
theorem e_L_law_743 {Q : mQo} {T : List mSh} {c s : Nat} {I : Nat → Nat → Int32} {L : Nat → Nat → Int64} {st : List Value} {a0 a1 a2 : Option Value} {x : Int32} : mWP tb_L_law Q 743 [a0, a1, a2, some (.int x)] st ((T, c, s), I, L) = mWP tb_L_law Q 744 [a0, a1, a2, some (.int x)] (.int x :: st) ((T, c, s), I, L) := mWP_eq mt_L_law _ _ _ _ _
set_option maxRecDepth 100000 in
theorem e_L_law_744 {Q : mQo} {T : List mSh} {c s : Nat} {I : Nat → Nat → Int32} {L : Nat → Nat → Int64} {st : List Value} {a0 a1 a2 a3 : Option Value} : mWP tb_L_law Q 744 [a0, a1, a2, a3] st ((T, c, s), I, L) = mWP tb_L_law Q 745 [a0, a1, a2, a3] (.int 3 :: st) ((T, c, s), I, L) := mWP_eq mt_L_law _ _ _ _ _
set_option maxRecDepth 100000 in
theorem e_L_law_745 {Q : mQo} {T : List mSh} {c s : Nat} {I : Nat → Nat → Int32} {L : Nat → Nat → Int64} {st : List Value} {a0 a1 a2 a3 : Option Value} {x y : Int32} : mWP tb_L_law Q 745 [a0, a1, a2, a3] (.int y :: .int x :: st) ((T, c, s), I, L) = mWP tb_L_law Q 746 [a0, a1, a2, a3] (.int (x + y) :: st) ((T, c, s), I, L) := mWP_eq mt_L_law _ _ _ _ _
set_option maxRecDepth 100000 in
theorem e_L_law_746 {Q : mQo} {T : List mSh} {c s : Nat} {I : Nat → Nat → Int32} {L : Nat → Nat → Int64} {st : List Value} {a0 a1 a2 a3 : Option Value} {x : Nat} {y : Int32} : mWP tb_L_law Q 746 [a0, a1, a2, a3] (.int y :: .ref x :: st) ((T, c, s), I, L) = (mTg (T, c, s) x = 0 ∧ vp_in y (mLn (T, c, s) x) ∧ mWP tb_L_law Q 747 [a0, a1, a2, a3] (.int (I x y.toNatClampNeg) :: st) ((T, c, s), I, L)) := mWP_eq mt_L_law _ _ _ _ _
set_option maxRecDepth 100000 in
theorem e_L_law_747 {Q : mQo} {T : List mSh} {c s : Nat} {I : Nat → Nat → Int32} {L : Nat → Nat → Int64} {st : List Value} {a0 a1 a2 a3 : Option Value} {v0 : Int32} {v1 : Int32} {v2 : Int32} {o : Nat} : mWP tb_L_law Q 747 [a0, a1, a2, a3] (.int v2 :: .int v1 :: .int v0 :: .ref o :: st) ((T, c, s), I, L) = (mTg (T, c, s) o = 14 ∧ (st.map Value.category).sum ≤ 8 ∧ C_X11_barAt [.ref o, .int v0, .int v1, .int v2] (mZr (T, c, s), I, L) (fun r h' => h'.1 = mZr (T, c, s) ∧ mWP tb_L_law Q 750 [a0, a1, a2, a3] (r.toList ++ st) ((T, c, s), h'.2))) := (mWP_eq mt_L_law _ _ _ _ _).trans (eq_CV (Q := Q) 3 rfl)
set_option maxRecDepth 100000 in
theorem e_L_law_750 {Q : mQo} {T : List mSh} {c s : Nat} {I : Nat → Nat → Int32} {L : Nat → Nat → Int64} {st : List Value} {a0 a1 a2 a3 : Option Value} {x y : Int64} : mWP tb_L_law Q 750 [a0, a1, a2, a3] (.long y :: .long x :: st) ((T, c, s), I, L) = mWP tb_L_law Q 751 [a0, a1, a2, a3] (.int (lg_cmp x y) :: st) ((T, c, s), I, L) := mWP_eq mt_L_law _ _ _ _ _
set_option maxRecDepth 100000 in
theorem e_L_law_751 {Q : mQo} {T : List mSh} {c s : Nat} {I : Nat → Nat → Int32} {L : Nat → Nat → Int64} {st : List Value} {a0 a1 a2 a3 : Option Value} {x : Int32} : mWP tb_L_law Q 751 [a0, a1, a2, a3] (.int x :: st) ((T, c, s), I, L) = ((x = 0 → mWP tb_L_law Q 1460 [a0, a1, a2, a3] st ((T, c, s), I, L)) ∧ (¬ (x = 0) → mWP tb_L_law Q 754 [a0, a1, a2, a3] st ((T, c, s), I, L))) := mWP_eq mt_L_law _ _ _ _ _
set_option maxRecDepth 100000 in
theorem e_L_law_754 {Q : mQo} {T : List mSh} {c s : Nat} {I : Nat → Nat → Int32} {L : Nat → Nat → Int64} {st : List Value} {a0 a1 a2 a3 : Option Value} : mWP tb_L_law Q 754 [a0, a1, a2, a3] st ((T, c, s), I, L) = mWP tb_L_law Q 755 [a0, a1, a2, a3] (.int 0 :: st) ((T, c, s), I, L) := mWP_eq mt_L_law _ _ _ _ _
set_option maxRecDepth 100000 in
theorem e_L_law_755 {Q : mQo} {T : List mSh} {c s : Nat} {I : Nat → Nat → Int32} {L : Nat → Nat → Int64} {a0 a1 a2 a3 : Option Value} {x : Int32} : mWP tb_L_law Q 755 [a0, a1, a2, a3] [.int x] ((T, c, s), I, L) = ((x = 0 ∨ x = 1) ∧ Q (some (.int x)) ((T, c, s), I, L)) := mWP_eq mt_L_law _ _ _ _ _
set_option maxRecDepth 100000 in
theorem e_L_law_756 {Q : mQo} {T : List mSh} {c s : Nat} {I : Nat → Nat → Int32} {L : Nat → Nat → Int64} {st : List Value} {a0 a2 a3 : Option Value} {x : Nat} : mWP tb_L_law Q 756 [a0, some (.ref x), a2, a3] st ((T, c, s), I, L) = mWP tb_L_law Q 757 [a0, some (.ref x), a2, a3] (.ref x :: st) ((T, c, s), I, L) := mWP_eq mt_L_law _ _ _ _ _
set_option maxRecDepth 100000 in
theorem e_L_law_756n {Q : mQo} {T : List mSh} {c s : Nat} {I : Nat → Nat → Int32} {L : Nat → Nat → Int64} {st : List Value} {a0 a2 a3 : Option Value} : mWP tb_L_law Q 756 [a0, some .null, a2, a3] st ((T, c, s), I, L) = mWP tb_L_law Q 757 [a0, some .null, a2, a3] (.null :: st) ((T, c, s), I, L) := mWP_eq mt_L_law _ _ _ _ _
set_option maxRecDepth 100000 in
theorem e_L_law_757 {Q : mQo} {T : List mSh} {c s : Nat} {I : Nat → Nat → Int32} {L : Nat → Nat → Int64} {st : List Value} {a1 a2 a3 : Option Value} {x : Nat} : mWP tb_L_law Q 757 [some (.ref x), a1, a2, a3] st ((T, c, s), I, L) = mWP tb_L_law Q 758 [some (.ref x), a1, a2, a3] (.ref x :: st) ((T, c, s), I, L) := mWP_eq mt_L_law _ _ _ _ _
set_option maxRecDepth 100000 in
theorem e_L_law_757n {Q : mQo} {T : List mSh} {c s : Nat} {I : Nat → Nat → Int32} {L : Nat → Nat → Int64} {st : List Value} {a1 a2 a3 : Option Value} : mWP tb_L_law Q 757 [some .null, a1, a2, a3] st ((T, c, s), I, L) = mWP tb_L_law Q 758 [some .null, a1, a2, a3] (.null :: st) ((T, c, s), I, L) := mWP_eq mt_L_law _ _ _ _ _
set_option maxRecDepth 100000 in
theorem e_L_law_758 {Q : mQo} {T : List mSh} {c s : Nat} {I : Nat → Nat → Int32} {L : Nat → Nat → Int64} {st : List Value} {a0 a1 a2 : Option Value} {x : Int32} : mWP tb_L_law Q 758 [a0, a1, a2, some (.int x)] st ((T, c, s), I, L) = mWP tb_L_law Q 759 [a0, a1, a2, some (.int x)] (.int x :: st) ((T, c, s), I, L) := mWP_eq mt_L_law _ _ _ _ _
set_option maxRecDepth 100000 in
theorem e_L_law_759 {Q : mQo} {T : List mSh} {c s : Nat} {I : Nat → Nat → Int32} {L : Nat → Nat → Int64} {st : List Value} {a0 a1 a2 a3 : Option Value} : mWP tb_L_law Q 759 [a0, a1, a2, a3] st ((T, c, s), I, L) = mWP tb_L_law Q 760 [a0, a1, a2, a3] (.int 1 :: st) ((T, c, s), I, L) := mWP_eq mt_L_law _ _ _ _ _
set_option maxRecDepth 100000 in
theorem e_L_law_760 {Q : mQo} {T : List mSh} {c s : Nat} {I : Nat → Nat → Int32} {L : Nat → Nat → Int64} {st : List Value} {a0 a1 a2 a3 : Option Value} {x y : Int32} : mWP tb_L_law Q 760 [a0, a1, a2, a3] (.int y :: .int x :: st) ((T, c, s), I, L) = mWP tb_L_law Q 761 [a0, a1, a2, a3] (.int (x + y) :: st) ((T, c, s), I, L) := mWP_eq mt_L_law _ _ _ _ _
set_option maxRecDepth 100000 in
theorem e_L_law_761 {Q : mQo} {T : List mSh} {c s : Nat} {I : Nat → Nat → Int32} {L : Nat → Nat → Int64} {st : List Value} {a0 a1 a2 a3 : Option Value} {x : Nat} {y : Int32} : mWP tb_L_law Q 761 [a0, a1, a2, a3] (.int y :: .ref x :: st) ((T, c, s), I, L) = (mTg (T, c, s) x = 0 ∧ vp_in y (mLn (T, c, s) x) ∧ mWP tb_L_law Q 762 [a0, a1, a2, a3] (.int (I x y.toNatClampNeg) :: st) ((T, c, s), I, L)) := mWP_eq mt_L_law _ _ _ _ _
set_option maxRecDepth 100000 in
theorem e_L_law_762 {Q : mQo} {T : List mSh} {c s : Nat} {I : Nat → Nat → Int32} {L : Nat → Nat → Int64} {st : List Value} {a1 a2 a3 : Option Value} {x : Nat} : mWP tb_L_law Q 762 [some (.ref x), a1, a2, a3] st ((T, c, s), I, L) = mWP tb_L_law Q 763 [some (.ref x), a1, a2, a3] (.ref x :: st) ((T, c, s), I, L) := mWP_eq mt_L_law _ _ _ _ _
set_option maxRecDepth 100000 in
theorem e_L_law_762n {Q : mQo} {T : List mSh} {c s : Nat} {I : Nat → Nat → Int32} {L : Nat → Nat → Int64} {st : List Value} {a1 a2 a3 : Option Value} : mWP tb_L_law Q 762 [some .null, a1, a2, a3] st ((T, c, s), I, L) = mWP tb_L_law Q 763 [some .null, a1, a2, a3] (.null :: st) ((T, c, s), I, L) := mWP_eq mt_L_law _ _ _ _ _
set_option maxRecDepth 100000 in
theorem e_L_law_763 {Q : mQo} {T : List mSh} {c s : Nat} {I : Nat → Nat → Int32} {L : Nat → Nat → Int64} {st : List Value} {a0 a1 a2 : Option Value} {x : Int32} : mWP tb_L_law Q 763 [a0, a1, a2, some (.int x)] st ((T, c, s), I, L) = mWP tb_L_law Q 764 [a0, a1, a2, some (.int x)] (.int x :: st) ((T, c, s), I, L) := mWP_eq mt_L_law _ _ _ _ _
set_option maxRecDepth 100000 in
theorem e_L_law_764 {Q : mQo} {T : List mSh} {c s : Nat} {I : Nat → Nat → Int32} {L : Nat → Nat → Int64} {st : List Value} {a0 a1 a2 a3 : Option Value} : mWP tb_L_law Q 764 [a0, a1, a2, a3] st ((T, c, s), I, L) = mWP tb_L_law Q 765 [a0, a1, a2, a3] (.int 2 :: st) ((T, c, s), I, L) := mWP_eq mt_L_law _ _ _ _ _
set_option maxRecDepth 100000 in
theorem e_L_law_765 {Q : mQo} {T : List mSh} {c s : Nat} {I : Nat → Nat → Int32} {L : Nat → Nat → Int64} {st : List Value} {a0 a1 a2 a3 : Option Value} {x y : Int32} : mWP tb_L_law Q 765 [a0, a1, a2, a3] (.int y :: .int x :: st) ((T, c, s), I, L) = mWP tb_L_law Q 766 [a0, a1, a2, a3] (.int (x + y) :: st) ((T, c, s), I, L) := mWP_eq mt_L_law _ _ _ _ _
set_option maxRecDepth 100000 in
theorem e_L_law_766 {Q : mQo} {T : List mSh} {c s : Nat} {I : Nat → Nat → Int32} {L : Nat → Nat → Int64} {st : List Value} {a0 a1 a2 a3 : Option Value} {x : Nat} {y : Int32} : mWP tb_L_law Q 766 [a0, a1, a2, a3] (.int y :: .ref x :: st) ((T, c, s), I, L) = (mTg (T, c, s) x = 0 ∧ vp_in y (mLn (T, c, s) x) ∧ mWP tb_L_law Q 767 [a0, a1, a2, a3] (.int (I x y.toNatClampNeg) :: st) ((T, c, s), I, L)) := mWP_eq mt_L_law _ _ _ _ _
set_option maxRecDepth 100000 in
theorem e_L_law_767 {Q : mQo} {T : List mSh} {c s : Nat} {I : Nat → Nat → Int32} {L : Nat → Nat → Int64} {st : List Value} {a1 a2 a3 : Option Value} {x : Nat} : mWP tb_L_law Q 767 [some (.ref x), a1, a2, a3] st ((T, c, s), I, L) = mWP tb_L_law Q 768 [some (.ref x), a1, a2, a3] (.ref x :: st) ((T, c, s), I, L) := mWP_eq mt_L_law _ _ _ _ _
set_option maxRecDepth 100000 in
theorem e_L_law_767n {Q : mQo} {T : List mSh} {c s : Nat} {I : Nat → Nat → Int32} {L : Nat → Nat → Int64} {st : List Value} {a1 a2 a3 : Option Value} : mWP tb_L_law Q 767 [some .null, a1, a2, a3] st ((T, c, s), I, L) = mWP tb_L_law Q 768 [some .null, a1, a2, a3] (.null :: st) ((T, c, s), I, L) := mWP_eq mt_L_law _ _ _ _ _
set_option maxRecDepth 100000 in
theorem e_L_law_768 {Q : mQo} {T : List mSh} {c s : Nat} {I : Nat → Nat → Int32} {L : Nat → Nat → Int64} {st : List Value} {a0 a1 a2 : Option Value} {x : Int32} : mWP tb_L_law Q 768 [a0, a1, a2, some (.int x)] st ((T, c, s), I, L) = mWP tb_L_law Q 769 [a0, a1, a2, some (.int x)] (.int x :: st) ((T, c, s), I, L) := mWP_eq mt_L_law _ _ _ _ _
set_option maxRecDepth 100000 in
theorem e_L_law_769 {Q : mQo} {T : List mSh} {c s : Nat} {I : Nat → Nat → Int32} {L : Nat → Nat → Int64} {st : List Value} {a0 a1 a2 a3 : Option Value} : mWP tb_L_law Q 769 [a0, a1, a2, a3] st ((T, c, s), I, L) = mWP tb_L_law Q 770 [a0, a1, a2, a3] (.int 3 :: st) ((T, c, s), I, L) := mWP_eq mt_L_law _ _ _ _ _
set_option maxRecDepth 100000 in
theorem e_L_law_770 {Q : mQo} {T : List mSh} {c s : Nat} {I : Nat → Nat → Int32} {L : Nat → Nat → Int64} {st : List Value} {a0 a1 a2 a3 : Option Value} {x y : Int32} : mWP tb_L_law Q 770 [a0, a1, a2, a3] (.int y :: .int x :: st) ((T, c, s), I, L) = mWP tb_L_law Q 771 [a0, a1, a2, a3] (.int (x + y) :: st) ((T, c, s), I, L) := mWP_eq mt_L_law _ _ _ _ _
set_option maxRecDepth 100000 in
theorem e_L_law_771 {Q : mQo} {T : List mSh} {c s : Nat} {I : Nat → Nat → Int32} {L : Nat → Nat → Int64} {st : List Value} {a0 a1 a2 a3 : Option Value} {x : Nat} {y : Int32} : mWP tb_L_law Q 771 [a0, a1, a2, a3] (.int y :: .ref x :: st) ((T, c, s), I, L) = (mTg (T, c, s) x = 0 ∧ vp_in y (mLn (T, c, s) x) ∧ mWP tb_L_law Q 772 [a0, a1, a2, a3] (.int (I x y.toNatClampNeg) :: st) ((T, c, s), I, L)) := mWP_eq mt_L_law _ _ _ _ _
set_option maxRecDepth 100000 in
theorem e_L_law_772 {Q : mQo} {T : List mSh} {c s : Nat} {I : Nat → Nat → Int32} {L : Nat → Nat → Int64} {st : List Value} {a1 a2 a3 : Option Value} {x : Nat} : mWP tb_L_law Q 772 [some (.ref x), a1, a2, a3] st ((T, c, s), I, L) = mWP tb_L_law Q 773 [some (.ref x), a1, a2, a3] (.ref x :: st) ((T, c, s), I, L) := mWP_eq mt_L_law _ _ _ _ _
set_option maxRecDepth 100000 in
theorem e_L_law_772n {Q : mQo} {T : List mSh} {c s : Nat} {I : Nat → Nat → Int32} {L : Nat → Nat → Int64} {st : List Value} {a1 a2 a3 : Option Value} : mWP tb_L_law Q 772 [some .null, a1, a2, a3] st ((T, c, s), I, L) = mWP tb_L_law Q 773 [some .null, a1, a2, a3] (.null :: st) ((T, c, s), I, L) := mWP_eq mt_L_law _ _ _ _ _
set_option maxRecDepth 100000 in
theorem e_L_law_773 {Q : mQo} {T : List mSh} {c s : Nat} {I : Nat → Nat → Int32} {L : Nat → Nat → Int64} {st : List Value} {a0 a1 a2 : Option Value} {x : Int32} : mWP tb_L_law Q 773 [a0, a1, a2, some (.int x)] st ((T, c, s), I, L) = mWP tb_L_law Q 774 [a0, a1, a2, some (.int x)] (.int x :: st) ((T, c, s), I, L) := mWP_eq mt_L_law _ _ _ _ _
set_option maxRecDepth 100000 in
theorem e_L_law_774 {Q : mQo} {T : List mSh} {c s : Nat} {I : Nat → Nat → Int32} {L : Nat → Nat → Int64} {st : List Value} {a0 a1 a2 a3 : Option Value} : mWP tb_L_law Q 774 [a0, a1, a2, a3] st ((T, c, s), I, L) = mWP tb_L_law Q 775 [a0, a1, a2, a3] (.int 4 :: st) ((T, c, s), I, L) := mWP_eq mt_L_law _ _ _ _ _
set_option maxRecDepth 100000 in
theorem e_L_law_775 {Q : mQo} {T : List mSh} {c s : Nat} {I : Nat → Nat → Int32} {L : Nat → Nat → Int64} {st : List Value} {a0 a1 a2 a3 : Option Value} {x y : Int32} : mWP tb_L_law Q 775 [a0, a1, a2, a3] (.int y :: .int x :: st) ((T, c, s), I, L) = mWP tb_L_law Q 776 [a0, a1, a2, a3] (.int (x + y) :: st) ((T, c, s), I, L) := mWP_eq mt_L_law _ _ _ _ _
set_option maxRecDepth 100000 in
theorem e_L_law_776 {Q : mQo} {T : List mSh} {c s : Nat} {I : Nat → Nat → Int32} {L : Nat → Nat → Int64} {st : List Value} {a0 a1 a2 a3 : Option Value} {x : Nat} {y : Int32} : mWP tb_L_law Q 776 [a0, a1, a2, a3] (.int y :: .ref x :: st) ((T, c, s), I, L) = (mTg (T, c, s) x = 0 ∧ vp_in y (mLn (T, c, s) x) ∧ mWP tb_L_law Q 777 [a0, a1, a2, a3] (.int (I x y.toNatClampNeg) :: st) ((T, c, s), I, L)) := mWP_eq mt_L_law _ _ _ _ _
set_option maxRecDepth 100000 in
theorem e_L_law_777 {Q : mQo} {T : List mSh} {c s : Nat} {I : Nat → Nat → Int32} {L : Nat → Nat → Int64} {st : List Value} {a1 a2 a3 : Option Value} {x : Nat} : mWP tb_L_law Q 777 [some (.ref x), a1, a2, a3] st ((T, c, s), I, L) = mWP tb_L_law Q 778 [some (.ref x), a1, a2, a3] (.ref x :: st) ((T, c, s), I, L) := mWP_eq mt_L_law _ _ _ _ _
set_option maxRecDepth 100000 in
theorem e_L_law_777n {Q : mQo} {T : List mSh} {c s : Nat} {I : Nat → Nat → Int32} {L : Nat → Nat → Int64} {st : List Value} {a1 a2 a3 : Option Value} : mWP tb_L_law Q 777 [some .null, a1, a2, a3] st ((T, c, s), I, L) = mWP tb_L_law Q 778 [some .null, a1, a2, a3] (.null :: st) ((T, c, s), I, L) := mWP_eq mt_L_law _ _ _ _ _
set_option maxRecDepth 100000 in
theorem e_L_law_778 {Q : mQo} {T : List mSh} {c s : Nat} {I : Nat → Nat → Int32} {L : Nat → Nat → Int64} {st : List Value} {a0 a1 a2 : Option Value} {x : Int32} : mWP tb_L_law Q 778 [a0, a1, a2, some (.int x)] st ((T, c, s), I, L) = mWP tb_L_law Q 779 [a0, a1, a2, some (.int x)] (.int x :: st) ((T, c, s), I, L) := mWP_eq mt_L_law _ _ _ _ _
set_option maxRecDepth 100000 in
theorem e_L_law_779 {Q : mQo} {T : List mSh} {c s : Nat} {I : Nat → Nat → Int32} {L : Nat → Nat → Int64} {st : List Value} {a0 a1 a2 a3 : Option Value} : mWP tb_L_law Q 779 [a0, a1, a2, a3] st ((T, c, s), I, L) = mWP tb_L_law Q 780 [a0, a1, a2, a3] (.int 5 :: st) ((T, c, s), I, L) := mWP_eq mt_L_law _ _ _ _ _
set_option maxRecDepth 100000 in
theorem e_L_law_780 {Q : mQo} {T : List mSh} {c s : Nat} {I : Nat → Nat → Int32} {L : Nat → Nat → Int64} {st : List Value} {a0 a1 a2 a3 : Option Value} {x y : Int32} : mWP tb_L_law Q 780 [a0, a1, a2, a3] (.int y :: .int x :: st) ((T, c, s), I, L) = mWP tb_L_law Q 781 [a0, a1, a2, a3] (.int (x + y) :: st) ((T, c, s), I, L) := mWP_eq mt_L_law _ _ _ _ _
set_option maxRecDepth 100000 in
theorem e_L_law_781 {Q : mQo} {T : List mSh} {c s : Nat} {I : Nat → Nat → Int32} {L : Nat → Nat → Int64} {st : List Value} {a0 a1 a2 a3 : Option Value} {x : Nat} {y : Int32} : mWP tb_L_law Q 781 [a0, a1, a2, a3] (.int y :: .ref x :: st) ((T, c, s), I, L) = (mTg (T, c, s) x = 0 ∧ vp_in y (mLn (T, c, s) x) ∧ mWP tb_L_law Q 782 [a0, a1, a2, a3] (.int (I x y.toNatClampNeg) :: st) ((T, c, s), I, L)) := mWP_eq mt_L_law _ _ _ _ _
set_option maxRecDepth 100000 in
theorem e_L_law_782 {Q : mQo} {T : List mSh} {c s : Nat} {I : Nat → Nat → Int32} {L : Nat → Nat → Int64} {st : List Value} {a0 a1 a2 a3 : Option Value} {v0 : Int32} {v1 : Int32} {v2 : Int32} {v3 : Int32} {v4 : Int32} {o : Nat} : mWP tb_L_law Q 782 [a0, a1, a2, a3] (.int v4 :: .int v3 :: .int v2 :: .int v1 :: .int v0 :: .ref o :: st) ((T, c, s), I, L) = (mTg (T, c, s) o = 13 ∧ (st.map Value.category).sum ≤ 8 ∧ C_X10_hold [.ref o, .int v0, .int v1, .int v2, .int v3, .int v4] (mZr (T, c, s), I, L) (fun r h' => h'.1 = mZr (T, c, s) ∧ mWP tb_L_law Q 785 [a0, a1, a2, a3] (r.toList ++ st) ((T, c, s), h'.2))) := (mWP_eq mt_L_law _ _ _ _ _).trans (eq_CV (Q := Q) 5 rfl)
set_option maxRecDepth 100000 in
theorem e_L_law_785 {Q : mQo} {T : List mSh} {c s : Nat} {I : Nat → Nat → Int32} {L : Nat → Nat → Int64} {st : List Value} {a0 a1 a3 : Option Value} {x : Nat} : mWP tb_L_law Q 785 [a0, a1, some (.ref x), a3] st ((T, c, s), I, L) = mWP tb_L_law Q 786 [a0, a1, some (.ref x), a3] (.ref x :: st) ((T, c, s), I, L) := mWP_eq mt_L_law _ _ _ _ _
set_option maxRecDepth 100000 in
theorem e_L_law_785n {Q : mQo} {T : List mSh} {c s : Nat} {I : Nat → Nat → Int32} {L : Nat → Nat → Int64} {st : List Value} {a0 a1 a3 : Option Value} : mWP tb_L_law Q 785 [a0, a1, some .null, a3] st ((T, c, s), I, L) = mWP tb_L_law Q 786 [a0, a1, some .null, a3] (.null :: st) ((T, c, s), I, L) := mWP_eq mt_L_law _ _ _ _ _
set_option maxRecDepth 100000 in
theorem e_L_law_786 {Q : mQo} {T : List mSh} {c s : Nat} {I : Nat → Nat → Int32} {L : Nat → Nat → Int64} {st : List Value} {a1 a2 a3 : Option Value} {x : Nat} : mWP tb_L_law Q 786 [some (.ref x), a1, a2, a3] st ((T, c, s), I, L) = mWP tb_L_law Q 787 [some (.ref x), a1, a2, a3] (.ref x :: st) ((T, c, s), I, L) := mWP_eq mt_L_law _ _ _ _ _
set_option maxRecDepth 100000 in
theorem e_L_law_786n {Q : mQo} {T : List mSh} {c s : Nat} {I : Nat → Nat → Int32} {L : Nat → Nat → Int64} {st : List Value} {a1 a2 a3 : Option Value} : mWP tb_L_law Q 786 [some .null, a1, a2, a3] st ((T, c, s), I, L) = mWP tb_L_law Q 787 [some .null, a1, a2, a3] (.null :: st) ((T, c, s), I, L) := mWP_eq mt_L_law _ _ _ _ _
set_option maxRecDepth 100000 in
theorem e_L_law_787 {Q : mQo} {T : List mSh} {c s : Nat} {I : Nat → Nat → Int32} {L : Nat → Nat → Int64} {st : List Value} {a0 a1 a2 : Option Value} {x : Int32} : mWP tb_L_law Q 787 [a0, a1, a2, some (.int x)] st ((T, c, s), I, L) = mWP tb_L_law Q 788 [a0, a1, a2, some (.int x)] (.int x :: st) ((T, c, s), I, L) := mWP_eq mt_L_law _ _ _ _ _
set_option maxRecDepth 100000 in
theorem e_L_law_788 {Q : mQo} {T : List mSh} {c s : Nat} {I : Nat → Nat → Int32} {L : Nat → Nat → Int64} {st : List Value} {a0 a1 a2 a3 : Option Value} : mWP tb_L_law Q 788 [a0, a1, a2, a3] st ((T, c, s), I, L) = mWP tb_L_law Q 789 [a0, a1, a2, a3] (.int 1 :: st) ((T, c, s), I, L) := mWP_eq mt_L_law _ _ _ _ _
set_option maxRecDepth 100000 in
theorem e_L_law_789 {Q : mQo} {T : List mSh} {c s : Nat} {I : Nat → Nat → Int32} {L : Nat → Nat → Int64} {st : List Value} {a0 a1 a2 a3 : Option Value} {x y : Int32} : mWP tb_L_law Q 789 [a0, a1, a2, a3] (.int y :: .int x :: st) ((T, c, s), I, L) = mWP tb_L_law Q 790 [a0, a1, a2, a3] (.int (x + y) :: st) ((T, c, s), I, L) := mWP_eq mt_L_law _ _ _ _ _
set_option maxRecDepth 100000 in
theorem e_L_law_790 {Q : mQo} {T : List mSh} {c s : Nat} {I : Nat → Nat → Int32} {L : Nat → Nat → Int64} {st : List Value} {a0 a1 a2 a3 : Option Value} {x : Nat} {y : Int32} : mWP tb_L_law Q 790 [a0, a1, a2, a3] (.int y :: .ref x :: st) ((T, c, s), I, L) = (mTg (T, c, s) x = 0 ∧ vp_in y (mLn (T, c, s) x) ∧ mWP tb_L_law Q 791 [a0, a1, a2, a3] (.int (I x y.toNatClampNeg) :: st) ((T, c, s), I, L)) := mWP_eq mt_L_law _ _ _ _ _
set_option maxRecDepth 100000 in
theorem e_L_law_791 {Q : mQo} {T : List mSh} {c s : Nat} {I : Nat → Nat → Int32} {L : Nat → Nat → Int64} {st : List Value} {a1 a2 a3 : Option Value} {x : Nat} : mWP tb_L_law Q 791 [some (.ref x), a1, a2, a3] st ((T, c, s), I, L) = mWP tb_L_law Q 792 [some (.ref x), a1, a2, a3] (.ref x :: st) ((T, c, s), I, L) := mWP_eq mt_L_law _ _ _ _ _
set_option maxRecDepth 100000 in
theorem e_L_law_791n {Q : mQo} {T : List mSh} {c s : Nat} {I : Nat → Nat → Int32} {L : Nat → Nat → Int64} {st : List Value} {a1 a2 a3 : Option Value} : mWP tb_L_law Q 791 [some .null, a1, a2, a3] st ((T, c, s), I, L) = mWP tb_L_law Q 792 [some .null, a1, a2, a3] (.null :: st) ((T, c, s), I, L) := mWP_eq mt_L_law _ _ _ _ _
set_option maxRecDepth 100000 in
theorem e_L_law_792 {Q : mQo} {T : List mSh} {c s : Nat} {I : Nat → Nat → Int32} {L : Nat → Nat → Int64} {st : List Value} {a0 a1 a2 : Option Value} {x : Int32} : mWP tb_L_law Q 792 [a0, a1, a2, some (.int x)] st ((T, c, s), I, L) = mWP tb_L_law Q 793 [a0, a1, a2, some (.int x)] (.int x :: st) ((T, c, s), I, L) := mWP_eq mt_L_law _ _ _ _ _
set_option maxRecDepth 100000 in
theorem e_L_law_793 {Q : mQo} {T : List mSh} {c s : Nat} {I : Nat → Nat → Int32} {L : Nat → Nat → Int64} {st : List Value} {a0 a1 a2 a3 : Option Value} : mWP tb_L_law Q 793 [a0, a1, a2, a3] st ((T, c, s), I, L) = mWP tb_L_law Q 794 [a0, a1, a2, a3] (.int 2 :: st) ((T, c, s), I, L) := mWP_eq mt_L_law _ _ _ _ _
set_option maxRecDepth 100000 in
theorem e_L_law_794 {Q : mQo} {T : List mSh} {c s : Nat} {I : Nat → Nat → Int32} {L : Nat → Nat → Int64} {st : List Value} {a0 a1 a2 a3 : Option Value} {x y : Int32} : mWP tb_L_law Q 794 [a0, a1, a2, a3] (.int y :: .int x :: st) ((T, c, s), I, L) = mWP tb_L_law Q 795 [a0, a1, a2, a3] (.int (x + y) :: st) ((T, c, s), I, L) := mWP_eq mt_L_law _ _ _ _ _
set_option maxRecDepth 100000 in
theorem e_L_law_795 {Q : mQo} {T : List mSh} {c s : Nat} {I : Nat → Nat → Int32} {L : Nat → Nat → Int64} {st : List Value} {a0 a1 a2 a3 : Option Value} {x : Nat} {y : Int32} : mWP tb_L_law Q 795 [a0, a1, a2, a3] (.int y :: .ref x :: st) ((T, c, s), I, L) = (mTg (T, c, s) x = 0 ∧ vp_in y (mLn (T, c, s) x) ∧ mWP tb_L_law Q 796 [a0, a1, a2, a3] (.int (I x y.toNatClampNeg) :: st) ((T, c, s), I, L)) := mWP_eq mt_L_law _ _ _ _ _
set_option maxRecDepth 100000 in
theorem e_L_law_796 {Q : mQo} {T : List mSh} {c s : Nat} {I : Nat → Nat → Int32} {L : Nat → Nat → Int64} {st : List Value} {a1 a2 a3 : Option Value} {x : Nat} : mWP tb_L_law Q 796 [some (.ref x), a1, a2, a3] st ((T, c, s), I, L) = mWP tb_L_law Q 797 [some (.ref x), a1, a2, a3] (.ref x :: st) ((T, c, s), I, L) := mWP_eq mt_L_law _ _ _ _ _
set_option maxRecDepth 100000 in
theorem e_L_law_796n {Q : mQo} {T : List mSh} {c s : Nat} {I : Nat → Nat → Int32} {L : Nat → Nat → Int64} {st : List Value} {a1 a2 a3 : Option Value} : mWP tb_L_law Q 796 [some .null, a1, a2, a3] st ((T, c, s), I, L) = mWP tb_L_law Q 797 [some .null, a1, a2, a3] (.null :: st) ((T, c, s), I, L) := mWP_eq mt_L_law _ _ _ _ _
set_option maxRecDepth 100000 in
theorem e_L_law_797 {Q : mQo} {T : List mSh} {c s : Nat} {I : Nat → Nat → Int32} {L : Nat → Nat → Int64} {st : List Value} {a0 a1 a2 : Option Value} {x : Int32} : mWP tb_L_law Q 797 [a0, a1, a2, some (.int x)] st ((T, c, s), I, L) = mWP tb_L_law Q 798 [a0, a1, a2, some (.int x)] (.int x :: st) ((T, c, s), I, L) := mWP_eq mt_L_law _ _ _ _ _
set_option maxRecDepth 100000 in
theorem e_L_law_798 {Q : mQo} {T : List mSh} {c s : Nat} {I : Nat → Nat → Int32} {L : Nat → Nat → Int64} {st : List Value} {a0 a1 a2 a3 : Option Value} : mWP tb_L_law Q 798 [a0, a1, a2, a3] st ((T, c, s), I, L) = mWP tb_L_law Q 799 [a0, a1, a2, a3] (.int 3 :: st) ((T, c, s), I, L) := mWP_eq mt_L_law _ _ _ _ _
set_option maxRecDepth 100000 in
theorem e_L_law_799 {Q : mQo} {T : List mSh} {c s : Nat} {I : Nat → Nat → Int32} {L : Nat → Nat → Int64} {st : List Value} {a0 a1 a2 a3 : Option Value} {x y : Int32} : mWP tb_L_law Q 799 [a0, a1, a2, a3] (.int y :: .int x :: st) ((T, c, s), I, L) = mWP tb_L_law Q 800 [a0, a1, a2, a3] (.int (x + y) :: st) ((T, c, s), I, L) := mWP_eq mt_L_law _ _ _ _ _
set_option maxRecDepth 100000 in
theorem e_L_law_800 {Q : mQo} {T : List mSh} {c s : Nat} {I : Nat → Nat → Int32} {L : Nat → Nat → Int64} {st : List Value} {a0 a1 a2 a3 : Option Value} {x : Nat} {y : Int32} : mWP tb_L_law Q 800 [a0, a1, a2, a3] (.int y :: .ref x :: st) ((T, c, s), I, L) = (mTg (T, c, s) x = 0 ∧ vp_in y (mLn (T, c, s) x) ∧ mWP tb_L_law Q 801 [a0, a1, a2, a3] (.int (I x y.toNatClampNeg) :: st) ((T, c, s), I, L)) := mWP_eq mt_L_law _ _ _ _ _
set_option maxRecDepth 100000 in
theorem e_L_law_801 {Q : mQo} {T : List mSh} {c s : Nat} {I : Nat → Nat → Int32} {L : Nat → Nat → Int64} {st : List Value} {a1 a2 a3 : Option Value} {x : Nat} : mWP tb_L_law Q 801 [some (.ref x), a1, a2, a3] st ((T, c, s), I, L) = mWP tb_L_law Q 802 [some (.ref x), a1, a2, a3] (.ref x :: st) ((T, c, s), I, L) := mWP_eq mt_L_law _ _ _ _ _
set_option maxRecDepth 100000 in
theorem e_L_law_801n {Q : mQo} {T : List mSh} {c s : Nat} {I : Nat → Nat → Int32} {L : Nat → Nat → Int64} {st : List Value} {a1 a2 a3 : Option Value} : mWP tb_L_law Q 801 [some .null, a1, a2, a3] st ((T, c, s), I, L) = mWP tb_L_law Q 802 [some .null, a1, a2, a3] (.null :: st) ((T, c, s), I, L) := mWP_eq mt_L_law _ _ _ _ _
set_option maxRecDepth 100000 in
theorem e_L_law_802 {Q : mQo} {T : List mSh} {c s : Nat} {I : Nat → Nat → Int32} {L : Nat → Nat → Int64} {st : List Value} {a0 a1 a2 : Option Value} {x : Int32} : mWP tb_L_law Q 802 [a0, a1, a2, some (.int x)] st ((T, c, s), I, L) = mWP tb_L_law Q 803 [a0, a1, a2, some (.int x)] (.int x :: st) ((T, c, s), I, L) := mWP_eq mt_L_law _ _ _ _ _
set_option maxRecDepth 100000 in
theorem e_L_law_803 {Q : mQo} {T : List mSh} {c s : Nat} {I : Nat → Nat → Int32} {L : Nat → Nat → Int64} {st : List Value} {a0 a1 a2 a3 : Option Value} : mWP tb_L_law Q 803 [a0, a1, a2, a3] st ((T, c, s), I, L) = mWP tb_L_law Q 804 [a0, a1, a2, a3] (.int 4 :: st) ((T, c, s), I, L) := mWP_eq mt_L_law _ _ _ _ _
set_option maxRecDepth 100000 in
theorem e_L_law_804 {Q : mQo} {T : List mSh} {c s : Nat} {I : Nat → Nat → Int32} {L : Nat → Nat → Int64} {st : List Value} {a0 a1 a2 a3 : Option Value} {x y : Int32} : mWP tb_L_law Q 804 [a0, a1, a2, a3] (.int y :: .int x :: st) ((T, c, s), I, L) = mWP tb_L_law Q 805 [a0, a1, a2, a3] (.int (x + y) :: st) ((T, c, s), I, L) := mWP_eq mt_L_law _ _ _ _ _
set_option maxRecDepth 100000 in
theorem e_L_law_805 {Q : mQo} {T : List mSh} {c s : Nat} {I : Nat → Nat → Int32} {L : Nat → Nat → Int64} {st : List Value} {a0 a1 a2 a3 : Option Value} {x : Nat} {y : Int32} : mWP tb_L_law Q 805 [a0, a1, a2, a3] (.int y :: .ref x :: st) ((T, c, s), I, L) = (mTg (T, c, s) x = 0 ∧ vp_in y (mLn (T, c, s) x) ∧ mWP tb_L_law Q 806 [a0, a1, a2, a3] (.int (I x y.toNatClampNeg) :: st) ((T, c, s), I, L)) := mWP_eq mt_L_law _ _ _ _ _
set_option maxRecDepth 100000 in
theorem e_L_law_806 {Q : mQo} {T : List mSh} {c s : Nat} {I : Nat → Nat → Int32} {L : Nat → Nat → Int64} {st : List Value} {a1 a2 a3 : Option Value} {x : Nat} : mWP tb_L_law Q 806 [some (.ref x), a1, a2, a3] st ((T, c, s), I, L) = mWP tb_L_law Q 807 [some (.ref x), a1, a2, a3] (.ref x :: st) ((T, c, s), I, L) := mWP_eq mt_L_law _ _ _ _ _
set_option maxRecDepth 100000 in
theorem e_L_law_806n {Q : mQo} {T : List mSh} {c s : Nat} {I : Nat → Nat → Int32} {L : Nat → Nat → Int64} {st : List Value} {a1 a2 a3 : Option Value} : mWP tb_L_law Q 806 [some .null, a1, a2, a3] st ((T, c, s), I, L) = mWP tb_L_law Q 807 [some .null, a1, a2, a3] (.null :: st) ((T, c, s), I, L) := mWP_eq mt_L_law _ _ _ _ _
set_option maxRecDepth 100000 in
theorem e_L_law_807 {Q : mQo} {T : List mSh} {c s : Nat} {I : Nat → Nat → Int32} {L : Nat → Nat → Int64} {st : List Value} {a0 a1 a2 : Option Value} {x : Int32} : mWP tb_L_law Q 807 [a0, a1, a2, some (.int x)] st ((T, c, s), I, L) = mWP tb_L_law Q 808 [a0, a1, a2, some (.int x)] (.int x :: st) ((T, c, s), I, L) := mWP_eq mt_L_law _ _ _ _ _
set_option maxRecDepth 100000 in
theorem e_L_law_808 {Q : mQo} {T : List mSh} {c s : Nat} {I : Nat → Nat → Int32} {L : Nat → Nat → Int64} {st : List Value} {a0 a1 a2 a3 : Option Value} : mWP tb_L_law Q 808 [a0, a1, a2, a3] st ((T, c, s), I, L) = mWP tb_L_law Q 809 [a0, a1, a2, a3] (.int 5 :: st) ((T, c, s), I, L) := mWP_eq mt_L_law _ _ _ _ _
set_option maxRecDepth 100000 in
theorem e_L_law_809 {Q : mQo} {T : List mSh} {c s : Nat} {I : Nat → Nat → Int32} {L : Nat → Nat → Int64} {st : List Value} {a0 a1 a2 a3 : Option Value} {x y : Int32} : mWP tb_L_law Q 809 [a0, a1, a2, a3] (.int y :: .int x :: st) ((T, c, s), I, L) = mWP tb_L_law Q 810 [a0, a1, a2, a3] (.int (x + y) :: st) ((T, c, s), I, L) := mWP_eq mt_L_law _ _ _ _ _
set_option maxRecDepth 100000 in
theorem e_L_law_810 {Q : mQo} {T : List mSh} {c s : Nat} {I : Nat → Nat → Int32} {L : Nat → Nat → Int64} {st : List Value} {a0 a1 a2 a3 : Option Value} {x : Nat} {y : Int32} : mWP tb_L_law Q 810 [a0, a1, a2, a3] (.int y :: .ref x :: st) ((T, c, s), I, L) = (mTg (T, c, s) x = 0 ∧ vp_in y (mLn (T, c, s) x) ∧ mWP tb_L_law Q 811 [a0, a1, a2, a3] (.int (I x y.toNatClampNeg) :: st) ((T, c, s), I, L)) := mWP_eq mt_L_law _ _ _ _ _
set_option maxRecDepth 100000 in
theorem e_L_law_811 {Q : mQo} {T : List mSh} {c s : Nat} {I : Nat → Nat → Int32} {L : Nat → Nat → Int64} {st : List Value} {a0 a1 a2 a3 : Option Value} {v0 : Int32} {v1 : Int32} {v2 : Int32} {v3 : Int32} {v4 : Int32} {o : Nat} : mWP tb_L_law Q 811 [a0, a1, a2, a3] (.int v4 :: .int v3 :: .int v2 :: .int v1 :: .int v0 :: .ref o :: st) ((T, c, s), I, L) = (mTg (T, c, s) o = 14 ∧ (st.map Value.category).sum ≤ 8 ∧ C_X11_hold [.ref o, .int v0, .int v1, .int v2, .int v3, .int v4] (mZr (T, c, s), I, L) (fun r h' => h'.1 = mZr (T, c, s) ∧ mWP tb_L_law Q 814 [a0, a1, a2, a3] (r.toList ++ st) ((T, c, s), h'.2))) := (mWP_eq mt_L_law _ _ _ _ _).trans (eq_CV (Q := Q) 5 rfl)
set_option maxRecDepth 100000 in
theorem e_L_law_814 {Q : mQo} {T : List mSh} {c s : Nat} {I : Nat → Nat → Int32} {L : Nat → Nat → Int64} {st : List Value} {a0 a1 a2 a3 : Option Value} {x y : Int64} : mWP tb_L_law Q 814 [a0, a1, a2, a3] (.long y :: .long x :: st) ((T, c, s), I, L) = mWP tb_L_law Q 815 [a0, a1, a2, a3] (.int (lg_cmp x y) :: st) ((T, c, s), I, L) := mWP_eq mt_L_law _ _ _ _ _
set_option maxRecDepth 100000 in
theorem e_L_law_815 {Q : mQo} {T : List mSh} {c s : Nat} {I : Nat → Nat → Int32} {L : Nat → Nat → Int64} {st : List Value} {a0 a1 a2 a3 : Option Value} {x : Int32} : mWP tb_L_law Q 815 [a0, a1, a2, a3] (.int x :: st) ((T, c, s), I, L) = ((x = 0 → mWP tb_L_law Q 1460 [a0, a1, a2, a3] st ((T, c, s), I, L)) ∧ (¬ (x = 0) → mWP tb_L_law Q 818 [a0, a1, a2, a3] st ((T, c, s), I, L))) := mWP_eq mt_L_law _ _ _ _ _
set_option maxRecDepth 100000 in
theorem e_L_law_818 {Q : mQo} {T : List mSh} {c s : Nat} {I : Nat → Nat → Int32} {L : Nat → Nat → Int64} {st : List Value} {a0 a1 a2 a3 : Option Value} : mWP tb_L_law Q 818 [a0, a1, a2, a3] st ((T, c, s), I, L) = mWP tb_L_law Q 819 [a0, a1, a2, a3] (.int 0 :: st) ((T, c, s), I, L) := mWP_eq mt_L_law _ _ _ _ _
set_option maxRecDepth 100000 in
theorem e_L_law_819 {Q : mQo} {T : List mSh} {c s : Nat} {I : Nat → Nat → Int32} {L : Nat → Nat → Int64} {a0 a1 a2 a3 : Option Value} {x : Int32} : mWP tb_L_law Q 819 [a0, a1, a2, a3] [.int x] ((T, c, s), I, L) = ((x = 0 ∨ x = 1) ∧ Q (some (.int x)) ((T, c, s), I, L)) := mWP_eq mt_L_law _ _ _ _ _
set_option maxRecDepth 100000 in
theorem e_L_law_820 {Q : mQo} {T : List mSh} {c s : Nat} {I : Nat → Nat → Int32} {L : Nat → Nat → Int64} {st : List Value} {a0 a2 a3 : Option Value} {x : Nat} : mWP tb_L_law Q 820 [a0, some (.ref x), a2, a3] st ((T, c, s), I, L) = mWP tb_L_law Q 821 [a0, some (.ref x), a2, a3] (.ref x :: st) ((T, c, s), I, L) := mWP_eq mt_L_law _ _ _ _ _
set_option maxRecDepth 100000 in
theorem e_L_law_820n {Q : mQo} {T : List mSh} {c s : Nat} {I : Nat → Nat → Int32} {L : Nat → Nat → Int64} {st : List Value} {a0 a2 a3 : Option Value} : mWP tb_L_law Q 820 [a0, some .null, a2, a3] st ((T, c, s), I, L) = mWP tb_L_law Q 821 [a0, some .null, a2, a3] (.null :: st) ((T, c, s), I, L) := mWP_eq mt_L_law _ _ _ _ _
set_option maxRecDepth 100000 in
theorem e_L_law_821 {Q : mQo} {T : List mSh} {c s : Nat} {I : Nat → Nat → Int32} {L : Nat → Nat → Int64} {st : List Value} {a1 a2 a3 : Option Value} {x : Nat} : mWP tb_L_law Q 821 [some (.ref x), a1, a2, a3] st ((T, c, s), I, L) = mWP tb_L_law Q 822 [some (.ref x), a1, a2, a3] (.ref x :: st) ((T, c, s), I, L) := mWP_eq mt_L_law _ _ _ _ _
set_option maxRecDepth 100000 in
theorem e_L_law_821n {Q : mQo} {T : List mSh} {c s : Nat} {I : Nat → Nat → Int32} {L : Nat → Nat → Int64} {st : List Value} {a1 a2 a3 : Option Value} : mWP tb_L_law Q 821 [some .null, a1, a2, a3] st ((T, c, s), I, L) = mWP tb_L_law Q 822 [some .null, a1, a2, a3] (.null :: st) ((T, c, s), I, L) := mWP_eq mt_L_law _ _ _ _ _
set_option maxRecDepth 100000 in
theorem e_L_law_822 {Q : mQo} {T : List mSh} {c s : Nat} {I : Nat → Nat → Int32} {L : Nat → Nat → Int64} {st : List Value} {a0 a1 a2 : Option Value} {x : Int32} : mWP tb_L_law Q 822 [a0, a1, a2, some (.int x)] st ((T, c, s), I, L) = mWP tb_L_law Q 823 [a0, a1, a2, some (.int x)] (.int x :: st) ((T, c, s), I, L) := mWP_eq mt_L_law _ _ _ _ _
set_option maxRecDepth 100000 in
theorem e_L_law_823 {Q : mQo} {T : List mSh} {c s : Nat} {I : Nat → Nat → Int32} {L : Nat → Nat → Int64} {st : List Value} {a0 a1 a2 a3 : Option Value} : mWP tb_L_law Q 823 [a0, a1, a2, a3] st ((T, c, s), I, L) = mWP tb_L_law Q 824 [a0, a1, a2, a3] (.int 1 :: st) ((T, c, s), I, L) := mWP_eq mt_L_law _ _ _ _ _
set_option maxRecDepth 100000 in
theorem e_L_law_824 {Q : mQo} {T : List mSh} {c s : Nat} {I : Nat → Nat → Int32} {L : Nat → Nat → Int64} {st : List Value} {a0 a1 a2 a3 : Option Value} {x y : Int32} : mWP tb_L_law Q 824 [a0, a1, a2, a3] (.int y :: .int x :: st) ((T, c, s), I, L) = mWP tb_L_law Q 825 [a0, a1, a2, a3] (.int (x + y) :: st) ((T, c, s), I, L) := mWP_eq mt_L_law _ _ _ _ _
set_option maxRecDepth 100000 in
theorem e_L_law_825 {Q : mQo} {T : List mSh} {c s : Nat} {I : Nat → Nat → Int32} {L : Nat → Nat → Int64} {st : List Value} {a0 a1 a2 a3 : Option Value} {x : Nat} {y : Int32} : mWP tb_L_law Q 825 [a0, a1, a2, a3] (.int y :: .ref x :: st) ((T, c, s), I, L) = (mTg (T, c, s) x = 0 ∧ vp_in y (mLn (T, c, s) x) ∧ mWP tb_L_law Q 826 [a0, a1, a2, a3] (.int (I x y.toNatClampNeg) :: st) ((T, c, s), I, L)) := mWP_eq mt_L_law _ _ _ _ _
set_option maxRecDepth 100000 in
theorem e_L_law_826 {Q : mQo} {T : List mSh} {c s : Nat} {I : Nat → Nat → Int32} {L : Nat → Nat → Int64} {st : List Value} {a1 a2 a3 : Option Value} {x : Nat} : mWP tb_L_law Q 826 [some (.ref x), a1, a2, a3] st ((T, c, s), I, L) = mWP tb_L_law Q 827 [some (.ref x), a1, a2, a3] (.ref x :: st) ((T, c, s), I, L) := mWP_eq mt_L_law _ _ _ _ _
set_option maxRecDepth 100000 in
theorem e_L_law_826n {Q : mQo} {T : List mSh} {c s : Nat} {I : Nat → Nat → Int32} {L : Nat → Nat → Int64} {st : List Value} {a1 a2 a3 : Option Value} : mWP tb_L_law Q 826 [some .null, a1, a2, a3] st ((T, c, s), I, L) = mWP tb_L_law Q 827 [some .null, a1, a2, a3] (.null :: st) ((T, c, s), I, L) := mWP_eq mt_L_law _ _ _ _ _
set_option maxRecDepth 100000 in
theorem e_L_law_827 {Q : mQo} {T : List mSh} {c s : Nat} {I : Nat → Nat → Int32} {L : Nat → Nat → Int64} {st : List Value} {a0 a1 a2 : Option Value} {x : Int32} : mWP tb_L_law Q 827 [a0, a1, a2, some (.int x)] st ((T, c, s), I, L) = mWP tb_L_law Q 828 [a0, a1, a2, some (.int x)] (.int x :: st) ((T, c, s), I, L) := mWP_eq mt_L_law _ _ _ _ _
set_option maxRecDepth 100000 in
theorem e_L_law_828 {Q : mQo} {T : List mSh} {c s : Nat} {I : Nat → Nat → Int32} {L : Nat → Nat → Int64} {st : List Value} {a0 a1 a2 a3 : Option Value} : mWP tb_L_law Q 828 [a0, a1, a2, a3] st ((T, c, s), I, L) = mWP tb_L_law Q 829 [a0, a1, a2, a3] (.int 2 :: st) ((T, c, s), I, L) := mWP_eq mt_L_law _ _ _ _ _
set_option maxRecDepth 100000 in
theorem e_L_law_829 {Q : mQo} {T : List mSh} {c s : Nat} {I : Nat → Nat → Int32} {L : Nat → Nat → Int64} {st : List Value} {a0 a1 a2 a3 : Option Value} {x y : Int32} : mWP tb_L_law Q 829 [a0, a1, a2, a3] (.int y :: .int x :: st) ((T, c, s), I, L) = mWP tb_L_law Q 830 [a0, a1, a2, a3] (.int (x + y) :: st) ((T, c, s), I, L) := mWP_eq mt_L_law _ _ _ _ _
set_option maxRecDepth 100000 in
theorem e_L_law_830 {Q : mQo} {T : List mSh} {c s : Nat} {I : Nat → Nat → Int32} {L : Nat → Nat → Int64} {st : List Value} {a0 a1 a2 a3 : Option Value} {x : Nat} {y : Int32} : mWP tb_L_law Q 830 [a0, a1, a2, a3] (.int y :: .ref x :: st) ((T, c, s), I, L) = (mTg (T, c, s) x = 0 ∧ vp_in y (mLn (T, c, s) x) ∧ mWP tb_L_law Q 831 [a0, a1, a2, a3] (.int (I x y.toNatClampNeg) :: st) ((T, c, s), I, L)) := mWP_eq mt_L_law _ _ _ _ _
set_option maxRecDepth 100000 in
theorem e_L_law_831 {Q : mQo} {T : List mSh} {c s : Nat} {I : Nat → Nat → Int32} {L : Nat → Nat → Int64} {st : List Value} {a0 a1 a2 a3 : Option Value} {v0 : Int32} {v1 : Int32} {o : Nat} : mWP tb_L_law Q 831 [a0, a1, a2, a3] (.int v1 :: .int v0 :: .ref o :: st) ((T, c, s), I, L) = (mTg (T, c, s) o = 13 ∧ (st.map Value.category).sum ≤ 8 ∧ C_X10_drop [.ref o, .int v0, .int v1] (mZr (T, c, s), I, L) (fun r h' => h'.1 = mZr (T, c, s) ∧ mWP tb_L_law Q 834 [a0, a1, a2, a3] (r.toList ++ st) ((T, c, s), h'.2))) := (mWP_eq mt_L_law _ _ _ _ _).trans (eq_CV (Q := Q) 2 rfl)
set_option maxRecDepth 100000 in
theorem e_L_law_834 {Q : mQo} {T : List mSh} {c s : Nat} {I : Nat → Nat → Int32} {L : Nat → Nat → Int64} {st : List Value} {a0 a1 a3 : Option Value} {x : Nat} : mWP tb_L_law Q 834 [a0, a1, some (.ref x), a3] st ((T, c, s), I, L) = mWP tb_L_law Q 835 [a0, a1, some (.ref x), a3] (.ref x :: st) ((T, c, s), I, L) := mWP_eq mt_L_law _ _ _ _ _
set_option maxRecDepth 100000 in
theorem e_L_law_834n {Q : mQo} {T : List mSh} {c s : Nat} {I : Nat → Nat → Int32} {L : Nat → Nat → Int64} {st : List Value} {a0 a1 a3 : Option Value} : mWP tb_L_law Q 834 [a0, a1, some .null, a3] st ((T, c, s), I, L) = mWP tb_L_law Q 835 [a0, a1, some .null, a3] (.null :: st) ((T, c, s), I, L) := mWP_eq mt_L_law _ _ _ _ _
set_option maxRecDepth 100000 in
theorem e_L_law_835 {Q : mQo} {T : List mSh} {c s : Nat} {I : Nat → Nat → Int32} {L : Nat → Nat → Int64} {st : List Value} {a1 a2 a3 : Option Value} {x : Nat} : mWP tb_L_law Q 835 [some (.ref x), a1, a2, a3] st ((T, c, s), I, L) = mWP tb_L_law Q 836 [some (.ref x), a1, a2, a3] (.ref x :: st) ((T, c, s), I, L) := mWP_eq mt_L_law _ _ _ _ _
set_option maxRecDepth 100000 in
theorem e_L_law_835n {Q : mQo} {T : List mSh} {c s : Nat} {I : Nat → Nat → Int32} {L : Nat → Nat → Int64} {st : List Value} {a1 a2 a3 : Option Value} : mWP tb_L_law Q 835 [some .null, a1, a2, a3] st ((T, c, s), I, L) = mWP tb_L_law Q 836 [some .null, a1, a2, a3] (.null :: st) ((T, c, s), I, L) := mWP_eq mt_L_law _ _ _ _ _
set_option maxRecDepth 100000 in
theorem e_L_law_836 {Q : mQo} {T : List mSh} {c s : Nat} {I : Nat → Nat → Int32} {L : Nat → Nat → Int64} {st : List Value} {a0 a1 a2 : Option Value} {x : Int32} : mWP tb_L_law Q 836 [a0, a1, a2, some (.int x)] st ((T, c, s), I, L) = mWP tb_L_law Q 837 [a0, a1, a2, some (.int x)] (.int x :: st) ((T, c, s), I, L) := mWP_eq mt_L_law _ _ _ _ _
set_option maxRecDepth 100000 in
theorem e_L_law_837 {Q : mQo} {T : List mSh} {c s : Nat} {I : Nat → Nat → Int32} {L : Nat → Nat → Int64} {st : List Value} {a0 a1 a2 a3 : Option Value} : mWP tb_L_law Q 837 [a0, a1, a2, a3] st ((T, c, s), I, L) = mWP tb_L_law Q 838 [a0, a1, a2, a3] (.int 1 :: st) ((T, c, s), I, L) := mWP_eq mt_L_law _ _ _ _ _
set_option maxRecDepth 100000 in
theorem e_L_law_838 {Q : mQo} {T : List mSh} {c s : Nat} {I : Nat → Nat → Int32} {L : Nat → Nat → Int64} {st : List Value} {a0 a1 a2 a3 : Option Value} {x y : Int32} : mWP tb_L_law Q 838 [a0, a1, a2, a3] (.int y :: .int x :: st) ((T, c, s), I, L) = mWP tb_L_law Q 839 [a0, a1, a2, a3] (.int (x + y) :: st) ((T, c, s), I, L) := mWP_eq mt_L_law _ _ _ _ _
set_option maxRecDepth 100000 in
theorem e_L_law_839 {Q : mQo} {T : List mSh} {c s : Nat} {I : Nat → Nat → Int32} {L : Nat → Nat → Int64} {st : List Value} {a0 a1 a2 a3 : Option Value} {x : Nat} {y : Int32} : mWP tb_L_law Q 839 [a0, a1, a2, a3] (.int y :: .ref x :: st) ((T, c, s), I, L) = (mTg (T, c, s) x = 0 ∧ vp_in y (mLn (T, c, s) x) ∧ mWP tb_L_law Q 840 [a0, a1, a2, a3] (.int (I x y.toNatClampNeg) :: st) ((T, c, s), I, L)) := mWP_eq mt_L_law _ _ _ _ _
set_option maxRecDepth 100000 in
theorem e_L_law_840 {Q : mQo} {T : List mSh} {c s : Nat} {I : Nat → Nat → Int32} {L : Nat → Nat → Int64} {st : List Value} {a1 a2 a3 : Option Value} {x : Nat} : mWP tb_L_law Q 840 [some (.ref x), a1, a2, a3] st ((T, c, s), I, L) = mWP tb_L_law Q 841 [some (.ref x), a1, a2, a3] (.ref x :: st) ((T, c, s), I, L) := mWP_eq mt_L_law _ _ _ _ _
set_option maxRecDepth 100000 in
theorem e_L_law_840n {Q : mQo} {T : List mSh} {c s : Nat} {I : Nat → Nat → Int32} {L : Nat → Nat → Int64} {st : List Value} {a1 a2 a3 : Option Value} : mWP tb_L_law Q 840 [some .null, a1, a2, a3] st ((T, c, s), I, L) = mWP tb_L_law Q 841 [some .null, a1, a2, a3] (.null :: st) ((T, c, s), I, L) := mWP_eq mt_L_law _ _ _ _ _
set_option maxRecDepth 100000 in
theorem e_L_law_841 {Q : mQo} {T : List mSh} {c s : Nat} {I : Nat → Nat → Int32} {L : Nat → Nat → Int64} {st : List Value} {a0 a1 a2 : Option Value} {x : Int32} : mWP tb_L_law Q 841 [a0, a1, a2, some (.int x)] st ((T, c, s), I, L) = mWP tb_L_law Q 842 [a0, a1, a2, some (.int x)] (.int x :: st) ((T, c, s), I, L) := mWP_eq mt_L_law _ _ _ _ _
set_option maxRecDepth 100000 in
theorem e_L_law_842 {Q : mQo} {T : List mSh} {c s : Nat} {I : Nat → Nat → Int32} {L : Nat → Nat → Int64} {st : List Value} {a0 a1 a2 a3 : Option Value} : mWP tb_L_law Q 842 [a0, a1, a2, a3] st ((T, c, s), I, L) = mWP tb_L_law Q 843 [a0, a1, a2, a3] (.int 2 :: st) ((T, c, s), I, L) := mWP_eq mt_L_law _ _ _ _ _
set_option maxRecDepth 100000 in
theorem e_L_law_843 {Q : mQo} {T : List mSh} {c s : Nat} {I : Nat → Nat → Int32} {L : Nat → Nat → Int64} {st : List Value} {a0 a1 a2 a3 : Option Value} {x y : Int32} : mWP tb_L_law Q 843 [a0, a1, a2, a3] (.int y :: .int x :: st) ((T, c, s), I, L) = mWP tb_L_law Q 844 [a0, a1, a2, a3] (.int (x + y) :: st) ((T, c, s), I, L) := mWP_eq mt_L_law _ _ _ _ _
set_option maxRecDepth 100000 in
theorem e_L_law_844 {Q : mQo} {T : List mSh} {c s : Nat} {I : Nat → Nat → Int32} {L : Nat → Nat → Int64} {st : List Value} {a0 a1 a2 a3 : Option Value} {x : Nat} {y : Int32} : mWP tb_L_law Q 844 [a0, a1, a2, a3] (.int y :: .ref x :: st) ((T, c, s), I, L) = (mTg (T, c, s) x = 0 ∧ vp_in y (mLn (T, c, s) x) ∧ mWP tb_L_law Q 845 [a0, a1, a2, a3] (.int (I x y.toNatClampNeg) :: st) ((T, c, s), I, L)) := mWP_eq mt_L_law _ _ _ _ _
set_option maxRecDepth 100000 in
theorem e_L_law_845 {Q : mQo} {T : List mSh} {c s : Nat} {I : Nat → Nat → Int32} {L : Nat → Nat → Int64} {st : List Value} {a0 a1 a2 a3 : Option Value} {v0 : Int32} {v1 : Int32} {o : Nat} : mWP tb_L_law Q 845 [a0, a1, a2, a3] (.int v1 :: .int v0 :: .ref o :: st) ((T, c, s), I, L) = (mTg (T, c, s) o = 14 ∧ (st.map Value.category).sum ≤ 8 ∧ C_X11_drop [.ref o, .int v0, .int v1] (mZr (T, c, s), I, L) (fun r h' => h'.1 = mZr (T, c, s) ∧ mWP tb_L_law Q 848 [a0, a1, a2, a3] (r.toList ++ st) ((T, c, s), h'.2))) := (mWP_eq mt_L_law _ _ _ _ _).trans (eq_CV (Q := Q) 2 rfl)
set_option maxRecDepth 100000 in
theorem e_L_law_848 {Q : mQo} {T : List mSh} {c s : Nat} {I : Nat → Nat → Int32} {L : Nat → Nat → Int64} {st : List Value} {a0 a1 a2 a3 : Option Value} {x y : Int64} : mWP tb_L_law Q 848 [a0, a1, a2, a3] (.long y :: .long x :: st) ((T, c, s), I, L) = mWP tb_L_law Q 849 [a0, a1, a2, a3] (.int (lg_cmp x y) :: st) ((T, c, s), I, L) := mWP_eq mt_L_law _ _ _ _ _
set_option maxRecDepth 100000 in
theorem e_L_law_849 {Q : mQo} {T : List mSh} {c s : Nat} {I : Nat → Nat → Int32} {L : Nat → Nat → Int64} {st : List Value} {a0 a1 a2 a3 : Option Value} {x : Int32} : mWP tb_L_law Q 849 [a0, a1, a2, a3] (.int x :: st) ((T, c, s), I, L) = ((x = 0 → mWP tb_L_law Q 1460 [a0, a1, a2, a3] st ((T, c, s), I, L)) ∧ (¬ (x = 0) → mWP tb_L_law Q 852 [a0, a1, a2, a3] st ((T, c, s), I, L))) := mWP_eq mt_L_law _ _ _ _ _
set_option maxRecDepth 100000 in
theorem e_L_law_852 {Q : mQo} {T : List mSh} {c s : Nat} {I : Nat → Nat → Int32} {L : Nat → Nat → Int64} {st : List Value} {a0 a1 a2 a3 : Option Value} : mWP tb_L_law Q 852 [a0, a1, a2, a3] st ((T, c, s), I, L) = mWP tb_L_law Q 853 [a0, a1, a2, a3] (.int 0 :: st) ((T, c, s), I, L) := mWP_eq mt_L_law _ _ _ _ _
set_option maxRecDepth 100000 in
theorem e_L_law_853 {Q : mQo} {T : List mSh} {c s : Nat} {I : Nat → Nat → Int32} {L : Nat → Nat → Int64} {a0 a1 a2 a3 : Option Value} {x : Int32} : mWP tb_L_law Q 853 [a0, a1, a2, a3] [.int x] ((T, c, s), I, L) = ((x = 0 ∨ x = 1) ∧ Q (some (.int x)) ((T, c, s), I, L)) := mWP_eq mt_L_law _ _ _ _ _
set_option maxRecDepth 100000 in
theorem e_L_law_854 {Q : mQo} {T : List mSh} {c s : Nat} {I : Nat → Nat → Int32} {L : Nat → Nat → Int64} {st : List Value} {a0 a2 a3 : Option Value} {x : Nat} : mWP tb_L_law Q 854 [a0, some (.ref x), a2, a3] st ((T, c, s), I, L) = mWP tb_L_law Q 855 [a0, some (.ref x), a2, a3] (.ref x :: st) ((T, c, s), I, L) := mWP_eq mt_L_law _ _ _ _ _
set_option maxRecDepth 100000 in
theorem e_L_law_854n {Q : mQo} {T : List mSh} {c s : Nat} {I : Nat → Nat → Int32} {L : Nat → Nat → Int64} {st : List Value} {a0 a2 a3 : Option Value} : mWP tb_L_law Q 854 [a0, some .null, a2, a3] st ((T, c, s), I, L) = mWP tb_L_law Q 855 [a0, some .null, a2, a3] (.null :: st) ((T, c, s), I, L) := mWP_eq mt_L_law _ _ _ _ _
set_option maxRecDepth 100000 in
theorem e_L_law_855 {Q : mQo} {T : List mSh} {c s : Nat} {I : Nat → Nat → Int32} {L : Nat → Nat → Int64} {st : List Value} {a1 a2 a3 : Option Value} {x : Nat} : mWP tb_L_law Q 855 [some (.ref x), a1, a2, a3] st ((T, c, s), I, L) = mWP tb_L_law Q 856 [some (.ref x), a1, a2, a3] (.ref x :: st) ((T, c, s), I, L) := mWP_eq mt_L_law _ _ _ _ _
set_option maxRecDepth 100000 in
theorem e_L_law_855n {Q : mQo} {T : List mSh} {c s : Nat} {I : Nat → Nat → Int32} {L : Nat → Nat → Int64} {st : List Value} {a1 a2 a3 : Option Value} : mWP tb_L_law Q 855 [some .null, a1, a2, a3] st ((T, c, s), I, L) = mWP tb_L_law Q 856 [some .null, a1, a2, a3] (.null :: st) ((T, c, s), I, L) := mWP_eq mt_L_law _ _ _ _ _
set_option maxRecDepth 100000 in
theorem e_L_law_856 {Q : mQo} {T : List mSh} {c s : Nat} {I : Nat → Nat → Int32} {L : Nat → Nat → Int64} {st : List Value} {a0 a1 a2 : Option Value} {x : Int32} : mWP tb_L_law Q 856 [a0, a1, a2, some (.int x)] st ((T, c, s), I, L) = mWP tb_L_law Q 857 [a0, a1, a2, some (.int x)] (.int x :: st) ((T, c, s), I, L) := mWP_eq mt_L_law _ _ _ _ _
set_option maxRecDepth 100000 in
theorem e_L_law_857 {Q : mQo} {T : List mSh} {c s : Nat} {I : Nat → Nat → Int32} {L : Nat → Nat → Int64} {st : List Value} {a0 a1 a2 a3 : Option Value} : mWP tb_L_law Q 857 [a0, a1, a2, a3] st ((T, c, s), I, L) = mWP tb_L_law Q 858 [a0, a1, a2, a3] (.int 1 :: st) ((T, c, s), I, L) := mWP_eq mt_L_law _ _ _ _ _
set_option maxRecDepth 100000 in
theorem e_L_law_858 {Q : mQo} {T : List mSh} {c s : Nat} {I : Nat → Nat → Int32} {L : Nat → Nat → Int64} {st : List Value} {a0 a1 a2 a3 : Option Value} {x y : Int32} : mWP tb_L_law Q 858 [a0, a1, a2, a3] (.int y :: .int x :: st) ((T, c, s), I, L) = mWP tb_L_law Q 859 [a0, a1, a2, a3] (.int (x + y) :: st) ((T, c, s), I, L) := mWP_eq mt_L_law _ _ _ _ _
set_option maxRecDepth 100000 in
theorem e_L_law_859 {Q : mQo} {T : List mSh} {c s : Nat} {I : Nat → Nat → Int32} {L : Nat → Nat → Int64} {st : List Value} {a0 a1 a2 a3 : Option Value} {x : Nat} {y : Int32} : mWP tb_L_law Q 859 [a0, a1, a2, a3] (.int y :: .ref x :: st) ((T, c, s), I, L) = (mTg (T, c, s) x = 0 ∧ vp_in y (mLn (T, c, s) x) ∧ mWP tb_L_law Q 860 [a0, a1, a2, a3] (.int (I x y.toNatClampNeg) :: st) ((T, c, s), I, L)) := mWP_eq mt_L_law _ _ _ _ _
set_option maxRecDepth 100000 in
theorem e_L_law_860 {Q : mQo} {T : List mSh} {c s : Nat} {I : Nat → Nat → Int32} {L : Nat → Nat → Int64} {st : List Value} {a1 a2 a3 : Option Value} {x : Nat} : mWP tb_L_law Q 860 [some (.ref x), a1, a2, a3] st ((T, c, s), I, L) = mWP tb_L_law Q 861 [some (.ref x), a1, a2, a3] (.ref x :: st) ((T, c, s), I, L) := mWP_eq mt_L_law _ _ _ _ _
set_option maxRecDepth 100000 in
theorem e_L_law_860n {Q : mQo} {T : List mSh} {c s : Nat} {I : Nat → Nat → Int32} {L : Nat → Nat → Int64} {st : List Value} {a1 a2 a3 : Option Value} : mWP tb_L_law Q 860 [some .null, a1, a2, a3] st ((T, c, s), I, L) = mWP tb_L_law Q 861 [some .null, a1, a2, a3] (.null :: st) ((T, c, s), I, L) := mWP_eq mt_L_law _ _ _ _ _
set_option maxRecDepth 100000 in
theorem e_L_law_861 {Q : mQo} {T : List mSh} {c s : Nat} {I : Nat → Nat → Int32} {L : Nat → Nat → Int64} {st : List Value} {a0 a1 a2 : Option Value} {x : Int32} : mWP tb_L_law Q 861 [a0, a1, a2, some (.int x)] st ((T, c, s), I, L) = mWP tb_L_law Q 862 [a0, a1, a2, some (.int x)] (.int x :: st) ((T, c, s), I, L) := mWP_eq mt_L_law _ _ _ _ _
set_option maxRecDepth 100000 in
theorem e_L_law_862 {Q : mQo} {T : List mSh} {c s : Nat} {I : Nat → Nat → Int32} {L : Nat → Nat → Int64} {st : List Value} {a0 a1 a2 a3 : Option Value} : mWP tb_L_law Q 862 [a0, a1, a2, a3] st ((T, c, s), I, L) = mWP tb_L_law Q 863 [a0, a1, a2, a3] (.int 2 :: st) ((T, c, s), I, L) := mWP_eq mt_L_law _ _ _ _ _
set_option maxRecDepth 100000 in
theorem e_L_law_863 {Q : mQo} {T : List mSh} {c s : Nat} {I : Nat → Nat → Int32} {L : Nat → Nat → Int64} {st : List Value} {a0 a1 a2 a3 : Option Value} {x y : Int32} : mWP tb_L_law Q 863 [a0, a1, a2, a3] (.int y :: .int x :: st) ((T, c, s), I, L) = mWP tb_L_law Q 864 [a0, a1, a2, a3] (.int (x + y) :: st) ((T, c, s), I, L) := mWP_eq mt_L_law _ _ _ _ _
set_option maxRecDepth 100000 in
theorem e_L_law_864 {Q : mQo} {T : List mSh} {c s : Nat} {I : Nat → Nat → Int32} {L : Nat → Nat → Int64} {st : List Value} {a0 a1 a2 a3 : Option Value} {x : Nat} {y : Int32} : mWP tb_L_law Q 864 [a0, a1, a2, a3] (.int y :: .ref x :: st) ((T, c, s), I, L) = (mTg (T, c, s) x = 0 ∧ vp_in y (mLn (T, c, s) x) ∧ mWP tb_L_law Q 865 [a0, a1, a2, a3] (.int (I x y.toNatClampNeg) :: st) ((T, c, s), I, L)) := mWP_eq mt_L_law _ _ _ _ _
set_option maxRecDepth 100000 in
theorem e_L_law_865 {Q : mQo} {T : List mSh} {c s : Nat} {I : Nat → Nat → Int32} {L : Nat → Nat → Int64} {st : List Value} {a1 a2 a3 : Option Value} {x : Nat} : mWP tb_L_law Q 865 [some (.ref x), a1, a2, a3] st ((T, c, s), I, L) = mWP tb_L_law Q 866 [some (.ref x), a1, a2, a3] (.ref x :: st) ((T, c, s), I, L) := mWP_eq mt_L_law _ _ _ _ _
set_option maxRecDepth 100000 in
theorem e_L_law_865n {Q : mQo} {T : List mSh} {c s : Nat} {I : Nat → Nat → Int32} {L : Nat → Nat → Int64} {st : List Value} {a1 a2 a3 : Option Value} : mWP tb_L_law Q 865 [some .null, a1, a2, a3] st ((T, c, s), I, L) = mWP tb_L_law Q 866 [some .null, a1, a2, a3] (.null :: st) ((T, c, s), I, L) := mWP_eq mt_L_law _ _ _ _ _
set_option maxRecDepth 100000 in
theorem e_L_law_866 {Q : mQo} {T : List mSh} {c s : Nat} {I : Nat → Nat → Int32} {L : Nat → Nat → Int64} {st : List Value} {a0 a1 a2 : Option Value} {x : Int32} : mWP tb_L_law Q 866 [a0, a1, a2, some (.int x)] st ((T, c, s), I, L) = mWP tb_L_law Q 867 [a0, a1, a2, some (.int x)] (.int x :: st) ((T, c, s), I, L) := mWP_eq mt_L_law _ _ _ _ _
set_option maxRecDepth 100000 in
theorem e_L_law_867 {Q : mQo} {T : List mSh} {c s : Nat} {I : Nat → Nat → Int32} {L : Nat → Nat → Int64} {st : List Value} {a0 a1 a2 a3 : Option Value} : mWP tb_L_law Q 867 [a0, a1, a2, a3] st ((T, c, s), I, L) = mWP tb_L_law Q 868 [a0, a1, a2, a3] (.int 3 :: st) ((T, c, s), I, L) := mWP_eq mt_L_law _ _ _ _ _
set_option maxRecDepth 100000 in
theorem e_L_law_868 {Q : mQo} {T : List mSh} {c s : Nat} {I : Nat → Nat → Int32} {L : Nat → Nat → Int64} {st : List Value} {a0 a1 a2 a3 : Option Value} {x y : Int32} : mWP tb_L_law Q 868 [a0, a1, a2, a3] (.int y :: .int x :: st) ((T, c, s), I, L) = mWP tb_L_law Q 869 [a0, a1, a2, a3] (.int (x + y) :: st) ((T, c, s), I, L) := mWP_eq mt_L_law _ _ _ _ _
set_option maxRecDepth 100000 in
theorem e_L_law_869 {Q : mQo} {T : List mSh} {c s : Nat} {I : Nat → Nat → Int32} {L : Nat → Nat → Int64} {st : List Value} {a0 a1 a2 a3 : Option Value} {x : Nat} {y : Int32} : mWP tb_L_law Q 869 [a0, a1, a2, a3] (.int y :: .ref x :: st) ((T, c, s), I, L) = (mTg (T, c, s) x = 0 ∧ vp_in y (mLn (T, c, s) x) ∧ mWP tb_L_law Q 870 [a0, a1, a2, a3] (.int (I x y.toNatClampNeg) :: st) ((T, c, s), I, L)) := mWP_eq mt_L_law _ _ _ _ _
set_option maxRecDepth 100000 in
theorem e_L_law_870 {Q : mQo} {T : List mSh} {c s : Nat} {I : Nat → Nat → Int32} {L : Nat → Nat → Int64} {st : List Value} {a0 a1 a2 a3 : Option Value} {v0 : Int32} {v1 : Int32} {v2 : Int32} {o : Nat} : mWP tb_L_law Q 870 [a0, a1, a2, a3] (.int v2 :: .int v1 :: .int v0 :: .ref o :: st) ((T, c, s), I, L) = (mTg (T, c, s) o = 13 ∧ (st.map Value.category).sum ≤ 8 ∧ C_X10_pluck [.ref o, .int v0, .int v1, .int v2] (mZr (T, c, s), I, L) (fun r h' => h'.1 = mZr (T, c, s) ∧ mWP tb_L_law Q 873 [a0, a1, a2, a3] (r.toList ++ st) ((T, c, s), h'.2))) := (mWP_eq mt_L_law _ _ _ _ _).trans (eq_CV (Q := Q) 3 rfl)
set_option maxRecDepth 100000 in
theorem e_L_law_873 {Q : mQo} {T : List mSh} {c s : Nat} {I : Nat → Nat → Int32} {L : Nat → Nat → Int64} {st : List Value} {a0 a1 a3 : Option Value} {x : Nat} : mWP tb_L_law Q 873 [a0, a1, some (.ref x), a3] st ((T, c, s), I, L) = mWP tb_L_law Q 874 [a0, a1, some (.ref x), a3] (.ref x :: st) ((T, c, s), I, L) := mWP_eq mt_L_law _ _ _ _ _
set_option maxRecDepth 100000 in
theorem e_L_law_873n {Q : mQo} {T : List mSh} {c s : Nat} {I : Nat → Nat → Int32} {L : Nat → Nat → Int64} {st : List Value} {a0 a1 a3 : Option Value} : mWP tb_L_law Q 873 [a0, a1, some .null, a3] st ((T, c, s), I, L) = mWP tb_L_law Q 874 [a0, a1, some .null, a3] (.null :: st) ((T, c, s), I, L) := mWP_eq mt_L_law _ _ _ _ _
set_option maxRecDepth 100000 in
theorem e_L_law_874 {Q : mQo} {T : List mSh} {c s : Nat} {I : Nat → Nat → Int32} {L : Nat → Nat → Int64} {st : List Value} {a1 a2 a3 : Option Value} {x : Nat} : mWP tb_L_law Q 874 [some (.ref x), a1, a2, a3] st ((T, c, s), I, L) = mWP tb_L_law Q 875 [some (.ref x), a1, a2, a3] (.ref x :: st) ((T, c, s), I, L) := mWP_eq mt_L_law _ _ _ _ _
set_option maxRecDepth 100000 in
theorem e_L_law_874n {Q : mQo} {T : List mSh} {c s : Nat} {I : Nat → Nat → Int32} {L : Nat → Nat → Int64} {st : List Value} {a1 a2 a3 : Option Value} : mWP tb_L_law Q 874 [some .null, a1, a2, a3] st ((T, c, s), I, L) = mWP tb_L_law Q 875 [some .null, a1, a2, a3] (.null :: st) ((T, c, s), I, L) := mWP_eq mt_L_law _ _ _ _ _
set_option maxRecDepth 100000 in
theorem e_L_law_875 {Q : mQo} {T : List mSh} {c s : Nat} {I : Nat → Nat → Int32} {L : Nat → Nat → Int64} {st : List Value} {a0 a1 a2 : Option Value} {x : Int32} : mWP tb_L_law Q 875 [a0, a1, a2, some (.int x)] st ((T, c, s), I, L) = mWP tb_L_law Q 876 [a0, a1, a2, some (.int x)] (.int x :: st) ((T, c, s), I, L) := mWP_eq mt_L_law _ _ _ _ _
set_option maxRecDepth 100000 in
theorem e_L_law_876 {Q : mQo} {T : List mSh} {c s : Nat} {I : Nat → Nat → Int32} {L : Nat → Nat → Int64} {st : List Value} {a0 a1 a2 a3 : Option Value} : mWP tb_L_law Q 876 [a0, a1, a2, a3] st ((T, c, s), I, L) = mWP tb_L_law Q 877 [a0, a1, a2, a3] (.int 1 :: st) ((T, c, s), I, L) := mWP_eq mt_L_law _ _ _ _ _
set_option maxRecDepth 100000 in
theorem e_L_law_877 {Q : mQo} {T : List mSh} {c s : Nat} {I : Nat → Nat → Int32} {L : Nat → Nat → Int64} {st : List Value} {a0 a1 a2 a3 : Option Value} {x y : Int32} : mWP tb_L_law Q 877 [a0, a1, a2, a3] (.int y :: .int x :: st) ((T, c, s), I, L) = mWP tb_L_law Q 878 [a0, a1, a2, a3] (.int (x + y) :: st) ((T, c, s), I, L) := mWP_eq mt_L_law _ _ _ _ _
set_option maxRecDepth 100000 in
theorem e_L_law_878 {Q : mQo} {T : List mSh} {c s : Nat} {I : Nat → Nat → Int32} {L : Nat → Nat → Int64} {st : List Value} {a0 a1 a2 a3 : Option Value} {x : Nat} {y : Int32} : mWP tb_L_law Q 878 [a0, a1, a2, a3] (.int y :: .ref x :: st) ((T, c, s), I, L) = (mTg (T, c, s) x = 0 ∧ vp_in y (mLn (T, c, s) x) ∧ mWP tb_L_law Q 879 [a0, a1, a2, a3] (.int (I x y.toNatClampNeg) :: st) ((T, c, s), I, L)) := mWP_eq mt_L_law _ _ _ _ _
set_option maxRecDepth 100000 in
theorem e_L_law_879 {Q : mQo} {T : List mSh} {c s : Nat} {I : Nat → Nat → Int32} {L : Nat → Nat → Int64} {st : List Value} {a1 a2 a3 : Option Value} {x : Nat} : mWP tb_L_law Q 879 [some (.ref x), a1, a2, a3] st ((T, c, s), I, L) = mWP tb_L_law Q 880 [some (.ref x), a1, a2, a3] (.ref x :: st) ((T, c, s), I, L) := mWP_eq mt_L_law _ _ _ _ _
set_option maxRecDepth 100000 in
theorem e_L_law_879n {Q : mQo} {T : List mSh} {c s : Nat} {I : Nat → Nat → Int32} {L : Nat → Nat → Int64} {st : List Value} {a1 a2 a3 : Option Value} : mWP tb_L_law Q 879 [some .null, a1, a2, a3] st ((T, c, s), I, L) = mWP tb_L_law Q 880 [some .null, a1, a2, a3] (.null :: st) ((T, c, s), I, L) := mWP_eq mt_L_law _ _ _ _ _
set_option maxRecDepth 100000 in
theorem e_L_law_880 {Q : mQo} {T : List mSh} {c s : Nat} {I : Nat → Nat → Int32} {L : Nat → Nat → Int64} {st : List Value} {a0 a1 a2 : Option Value} {x : Int32} : mWP tb_L_law Q 880 [a0, a1, a2, some (.int x)] st ((T, c, s), I, L) = mWP tb_L_law Q 881 [a0, a1, a2, some (.int x)] (.int x :: st) ((T, c, s), I, L) := mWP_eq mt_L_law _ _ _ _ _
set_option maxRecDepth 100000 in
theorem e_L_law_881 {Q : mQo} {T : List mSh} {c s : Nat} {I : Nat → Nat → Int32} {L : Nat → Nat → Int64} {st : List Value} {a0 a1 a2 a3 : Option Value} : mWP tb_L_law Q 881 [a0, a1, a2, a3] st ((T, c, s), I, L) = mWP tb_L_law Q 882 [a0, a1, a2, a3] (.int 2 :: st) ((T, c, s), I, L) := mWP_eq mt_L_law _ _ _ _ _
set_option maxRecDepth 100000 in
theorem e_L_law_882 {Q : mQo} {T : List mSh} {c s : Nat} {I : Nat → Nat → Int32} {L : Nat → Nat → Int64} {st : List Value} {a0 a1 a2 a3 : Option Value} {x y : Int32} : mWP tb_L_law Q 882 [a0, a1, a2, a3] (.int y :: .int x :: st) ((T, c, s), I, L) = mWP tb_L_law Q 883 [a0, a1, a2, a3] (.int (x + y) :: st) ((T, c, s), I, L) := mWP_eq mt_L_law _ _ _ _ _
set_option maxRecDepth 100000 in
theorem e_L_law_883 {Q : mQo} {T : List mSh} {c s : Nat} {I : Nat → Nat → Int32} {L : Nat → Nat → Int64} {st : List Value} {a0 a1 a2 a3 : Option Value} {x : Nat} {y : Int32} : mWP tb_L_law Q 883 [a0, a1, a2, a3] (.int y :: .ref x :: st) ((T, c, s), I, L) = (mTg (T, c, s) x = 0 ∧ vp_in y (mLn (T, c, s) x) ∧ mWP tb_L_law Q 884 [a0, a1, a2, a3] (.int (I x y.toNatClampNeg) :: st) ((T, c, s), I, L)) := mWP_eq mt_L_law _ _ _ _ _
set_option maxRecDepth 100000 in
theorem e_L_law_884 {Q : mQo} {T : List mSh} {c s : Nat} {I : Nat → Nat → Int32} {L : Nat → Nat → Int64} {st : List Value} {a1 a2 a3 : Option Value} {x : Nat} : mWP tb_L_law Q 884 [some (.ref x), a1, a2, a3] st ((T, c, s), I, L) = mWP tb_L_law Q 885 [some (.ref x), a1, a2, a3] (.ref x :: st) ((T, c, s), I, L) := mWP_eq mt_L_law _ _ _ _ _
set_option maxRecDepth 100000 in
theorem e_L_law_884n {Q : mQo} {T : List mSh} {c s : Nat} {I : Nat → Nat → Int32} {L : Nat → Nat → Int64} {st : List Value} {a1 a2 a3 : Option Value} : mWP tb_L_law Q 884 [some .null, a1, a2, a3] st ((T, c, s), I, L) = mWP tb_L_law Q 885 [some .null, a1, a2, a3] (.null :: st) ((T, c, s), I, L) := mWP_eq mt_L_law _ _ _ _ _
set_option maxRecDepth 100000 in
theorem e_L_law_885 {Q : mQo} {T : List mSh} {c s : Nat} {I : Nat → Nat → Int32} {L : Nat → Nat → Int64} {st : List Value} {a0 a1 a2 : Option Value} {x : Int32} : mWP tb_L_law Q 885 [a0, a1, a2, some (.int x)] st ((T, c, s), I, L) = mWP tb_L_law Q 886 [a0, a1, a2, some (.int x)] (.int x :: st) ((T, c, s), I, L) := mWP_eq mt_L_law _ _ _ _ _
set_option maxRecDepth 100000 in
theorem e_L_law_886 {Q : mQo} {T : List mSh} {c s : Nat} {I : Nat → Nat → Int32} {L : Nat → Nat → Int64} {st : List Value} {a0 a1 a2 a3 : Option Value} : mWP tb_L_law Q 886 [a0, a1, a2, a3] st ((T, c, s), I, L) = mWP tb_L_law Q 887 [a0, a1, a2, a3] (.int 3 :: st) ((T, c, s), I, L) := mWP_eq mt_L_law _ _ _ _ _
set_option maxRecDepth 100000 in
theorem e_L_law_887 {Q : mQo} {T : List mSh} {c s : Nat} {I : Nat → Nat → Int32} {L : Nat → Nat → Int64} {st : List Value} {a0 a1 a2 a3 : Option Value} {x y : Int32} : mWP tb_L_law Q 887 [a0, a1, a2, a3] (.int y :: .int x :: st) ((T, c, s), I, L) = mWP tb_L_law Q 888 [a0, a1, a2, a3] (.int (x + y) :: st) ((T, c, s), I, L) := mWP_eq mt_L_law _ _ _ _ _
set_option maxRecDepth 100000 in
theorem e_L_law_888 {Q : mQo} {T : List mSh} {c s : Nat} {I : Nat → Nat → Int32} {L : Nat → Nat → Int64} {st : List Value} {a0 a1 a2 a3 : Option Value} {x : Nat} {y : Int32} : mWP tb_L_law Q 888 [a0, a1, a2, a3] (.int y :: .ref x :: st) ((T, c, s), I, L) = (mTg (T, c, s) x = 0 ∧ vp_in y (mLn (T, c, s) x) ∧ mWP tb_L_law Q 889 [a0, a1, a2, a3] (.int (I x y.toNatClampNeg) :: st) ((T, c, s), I, L)) := mWP_eq mt_L_law _ _ _ _ _
set_option maxRecDepth 100000 in
theorem e_L_law_889 {Q : mQo} {T : List mSh} {c s : Nat} {I : Nat → Nat → Int32} {L : Nat → Nat → Int64} {st : List Value} {a0 a1 a2 a3 : Option Value} {v0 : Int32} {v1 : Int32} {v2 : Int32} {o : Nat} : mWP tb_L_law Q 889 [a0, a1, a2, a3] (.int v2 :: .int v1 :: .int v0 :: .ref o :: st) ((T, c, s), I, L) = (mTg (T, c, s) o = 14 ∧ (st.map Value.category).sum ≤ 8 ∧ C_X11_pluck [.ref o, .int v0, .int v1, .int v2] (mZr (T, c, s), I, L) (fun r h' => h'.1 = mZr (T, c, s) ∧ mWP tb_L_law Q 892 [a0, a1, a2, a3] (r.toList ++ st) ((T, c, s), h'.2))) := (mWP_eq mt_L_law _ _ _ _ _).trans (eq_CV (Q := Q) 3 rfl)
set_option maxRecDepth 100000 in
theorem e_L_law_892 {Q : mQo} {T : List mSh} {c s : Nat} {I : Nat → Nat → Int32} {L : Nat → Nat → Int64} {st : List Value} {a0 a1 a2 a3 : Option Value} {x y : Int64} : mWP tb_L_law Q 892 [a0, a1, a2, a3] (.long y :: .long x :: st) ((T, c, s), I, L) = mWP tb_L_law Q 893 [a0, a1, a2, a3] (.int (lg_cmp x y) :: st) ((T, c, s), I, L) := mWP_eq mt_L_law _ _ _ _ _
set_option maxRecDepth 100000 in
theorem e_L_law_893 {Q : mQo} {T : List mSh} {c s : Nat} {I : Nat → Nat → Int32} {L : Nat → Nat → Int64} {st : List Value} {a0 a1 a2 a3 : Option Value} {x : Int32} : mWP tb_L_law Q 893 [a0, a1, a2, a3] (.int x :: st) ((T, c, s), I, L) = ((x = 0 → mWP tb_L_law Q 1460 [a0, a1, a2, a3] st ((T, c, s), I, L)) ∧ (¬ (x = 0) → mWP tb_L_law Q 896 [a0, a1, a2, a3] st ((T, c, s), I, L))) := mWP_eq mt_L_law _ _ _ _ _
set_option maxRecDepth 100000 in
theorem e_L_law_896 {Q : mQo} {T : List mSh} {c s : Nat} {I : Nat → Nat → Int32} {L : Nat → Nat → Int64} {st : List Value} {a0 a1 a2 a3 : Option Value} : mWP tb_L_law Q 896 [a0, a1, a2, a3] st ((T, c, s), I, L) = mWP tb_L_law Q 897 [a0, a1, a2, a3] (.int 0 :: st) ((T, c, s), I, L) := mWP_eq mt_L_law _ _ _ _ _
set_option maxRecDepth 100000 in
theorem e_L_law_897 {Q : mQo} {T : List mSh} {c s : Nat} {I : Nat → Nat → Int32} {L : Nat → Nat → Int64} {a0 a1 a2 a3 : Option Value} {x : Int32} : mWP tb_L_law Q 897 [a0, a1, a2, a3] [.int x] ((T, c, s), I, L) = ((x = 0 ∨ x = 1) ∧ Q (some (.int x)) ((T, c, s), I, L)) := mWP_eq mt_L_law _ _ _ _ _
set_option maxRecDepth 100000 in
theorem e_L_law_898 {Q : mQo} {T : List mSh} {c s : Nat} {I : Nat → Nat → Int32} {L : Nat → Nat → Int64} {st : List Value} {a0 a2 a3 : Option Value} {x : Nat} : mWP tb_L_law Q 898 [a0, some (.ref x), a2, a3] st ((T, c, s), I, L) = mWP tb_L_law Q 899 [a0, some (.ref x), a2, a3] (.ref x :: st) ((T, c, s), I, L) := mWP_eq mt_L_law _ _ _ _ _
set_option maxRecDepth 100000 in
theorem e_L_law_898n {Q : mQo} {T : List mSh} {c s : Nat} {I : Nat → Nat → Int32} {L : Nat → Nat → Int64} {st : List Value} {a0 a2 a3 : Option Value} : mWP tb_L_law Q 898 [a0, some .null, a2, a3] st ((T, c, s), I, L) = mWP tb_L_law Q 899 [a0, some .null, a2, a3] (.null :: st) ((T, c, s), I, L) := mWP_eq mt_L_law _ _ _ _ _
set_option maxRecDepth 100000 in
theorem e_L_law_899 {Q : mQo} {T : List mSh} {c s : Nat} {I : Nat → Nat → Int32} {L : Nat → Nat → Int64} {st : List Value} {a1 a2 a3 : Option Value} {x : Nat} : mWP tb_L_law Q 899 [some (.ref x), a1, a2, a3] st ((T, c, s), I, L) = mWP tb_L_law Q 900 [some (.ref x), a1, a2, a3] (.ref x :: st) ((T, c, s), I, L) := mWP_eq mt_L_law _ _ _ _ _
set_option maxRecDepth 100000 in
theorem e_L_law_899n {Q : mQo} {T : List mSh} {c s : Nat} {I : Nat → Nat → Int32} {L : Nat → Nat → Int64} {st : List Value} {a1 a2 a3 : Option Value} : mWP tb_L_law Q 899 [some .null, a1, a2, a3] st ((T, c, s), I, L) = mWP tb_L_law Q 900 [some .null, a1, a2, a3] (.null :: st) ((T, c, s), I, L) := mWP_eq mt_L_law _ _ _ _ _
set_option maxRecDepth 100000 in
theorem e_L_law_900 {Q : mQo} {T : List mSh} {c s : Nat} {I : Nat → Nat → Int32} {L : Nat → Nat → Int64} {st : List Value} {a0 a1 a2 : Option Value} {x : Int32} : mWP tb_L_law Q 900 [a0, a1, a2, some (.int x)] st ((T, c, s), I, L) = mWP tb_L_law Q 901 [a0, a1, a2, some (.int x)] (.int x :: st) ((T, c, s), I, L) := mWP_eq mt_L_law _ _ _ _ _
set_option maxRecDepth 100000 in
theorem e_L_law_901 {Q : mQo} {T : List mSh} {c s : Nat} {I : Nat → Nat → Int32} {L : Nat → Nat → Int64} {st : List Value} {a0 a1 a2 a3 : Option Value} : mWP tb_L_law Q 901 [a0, a1, a2, a3] st ((T, c, s), I, L) = mWP tb_L_law Q 902 [a0, a1, a2, a3] (.int 1 :: st) ((T, c, s), I, L) := mWP_eq mt_L_law _ _ _ _ _
set_option maxRecDepth 100000 in
theorem e_L_law_902 {Q : mQo} {T : List mSh} {c s : Nat} {I : Nat → Nat → Int32} {L : Nat → Nat → Int64} {st : List Value} {a0 a1 a2 a3 : Option Value} {x y : Int32} : mWP tb_L_law Q 902 [a0, a1, a2, a3] (.int y :: .int x :: st) ((T, c, s), I, L) = mWP tb_L_law Q 903 [a0, a1, a2, a3] (.int (x + y) :: st) ((T, c, s), I, L) := mWP_eq mt_L_law _ _ _ _ _
set_option maxRecDepth 100000 in
theorem e_L_law_903 {Q : mQo} {T : List mSh} {c s : Nat} {I : Nat → Nat → Int32} {L : Nat → Nat → Int64} {st : List Value} {a0 a1 a2 a3 : Option Value} {x : Nat} {y : Int32} : mWP tb_L_law Q 903 [a0, a1, a2, a3] (.int y :: .ref x :: st) ((T, c, s), I, L) = (mTg (T, c, s) x = 0 ∧ vp_in y (mLn (T, c, s) x) ∧ mWP tb_L_law Q 904 [a0, a1, a2, a3] (.int (I x y.toNatClampNeg) :: st) ((T, c, s), I, L)) := mWP_eq mt_L_law _ _ _ _ _
set_option maxRecDepth 100000 in
theorem e_L_law_904 {Q : mQo} {T : List mSh} {c s : Nat} {I : Nat → Nat → Int32} {L : Nat → Nat → Int64} {st : List Value} {a1 a2 a3 : Option Value} {x : Nat} : mWP tb_L_law Q 904 [some (.ref x), a1, a2, a3] st ((T, c, s), I, L) = mWP tb_L_law Q 905 [some (.ref x), a1, a2, a3] (.ref x :: st) ((T, c, s), I, L) := mWP_eq mt_L_law _ _ _ _ _
set_option maxRecDepth 100000 in
theorem e_L_law_904n {Q : mQo} {T : List mSh} {c s : Nat} {I : Nat → Nat → Int32} {L : Nat → Nat → Int64} {st : List Value} {a1 a2 a3 : Option Value} : mWP tb_L_law Q 904 [some .null, a1, a2, a3] st ((T, c, s), I, L) = mWP tb_L_law Q 905 [some .null, a1, a2, a3] (.null :: st) ((T, c, s), I, L) := mWP_eq mt_L_law _ _ _ _ _
set_option maxRecDepth 100000 in
theorem e_L_law_905 {Q : mQo} {T : List mSh} {c s : Nat} {I : Nat → Nat → Int32} {L : Nat → Nat → Int64} {st : List Value} {a0 a1 a2 : Option Value} {x : Int32} : mWP tb_L_law Q 905 [a0, a1, a2, some (.int x)] st ((T, c, s), I, L) = mWP tb_L_law Q 906 [a0, a1, a2, some (.int x)] (.int x :: st) ((T, c, s), I, L) := mWP_eq mt_L_law _ _ _ _ _
set_option maxRecDepth 100000 in
theorem e_L_law_906 {Q : mQo} {T : List mSh} {c s : Nat} {I : Nat → Nat → Int32} {L : Nat → Nat → Int64} {st : List Value} {a0 a1 a2 a3 : Option Value} : mWP tb_L_law Q 906 [a0, a1, a2, a3] st ((T, c, s), I, L) = mWP tb_L_law Q 907 [a0, a1, a2, a3] (.int 2 :: st) ((T, c, s), I, L) := mWP_eq mt_L_law _ _ _ _ _
set_option maxRecDepth 100000 in
theorem e_L_law_907 {Q : mQo} {T : List mSh} {c s : Nat} {I : Nat → Nat → Int32} {L : Nat → Nat → Int64} {st : List Value} {a0 a1 a2 a3 : Option Value} {x y : Int32} : mWP tb_L_law Q 907 [a0, a1, a2, a3] (.int y :: .int x :: st) ((T, c, s), I, L) = mWP tb_L_law Q 908 [a0, a1, a2, a3] (.int (x + y) :: st) ((T, c, s), I, L) := mWP_eq mt_L_law _ _ _ _ _
set_option maxRecDepth 100000 in
theorem e_L_law_908 {Q : mQo} {T : List mSh} {c s : Nat} {I : Nat → Nat → Int32} {L : Nat → Nat → Int64} {st : List Value} {a0 a1 a2 a3 : Option Value} {x : Nat} {y : Int32} : mWP tb_L_law Q 908 [a0, a1, a2, a3] (.int y :: .ref x :: st) ((T, c, s), I, L) = (mTg (T, c, s) x = 0 ∧ vp_in y (mLn (T, c, s) x) ∧ mWP tb_L_law Q 909 [a0, a1, a2, a3] (.int (I x y.toNatClampNeg) :: st) ((T, c, s), I, L)) := mWP_eq mt_L_law _ _ _ _ _
set_option maxRecDepth 100000 in
theorem e_L_law_909 {Q : mQo} {T : List mSh} {c s : Nat} {I : Nat → Nat → Int32} {L : Nat → Nat → Int64} {st : List Value} {a1 a2 a3 : Option Value} {x : Nat} : mWP tb_L_law Q 909 [some (.ref x), a1, a2, a3] st ((T, c, s), I, L) = mWP tb_L_law Q 910 [some (.ref x), a1, a2, a3] (.ref x :: st) ((T, c, s), I, L) := mWP_eq mt_L_law _ _ _ _ _
set_option maxRecDepth 100000 in
theorem e_L_law_909n {Q : mQo} {T : List mSh} {c s : Nat} {I : Nat → Nat → Int32} {L : Nat → Nat → Int64} {st : List Value} {a1 a2 a3 : Option Value} : mWP tb_L_law Q 909 [some .null, a1, a2, a3] st ((T, c, s), I, L) = mWP tb_L_law Q 910 [some .null, a1, a2, a3] (.null :: st) ((T, c, s), I, L) := mWP_eq mt_L_law _ _ _ _ _
set_option maxRecDepth 100000 in
theorem e_L_law_910 {Q : mQo} {T : List mSh} {c s : Nat} {I : Nat → Nat → Int32} {L : Nat → Nat → Int64} {st : List Value} {a0 a1 a2 : Option Value} {x : Int32} : mWP tb_L_law Q 910 [a0, a1, a2, some (.int x)] st ((T, c, s), I, L) = mWP tb_L_law Q 911 [a0, a1, a2, some (.int x)] (.int x :: st) ((T, c, s), I, L) := mWP_eq mt_L_law _ _ _ _ _
set_option maxRecDepth 100000 in
theorem e_L_law_911 {Q : mQo} {T : List mSh} {c s : Nat} {I : Nat → Nat → Int32} {L : Nat → Nat → Int64} {st : List Value} {a0 a1 a2 a3 : Option Value} : mWP tb_L_law Q 911 [a0, a1, a2, a3] st ((T, c, s), I, L) = mWP tb_L_law Q 912 [a0, a1, a2, a3] (.int 3 :: st) ((T, c, s), I, L) := mWP_eq mt_L_law _ _ _ _ _
set_option maxRecDepth 100000 in
theorem e_L_law_912 {Q : mQo} {T : List mSh} {c s : Nat} {I : Nat → Nat → Int32} {L : Nat → Nat → Int64} {st : List Value} {a0 a1 a2 a3 : Option Value} {x y : Int32} : mWP tb_L_law Q 912 [a0, a1, a2, a3] (.int y :: .int x :: st) ((T, c, s), I, L) = mWP tb_L_law Q 913 [a0, a1, a2, a3] (.int (x + y) :: st) ((T, c, s), I, L) := mWP_eq mt_L_law _ _ _ _ _
set_option maxRecDepth 100000 in
theorem e_L_law_913 {Q : mQo} {T : List mSh} {c s : Nat} {I : Nat → Nat → Int32} {L : Nat → Nat → Int64} {st : List Value} {a0 a1 a2 a3 : Option Value} {x : Nat} {y : Int32} : mWP tb_L_law Q 913 [a0, a1, a2, a3] (.int y :: .ref x :: st) ((T, c, s), I, L) = (mTg (T, c, s) x = 0 ∧ vp_in y (mLn (T, c, s) x) ∧ mWP tb_L_law Q 914 [a0, a1, a2, a3] (.int (I x y.toNatClampNeg) :: st) ((T, c, s), I, L)) := mWP_eq mt_L_law _ _ _ _ _
set_option maxRecDepth 100000 in
theorem e_L_law_914 {Q : mQo} {T : List mSh} {c s : Nat} {I : Nat → Nat → Int32} {L : Nat → Nat → Int64} {st : List Value} {a0 a1 a2 a3 : Option Value} {v0 : Int32} {v1 : Int32} {v2 : Int32} {o : Nat} : mWP tb_L_law Q 914 [a0, a1, a2, a3] (.int v2 :: .int v1 :: .int v0 :: .ref o :: st) ((T, c, s), I, L) = (mTg (T, c, s) o = 13 ∧ (st.map Value.category).sum ≤ 8 ∧ C_X10_holds [.ref o, .int v0, .int v1, .int v2] (mZr (T, c, s), I, L) (fun r h' => h'.1 = mZr (T, c, s) ∧ mWP tb_L_law Q 917 [a0, a1, a2, a3] (r.toList ++ st) ((T, c, s), h'.2))) := (mWP_eq mt_L_law _ _ _ _ _).trans (eq_CV (Q := Q) 3 rfl)
set_option maxRecDepth 100000 in
theorem e_L_law_917 {Q : mQo} {T : List mSh} {c s : Nat} {I : Nat → Nat → Int32} {L : Nat → Nat → Int64} {st : List Value} {a0 a1 a3 : Option Value} {x : Nat} : mWP tb_L_law Q 917 [a0, a1, some (.ref x), a3] st ((T, c, s), I, L) = mWP tb_L_law Q 918 [a0, a1, some (.ref x), a3] (.ref x :: st) ((T, c, s), I, L) := mWP_eq mt_L_law _ _ _ _ _
set_option maxRecDepth 100000 in
theorem e_L_law_917n {Q : mQo} {T : List mSh} {c s : Nat} {I : Nat → Nat → Int32} {L : Nat → Nat → Int64} {st : List Value} {a0 a1 a3 : Option Value} : mWP tb_L_law Q 917 [a0, a1, some .null, a3] st ((T, c, s), I, L) = mWP tb_L_law Q 918 [a0, a1, some .null, a3] (.null :: st) ((T, c, s), I, L) := mWP_eq mt_L_law _ _ _ _ _
set_option maxRecDepth 100000 in
theorem e_L_law_918 {Q : mQo} {T : List mSh} {c s : Nat} {I : Nat → Nat → Int32} {L : Nat → Nat → Int64} {st : List Value} {a1 a2 a3 : Option Value} {x : Nat} : mWP tb_L_law Q 918 [some (.ref x), a1, a2, a3] st ((T, c, s), I, L) = mWP tb_L_law Q 919 [some (.ref x), a1, a2, a3] (.ref x :: st) ((T, c, s), I, L) := mWP_eq mt_L_law _ _ _ _ _
set_option maxRecDepth 100000 in
theorem e_L_law_918n {Q : mQo} {T : List mSh} {c s : Nat} {I : Nat → Nat → Int32} {L : Nat → Nat → Int64} {st : List Value} {a1 a2 a3 : Option Value} : mWP tb_L_law Q 918 [some .null, a1, a2, a3] st ((T, c, s), I, L) = mWP tb_L_law Q 919 [some .null, a1, a2, a3] (.null :: st) ((T, c, s), I, L) := mWP_eq mt_L_law _ _ _ _ _
set_option maxRecDepth 100000 in
theorem e_L_law_919 {Q : mQo} {T : List mSh} {c s : Nat} {I : Nat → Nat → Int32} {L : Nat → Nat → Int64} {st : List Value} {a0 a1 a2 : Option Value} {x : Int32} : mWP tb_L_law Q 919 [a0, a1, a2, some (.int x)] st ((T, c, s), I, L) = mWP tb_L_law Q 920 [a0, a1, a2, some (.int x)] (.int x :: st) ((T, c, s), I, L) := mWP_eq mt_L_law _ _ _ _ _
set_option maxRecDepth 100000 in
theorem e_L_law_920 {Q : mQo} {T : List mSh} {c s : Nat} {I : Nat → Nat → Int32} {L : Nat → Nat → Int64} {st : List Value} {a0 a1 a2 a3 : Option Value} : mWP tb_L_law Q 920 [a0, a1, a2, a3] st ((T, c, s), I, L) = mWP tb_L_law Q 921 [a0, a1, a2, a3] (.int 1 :: st) ((T, c, s), I, L) := mWP_eq mt_L_law _ _ _ _ _
set_option maxRecDepth 100000 in
theorem e_L_law_921 {Q : mQo} {T : List mSh} {c s : Nat} {I : Nat → Nat → Int32} {L : Nat → Nat → Int64} {st : List Value} {a0 a1 a2 a3 : Option Value} {x y : Int32} : mWP tb_L_law Q 921 [a0, a1, a2, a3] (.int y :: .int x :: st) ((T, c, s), I, L) = mWP tb_L_law Q 922 [a0, a1, a2, a3] (.int (x + y) :: st) ((T, c, s), I, L) := mWP_eq mt_L_law _ _ _ _ _
set_option maxRecDepth 100000 in
theorem e_L_law_922 {Q : mQo} {T : List mSh} {c s : Nat} {I : Nat → Nat → Int32} {L : Nat → Nat → Int64} {st : List Value} {a0 a1 a2 a3 : Option Value} {x : Nat} {y : Int32} : mWP tb_L_law Q 922 [a0, a1, a2, a3] (.int y :: .ref x :: st) ((T, c, s), I, L) = (mTg (T, c, s) x = 0 ∧ vp_in y (mLn (T, c, s) x) ∧ mWP tb_L_law Q 923 [a0, a1, a2, a3] (.int (I x y.toNatClampNeg) :: st) ((T, c, s), I, L)) := mWP_eq mt_L_law _ _ _ _ _
set_option maxRecDepth 100000 in
theorem e_L_law_923 {Q : mQo} {T : List mSh} {c s : Nat} {I : Nat → Nat → Int32} {L : Nat → Nat → Int64} {st : List Value} {a1 a2 a3 : Option Value} {x : Nat} : mWP tb_L_law Q 923 [some (.ref x), a1, a2, a3] st ((T, c, s), I, L) = mWP tb_L_law Q 924 [some (.ref x), a1, a2, a3] (.ref x :: st) ((T, c, s), I, L) := mWP_eq mt_L_law _ _ _ _ _
set_option maxRecDepth 100000 in
theorem e_L_law_923n {Q : mQo} {T : List mSh} {c s : Nat} {I : Nat → Nat → Int32} {L : Nat → Nat → Int64} {st : List Value} {a1 a2 a3 : Option Value} : mWP tb_L_law Q 923 [some .null, a1, a2, a3] st ((T, c, s), I, L) = mWP tb_L_law Q 924 [some .null, a1, a2, a3] (.null :: st) ((T, c, s), I, L) := mWP_eq mt_L_law _ _ _ _ _
set_option maxRecDepth 100000 in
theorem e_L_law_924 {Q : mQo} {T : List mSh} {c s : Nat} {I : Nat → Nat → Int32} {L : Nat → Nat → Int64} {st : List Value} {a0 a1 a2 : Option Value} {x : Int32} : mWP tb_L_law Q 924 [a0, a1, a2, some (.int x)] st ((T, c, s), I, L) = mWP tb_L_law Q 925 [a0, a1, a2, some (.int x)] (.int x :: st) ((T, c, s), I, L) := mWP_eq mt_L_law _ _ _ _ _
set_option maxRecDepth 100000 in
theorem e_L_law_925 {Q : mQo} {T : List mSh} {c s : Nat} {I : Nat → Nat → Int32} {L : Nat → Nat → Int64} {st : List Value} {a0 a1 a2 a3 : Option Value} : mWP tb_L_law Q 925 [a0, a1, a2, a3] st ((T, c, s), I, L) = mWP tb_L_law Q 926 [a0, a1, a2, a3] (.int 2 :: st) ((T, c, s), I, L) := mWP_eq mt_L_law _ _ _ _ _
set_option maxRecDepth 100000 in
theorem e_L_law_926 {Q : mQo} {T : List mSh} {c s : Nat} {I : Nat → Nat → Int32} {L : Nat → Nat → Int64} {st : List Value} {a0 a1 a2 a3 : Option Value} {x y : Int32} : mWP tb_L_law Q 926 [a0, a1, a2, a3] (.int y :: .int x :: st) ((T, c, s), I, L) = mWP tb_L_law Q 927 [a0, a1, a2, a3] (.int (x + y) :: st) ((T, c, s), I, L) := mWP_eq mt_L_law _ _ _ _ _
set_option maxRecDepth 100000 in
theorem e_L_law_927 {Q : mQo} {T : List mSh} {c s : Nat} {I : Nat → Nat → Int32} {L : Nat → Nat → Int64} {st : List Value} {a0 a1 a2 a3 : Option Value} {x : Nat} {y : Int32} : mWP tb_L_law Q 927 [a0, a1, a2, a3] (.int y :: .ref x :: st) ((T, c, s), I, L) = (mTg (T, c, s) x = 0 ∧ vp_in y (mLn (T, c, s) x) ∧ mWP tb_L_law Q 928 [a0, a1, a2, a3] (.int (I x y.toNatClampNeg) :: st) ((T, c, s), I, L)) := mWP_eq mt_L_law _ _ _ _ _
set_option maxRecDepth 100000 in
theorem e_L_law_928 {Q : mQo} {T : List mSh} {c s : Nat} {I : Nat → Nat → Int32} {L : Nat → Nat → Int64} {st : List Value} {a1 a2 a3 : Option Value} {x : Nat} : mWP tb_L_law Q 928 [some (.ref x), a1, a2, a3] st ((T, c, s), I, L) = mWP tb_L_law Q 929 [some (.ref x), a1, a2, a3] (.ref x :: st) ((T, c, s), I, L) := mWP_eq mt_L_law _ _ _ _ _
set_option maxRecDepth 100000 in
theorem e_L_law_928n {Q : mQo} {T : List mSh} {c s : Nat} {I : Nat → Nat → Int32} {L : Nat → Nat → Int64} {st : List Value} {a1 a2 a3 : Option Value} : mWP tb_L_law Q 928 [some .null, a1, a2, a3] st ((T, c, s), I, L) = mWP tb_L_law Q 929 [some .null, a1, a2, a3] (.null :: st) ((T, c, s), I, L) := mWP_eq mt_L_law _ _ _ _ _
set_option maxRecDepth 100000 in
theorem e_L_law_929 {Q : mQo} {T : List mSh} {c s : Nat} {I : Nat → Nat → Int32} {L : Nat → Nat → Int64} {st : List Value} {a0 a1 a2 : Option Value} {x : Int32} : mWP tb_L_law Q 929 [a0, a1, a2, some (.int x)] st ((T, c, s), I, L) = mWP tb_L_law Q 930 [a0, a1, a2, some (.int x)] (.int x :: st) ((T, c, s), I, L) := mWP_eq mt_L_law _ _ _ _ _
set_option maxRecDepth 100000 in
theorem e_L_law_930 {Q : mQo} {T : List mSh} {c s : Nat} {I : Nat → Nat → Int32} {L : Nat → Nat → Int64} {st : List Value} {a0 a1 a2 a3 : Option Value} : mWP tb_L_law Q 930 [a0, a1, a2, a3] st ((T, c, s), I, L) = mWP tb_L_law Q 931 [a0, a1, a2, a3] (.int 3 :: st) ((T, c, s), I, L) := mWP_eq mt_L_law _ _ _ _ _
set_option maxRecDepth 100000 in
theorem e_L_law_931 {Q : mQo} {T : List mSh} {c s : Nat} {I : Nat → Nat → Int32} {L : Nat → Nat → Int64} {st : List Value} {a0 a1 a2 a3 : Option Value} {x y : Int32} : mWP tb_L_law Q 931 [a0, a1, a2, a3] (.int y :: .int x :: st) ((T, c, s), I, L) = mWP tb_L_law Q 932 [a0, a1, a2, a3] (.int (x + y) :: st) ((T, c, s), I, L) := mWP_eq mt_L_law _ _ _ _ _
set_option maxRecDepth 100000 in
theorem e_L_law_932 {Q : mQo} {T : List mSh} {c s : Nat} {I : Nat → Nat → Int32} {L : Nat → Nat → Int64} {st : List Value} {a0 a1 a2 a3 : Option Value} {x : Nat} {y : Int32} : mWP tb_L_law Q 932 [a0, a1, a2, a3] (.int y :: .ref x :: st) ((T, c, s), I, L) = (mTg (T, c, s) x = 0 ∧ vp_in y (mLn (T, c, s) x) ∧ mWP tb_L_law Q 933 [a0, a1, a2, a3] (.int (I x y.toNatClampNeg) :: st) ((T, c, s), I, L)) := mWP_eq mt_L_law _ _ _ _ _
set_option maxRecDepth 100000 in
theorem e_L_law_933 {Q : mQo} {T : List mSh} {c s : Nat} {I : Nat → Nat → Int32} {L : Nat → Nat → Int64} {st : List Value} {a0 a1 a2 a3 : Option Value} {v0 : Int32} {v1 : Int32} {v2 : Int32} {o : Nat} : mWP tb_L_law Q 933 [a0, a1, a2, a3] (.int v2 :: .int v1 :: .int v0 :: .ref o :: st) ((T, c, s), I, L) = (mTg (T, c, s) o = 14 ∧ (st.map Value.category).sum ≤ 8 ∧ C_X11_holds [.ref o, .int v0, .int v1, .int v2] (mZr (T, c, s), I, L) (fun r h' => h'.1 = mZr (T, c, s) ∧ mWP tb_L_law Q 936 [a0, a1, a2, a3] (r.toList ++ st) ((T, c, s), h'.2))) := (mWP_eq mt_L_law _ _ _ _ _).trans (eq_CV (Q := Q) 3 rfl)
set_option maxRecDepth 100000 in
theorem e_L_law_936 {Q : mQo} {T : List mSh} {c s : Nat} {I : Nat → Nat → Int32} {L : Nat → Nat → Int64} {st : List Value} {a0 a1 a2 a3 : Option Value} {x y : Int64} : mWP tb_L_law Q 936 [a0, a1, a2, a3] (.long y :: .long x :: st) ((T, c, s), I, L) = mWP tb_L_law Q 937 [a0, a1, a2, a3] (.int (lg_cmp x y) :: st) ((T, c, s), I, L) := mWP_eq mt_L_law _ _ _ _ _
set_option maxRecDepth 100000 in
theorem e_L_law_937 {Q : mQo} {T : List mSh} {c s : Nat} {I : Nat → Nat → Int32} {L : Nat → Nat → Int64} {st : List Value} {a0 a1 a2 a3 : Option Value} {x : Int32} : mWP tb_L_law Q 937 [a0, a1, a2, a3] (.int x :: st) ((T, c, s), I, L) = ((x = 0 → mWP tb_L_law Q 1460 [a0, a1, a2, a3] st ((T, c, s), I, L)) ∧ (¬ (x = 0) → mWP tb_L_law Q 940 [a0, a1, a2, a3] st ((T, c, s), I, L))) := mWP_eq mt_L_law _ _ _ _ _
set_option maxRecDepth 100000 in
theorem e_L_law_940 {Q : mQo} {T : List mSh} {c s : Nat} {I : Nat → Nat → Int32} {L : Nat → Nat → Int64} {st : List Value} {a0 a1 a2 a3 : Option Value} : mWP tb_L_law Q 940 [a0, a1, a2, a3] st ((T, c, s), I, L) = mWP tb_L_law Q 941 [a0, a1, a2, a3] (.int 0 :: st) ((T, c, s), I, L) := mWP_eq mt_L_law _ _ _ _ _
set_option maxRecDepth 100000 in
theorem e_L_law_941 {Q : mQo} {T : List mSh} {c s : Nat} {I : Nat → Nat → Int32} {L : Nat → Nat → Int64} {a0 a1 a2 a3 : Option Value} {x : Int32} : mWP tb_L_law Q 941 [a0, a1, a2, a3] [.int x] ((T, c, s), I, L) = ((x = 0 ∨ x = 1) ∧ Q (some (.int x)) ((T, c, s), I, L)) := mWP_eq mt_L_law _ _ _ _ _
set_option maxRecDepth 100000 in
theorem e_L_law_942 {Q : mQo} {T : List mSh} {c s : Nat} {I : Nat → Nat → Int32} {L : Nat → Nat → Int64} {st : List Value} {a0 a2 a3 : Option Value} {x : Nat} : mWP tb_L_law Q 942 [a0, some (.ref x), a2, a3] st ((T, c, s), I, L) = mWP tb_L_law Q 943 [a0, some (.ref x), a2, a3] (.ref x :: st) ((T, c, s), I, L) := mWP_eq mt_L_law _ _ _ _ _
set_option maxRecDepth 100000 in
theorem e_L_law_942n {Q : mQo} {T : List mSh} {c s : Nat} {I : Nat → Nat → Int32} {L : Nat → Nat → Int64} {st : List Value} {a0 a2 a3 : Option Value} : mWP tb_L_law Q 942 [a0, some .null, a2, a3] st ((T, c, s), I, L) = mWP tb_L_law Q 943 [a0, some .null, a2, a3] (.null :: st) ((T, c, s), I, L) := mWP_eq mt_L_law _ _ _ _ _
set_option maxRecDepth 100000 in
theorem e_L_law_943 {Q : mQo} {T : List mSh} {c s : Nat} {I : Nat → Nat → Int32} {L : Nat → Nat → Int64} {st : List Value} {a1 a2 a3 : Option Value} {x : Nat} : mWP tb_L_law Q 943 [some (.ref x), a1, a2, a3] st ((T, c, s), I, L) = mWP tb_L_law Q 944 [some (.ref x), a1, a2, a3] (.ref x :: st) ((T, c, s), I, L) := mWP_eq mt_L_law _ _ _ _ _
set_option maxRecDepth 100000 in
theorem e_L_law_943n {Q : mQo} {T : List mSh} {c s : Nat} {I : Nat → Nat → Int32} {L : Nat → Nat → Int64} {st : List Value} {a1 a2 a3 : Option Value} : mWP tb_L_law Q 943 [some .null, a1, a2, a3] st ((T, c, s), I, L) = mWP tb_L_law Q 944 [some .null, a1, a2, a3] (.null :: st) ((T, c, s), I, L) := mWP_eq mt_L_law _ _ _ _ _
set_option maxRecDepth 100000 in
theorem e_L_law_944 {Q : mQo} {T : List mSh} {c s : Nat} {I : Nat → Nat → Int32} {L : Nat → Nat → Int64} {st : List Value} {a0 a1 a2 : Option Value} {x : Int32} : mWP tb_L_law Q 944 [a0, a1, a2, some (.int x)] st ((T, c, s), I, L) = mWP tb_L_law Q 945 [a0, a1, a2, some (.int x)] (.int x :: st) ((T, c, s), I, L) := mWP_eq mt_L_law _ _ _ _ _
set_option maxRecDepth 100000 in
theorem e_L_law_945 {Q : mQo} {T : List mSh} {c s : Nat} {I : Nat → Nat → Int32} {L : Nat → Nat → Int64} {st : List Value} {a0 a1 a2 a3 : Option Value} : mWP tb_L_law Q 945 [a0, a1, a2, a3] st ((T, c, s), I, L) = mWP tb_L_law Q 946 [a0, a1, a2, a3] (.int 1 :: st) ((T, c, s), I, L) := mWP_eq mt_L_law _ _ _ _ _
set_option maxRecDepth 100000 in
theorem e_L_law_946 {Q : mQo} {T : List mSh} {c s : Nat} {I : Nat → Nat → Int32} {L : Nat → Nat → Int64} {st : List Value} {a0 a1 a2 a3 : Option Value} {x y : Int32} : mWP tb_L_law Q 946 [a0, a1, a2, a3] (.int y :: .int x :: st) ((T, c, s), I, L) = mWP tb_L_law Q 947 [a0, a1, a2, a3] (.int (x + y) :: st) ((T, c, s), I, L) := mWP_eq mt_L_law _ _ _ _ _
set_option maxRecDepth 100000 in
theorem e_L_law_947 {Q : mQo} {T : List mSh} {c s : Nat} {I : Nat → Nat → Int32} {L : Nat → Nat → Int64} {st : List Value} {a0 a1 a2 a3 : Option Value} {x : Nat} {y : Int32} : mWP tb_L_law Q 947 [a0, a1, a2, a3] (.int y :: .ref x :: st) ((T, c, s), I, L) = (mTg (T, c, s) x = 0 ∧ vp_in y (mLn (T, c, s) x) ∧ mWP tb_L_law Q 948 [a0, a1, a2, a3] (.int (I x y.toNatClampNeg) :: st) ((T, c, s), I, L)) := mWP_eq mt_L_law _ _ _ _ _
set_option maxRecDepth 100000 in
theorem e_L_law_948 {Q : mQo} {T : List mSh} {c s : Nat} {I : Nat → Nat → Int32} {L : Nat → Nat → Int64} {st : List Value} {a1 a2 a3 : Option Value} {x : Nat} : mWP tb_L_law Q 948 [some (.ref x), a1, a2, a3] st ((T, c, s), I, L) = mWP tb_L_law Q 949 [some (.ref x), a1, a2, a3] (.ref x :: st) ((T, c, s), I, L) := mWP_eq mt_L_law _ _ _ _ _
set_option maxRecDepth 100000 in
theorem e_L_law_948n {Q : mQo} {T : List mSh} {c s : Nat} {I : Nat → Nat → Int32} {L : Nat → Nat → Int64} {st : List Value} {a1 a2 a3 : Option Value} : mWP tb_L_law Q 948 [some .null, a1, a2, a3] st ((T, c, s), I, L) = mWP tb_L_law Q 949 [some .null, a1, a2, a3] (.null :: st) ((T, c, s), I, L) := mWP_eq mt_L_law _ _ _ _ _
set_option maxRecDepth 100000 in
theorem e_L_law_949 {Q : mQo} {T : List mSh} {c s : Nat} {I : Nat → Nat → Int32} {L : Nat → Nat → Int64} {st : List Value} {a0 a1 a2 : Option Value} {x : Int32} : mWP tb_L_law Q 949 [a0, a1, a2, some (.int x)] st ((T, c, s), I, L) = mWP tb_L_law Q 950 [a0, a1, a2, some (.int x)] (.int x :: st) ((T, c, s), I, L) := mWP_eq mt_L_law _ _ _ _ _
set_option maxRecDepth 100000 in
theorem e_L_law_950 {Q : mQo} {T : List mSh} {c s : Nat} {I : Nat → Nat → Int32} {L : Nat → Nat → Int64} {st : List Value} {a0 a1 a2 a3 : Option Value} : mWP tb_L_law Q 950 [a0, a1, a2, a3] st ((T, c, s), I, L) = mWP tb_L_law Q 951 [a0, a1, a2, a3] (.int 2 :: st) ((T, c, s), I, L) := mWP_eq mt_L_law _ _ _ _ _
set_option maxRecDepth 100000 in
theorem e_L_law_951 {Q : mQo} {T : List mSh} {c s : Nat} {I : Nat → Nat → Int32} {L : Nat → Nat → Int64} {st : List Value} {a0 a1 a2 a3 : Option Value} {x y : Int32} : mWP tb_L_law Q 951 [a0, a1, a2, a3] (.int y :: .int x :: st) ((T, c, s), I, L) = mWP tb_L_law Q 952 [a0, a1, a2, a3] (.int (x + y) :: st) ((T, c, s), I, L) := mWP_eq mt_L_law _ _ _ _ _
set_option maxRecDepth 100000 in
theorem e_L_law_952 {Q : mQo} {T : List mSh} {c s : Nat} {I : Nat → Nat → Int32} {L : Nat → Nat → Int64} {st : List Value} {a0 a1 a2 a3 : Option Value} {x : Nat} {y : Int32} : mWP tb_L_law Q 952 [a0, a1, a2, a3] (.int y :: .ref x :: st) ((T, c, s), I, L) = (mTg (T, c, s) x = 0 ∧ vp_in y (mLn (T, c, s) x) ∧ mWP tb_L_law Q 953 [a0, a1, a2, a3] (.int (I x y.toNatClampNeg) :: st) ((T, c, s), I, L)) := mWP_eq mt_L_law _ _ _ _ _
set_option maxRecDepth 100000 in
theorem e_L_law_953 {Q : mQo} {T : List mSh} {c s : Nat} {I : Nat → Nat → Int32} {L : Nat → Nat → Int64} {st : List Value} {a1 a2 a3 : Option Value} {x : Nat} : mWP tb_L_law Q 953 [some (.ref x), a1, a2, a3] st ((T, c, s), I, L) = mWP tb_L_law Q 954 [some (.ref x), a1, a2, a3] (.ref x :: st) ((T, c, s), I, L) := mWP_eq mt_L_law _ _ _ _ _
set_option maxRecDepth 100000 in
theorem e_L_law_953n {Q : mQo} {T : List mSh} {c s : Nat} {I : Nat → Nat → Int32} {L : Nat → Nat → Int64} {st : List Value} {a1 a2 a3 : Option Value} : mWP tb_L_law Q 953 [some .null, a1, a2, a3] st ((T, c, s), I, L) = mWP tb_L_law Q 954 [some .null, a1, a2, a3] (.null :: st) ((T, c, s), I, L) := mWP_eq mt_L_law _ _ _ _ _
set_option maxRecDepth 100000 in
theorem e_L_law_954 {Q : mQo} {T : List mSh} {c s : Nat} {I : Nat → Nat → Int32} {L : Nat → Nat → Int64} {st : List Value} {a0 a1 a2 : Option Value} {x : Int32} : mWP tb_L_law Q 954 [a0, a1, a2, some (.int x)] st ((T, c, s), I, L) = mWP tb_L_law Q 955 [a0, a1, a2, some (.int x)] (.int x :: st) ((T, c, s), I, L) := mWP_eq mt_L_law _ _ _ _ _
set_option maxRecDepth 100000 in
theorem e_L_law_955 {Q : mQo} {T : List mSh} {c s : Nat} {I : Nat → Nat → Int32} {L : Nat → Nat → Int64} {st : List Value} {a0 a1 a2 a3 : Option Value} : mWP tb_L_law Q 955 [a0, a1, a2, a3] st ((T, c, s), I, L) = mWP tb_L_law Q 956 [a0, a1, a2, a3] (.int 3 :: st) ((T, c, s), I, L) := mWP_eq mt_L_law _ _ _ _ _
set_option maxRecDepth 100000 in
theorem e_L_law_956 {Q : mQo} {T : List mSh} {c s : Nat} {I : Nat → Nat → Int32} {L : Nat → Nat → Int64} {st : List Value} {a0 a1 a2 a3 : Option Value} {x y : Int32} : mWP tb_L_law Q 956 [a0, a1, a2, a3] (.int y :: .int x :: st) ((T, c, s), I, L) = mWP tb_L_law Q 957 [a0, a1, a2, a3] (.int (x + y) :: st) ((T, c, s), I, L) := mWP_eq mt_L_law _ _ _ _ _
set_option maxRecDepth 100000 in
theorem e_L_law_957 {Q : mQo} {T : List mSh} {c s : Nat} {I : Nat → Nat → Int32} {L : Nat → Nat → Int64} {st : List Value} {a0 a1 a2 a3 : Option Value} {x : Nat} {y : Int32} : mWP tb_L_law Q 957 [a0, a1, a2, a3] (.int y :: .ref x :: st) ((T, c, s), I, L) = (mTg (T, c, s) x = 0 ∧ vp_in y (mLn (T, c, s) x) ∧ mWP tb_L_law Q 958 [a0, a1, a2, a3] (.int (I x y.toNatClampNeg) :: st) ((T, c, s), I, L)) := mWP_eq mt_L_law _ _ _ _ _
set_option maxRecDepth 100000 in
theorem e_L_law_958 {Q : mQo} {T : List mSh} {c s : Nat} {I : Nat → Nat → Int32} {L : Nat → Nat → Int64} {st : List Value} {a0 a1 a2 a3 : Option Value} {v0 : Int32} {v1 : Int32} {v2 : Int32} {o : Nat} : mWP tb_L_law Q 958 [a0, a1, a2, a3] (.int v2 :: .int v1 :: .int v0 :: .ref o :: st) ((T, c, s), I, L) = (mTg (T, c, s) o = 13 ∧ (st.map Value.category).sum ≤ 8 ∧ C_X10_isOf [.ref o, .int v0, .int v1, .int v2] (mZr (T, c, s), I, L) (fun r h' => h'.1 = mZr (T, c, s) ∧ mWP tb_L_law Q 961 [a0, a1, a2, a3] (r.toList ++ st) ((T, c, s), h'.2))) := (mWP_eq mt_L_law _ _ _ _ _).trans (eq_CV (Q := Q) 3 rfl)
set_option maxRecDepth 100000 in
theorem e_L_law_961 {Q : mQo} {T : List mSh} {c s : Nat} {I : Nat → Nat → Int32} {L : Nat → Nat → Int64} {st : List Value} {a0 a1 a3 : Option Value} {x : Nat} : mWP tb_L_law Q 961 [a0, a1, some (.ref x), a3] st ((T, c, s), I, L) = mWP tb_L_law Q 962 [a0, a1, some (.ref x), a3] (.ref x :: st) ((T, c, s), I, L) := mWP_eq mt_L_law _ _ _ _ _
set_option maxRecDepth 100000 in
theorem e_L_law_961n {Q : mQo} {T : List mSh} {c s : Nat} {I : Nat → Nat → Int32} {L : Nat → Nat → Int64} {st : List Value} {a0 a1 a3 : Option Value} : mWP tb_L_law Q 961 [a0, a1, some .null, a3] st ((T, c, s), I, L) = mWP tb_L_law Q 962 [a0, a1, some .null, a3] (.null :: st) ((T, c, s), I, L) := mWP_eq mt_L_law _ _ _ _ _
set_option maxRecDepth 100000 in
theorem e_L_law_962 {Q : mQo} {T : List mSh} {c s : Nat} {I : Nat → Nat → Int32} {L : Nat → Nat → Int64} {st : List Value} {a1 a2 a3 : Option Value} {x : Nat} : mWP tb_L_law Q 962 [some (.ref x), a1, a2, a3] st ((T, c, s), I, L) = mWP tb_L_law Q 963 [some (.ref x), a1, a2, a3] (.ref x :: st) ((T, c, s), I, L) := mWP_eq mt_L_law _ _ _ _ _
set_option maxRecDepth 100000 in
theorem e_L_law_962n {Q : mQo} {T : List mSh} {c s : Nat} {I : Nat → Nat → Int32} {L : Nat → Nat → Int64} {st : List Value} {a1 a2 a3 : Option Value} : mWP tb_L_law Q 962 [some .null, a1, a2, a3] st ((T, c, s), I, L) = mWP tb_L_law Q 963 [some .null, a1, a2, a3] (.null :: st) ((T, c, s), I, L) := mWP_eq mt_L_law _ _ _ _ _
set_option maxRecDepth 100000 in
theorem e_L_law_963 {Q : mQo} {T : List mSh} {c s : Nat} {I : Nat → Nat → Int32} {L : Nat → Nat → Int64} {st : List Value} {a0 a1 a2 : Option Value} {x : Int32} : mWP tb_L_law Q 963 [a0, a1, a2, some (.int x)] st ((T, c, s), I, L) = mWP tb_L_law Q 964 [a0, a1, a2, some (.int x)] (.int x :: st) ((T, c, s), I, L) := mWP_eq mt_L_law _ _ _ _ _
set_option maxRecDepth 100000 in
theorem e_L_law_964 {Q : mQo} {T : List mSh} {c s : Nat} {I : Nat → Nat → Int32} {L : Nat → Nat → Int64} {st : List Value} {a0 a1 a2 a3 : Option Value} : mWP tb_L_law Q 964 [a0, a1, a2, a3] st ((T, c, s), I, L) = mWP tb_L_law Q 965 [a0, a1, a2, a3] (.int 1 :: st) ((T, c, s), I, L) := mWP_eq mt_L_law _ _ _ _ _
set_option maxRecDepth 100000 in
theorem e_L_law_965 {Q : mQo} {T : List mSh} {c s : Nat} {I : Nat → Nat → Int32} {L : Nat → Nat → Int64} {st : List Value} {a0 a1 a2 a3 : Option Value} {x y : Int32} : mWP tb_L_law Q 965 [a0, a1, a2, a3] (.int y :: .int x :: st) ((T, c, s), I, L) = mWP tb_L_law Q 966 [a0, a1, a2, a3] (.int (x + y) :: st) ((T, c, s), I, L) := mWP_eq mt_L_law _ _ _ _ _
set_option maxRecDepth 100000 in
theorem e_L_law_966 {Q : mQo} {T : List mSh} {c s : Nat} {I : Nat → Nat → Int32} {L : Nat → Nat → Int64} {st : List Value} {a0 a1 a2 a3 : Option Value} {x : Nat} {y : Int32} : mWP tb_L_law Q 966 [a0, a1, a2, a3] (.int y :: .ref x :: st) ((T, c, s), I, L) = (mTg (T, c, s) x = 0 ∧ vp_in y (mLn (T, c, s) x) ∧ mWP tb_L_law Q 967 [a0, a1, a2, a3] (.int (I x y.toNatClampNeg) :: st) ((T, c, s), I, L)) := mWP_eq mt_L_law _ _ _ _ _
set_option maxRecDepth 100000 in
theorem e_L_law_967 {Q : mQo} {T : List mSh} {c s : Nat} {I : Nat → Nat → Int32} {L : Nat → Nat → Int64} {st : List Value} {a1 a2 a3 : Option Value} {x : Nat} : mWP tb_L_law Q 967 [some (.ref x), a1, a2, a3] st ((T, c, s), I, L) = mWP tb_L_law Q 968 [some (.ref x), a1, a2, a3] (.ref x :: st) ((T, c, s), I, L) := mWP_eq mt_L_law _ _ _ _ _
set_option maxRecDepth 100000 in
theorem e_L_law_967n {Q : mQo} {T : List mSh} {c s : Nat} {I : Nat → Nat → Int32} {L : Nat → Nat → Int64} {st : List Value} {a1 a2 a3 : Option Value} : mWP tb_L_law Q 967 [some .null, a1, a2, a3] st ((T, c, s), I, L) = mWP tb_L_law Q 968 [some .null, a1, a2, a3] (.null :: st) ((T, c, s), I, L) := mWP_eq mt_L_law _ _ _ _ _
set_option maxRecDepth 100000 in
theorem e_L_law_968 {Q : mQo} {T : List mSh} {c s : Nat} {I : Nat → Nat → Int32} {L : Nat → Nat → Int64} {st : List Value} {a0 a1 a2 : Option Value} {x : Int32} : mWP tb_L_law Q 968 [a0, a1, a2, some (.int x)] st ((T, c, s), I, L) = mWP tb_L_law Q 969 [a0, a1, a2, some (.int x)] (.int x :: st) ((T, c, s), I, L) := mWP_eq mt_L_law _ _ _ _ _
set_option maxRecDepth 100000 in
theorem e_L_law_969 {Q : mQo} {T : List mSh} {c s : Nat} {I : Nat → Nat → Int32} {L : Nat → Nat → Int64} {st : List Value} {a0 a1 a2 a3 : Option Value} : mWP tb_L_law Q 969 [a0, a1, a2, a3] st ((T, c, s), I, L) = mWP tb_L_law Q 970 [a0, a1, a2, a3] (.int 2 :: st) ((T, c, s), I, L) := mWP_eq mt_L_law _ _ _ _ _
set_option maxRecDepth 100000 in
theorem e_L_law_970 {Q : mQo} {T : List mSh} {c s : Nat} {I : Nat → Nat → Int32} {L : Nat → Nat → Int64} {st : List Value} {a0 a1 a2 a3 : Option Value} {x y : Int32} : mWP tb_L_law Q 970 [a0, a1, a2, a3] (.int y :: .int x :: st) ((T, c, s), I, L) = mWP tb_L_law Q 971 [a0, a1, a2, a3] (.int (x + y) :: st) ((T, c, s), I, L) := mWP_eq mt_L_law _ _ _ _ _
set_option maxRecDepth 100000 in
theorem e_L_law_971 {Q : mQo} {T : List mSh} {c s : Nat} {I : Nat → Nat → Int32} {L : Nat → Nat → Int64} {st : List Value} {a0 a1 a2 a3 : Option Value} {x : Nat} {y : Int32} : mWP tb_L_law Q 971 [a0, a1, a2, a3] (.int y :: .ref x :: st) ((T, c, s), I, L) = (mTg (T, c, s) x = 0 ∧ vp_in y (mLn (T, c, s) x) ∧ mWP tb_L_law Q 972 [a0, a1, a2, a3] (.int (I x y.toNatClampNeg) :: st) ((T, c, s), I, L)) := mWP_eq mt_L_law _ _ _ _ _
set_option maxRecDepth 100000 in
theorem e_L_law_972 {Q : mQo} {T : List mSh} {c s : Nat} {I : Nat → Nat → Int32} {L : Nat → Nat → Int64} {st : List Value} {a1 a2 a3 : Option Value} {x : Nat} : mWP tb_L_law Q 972 [some (.ref x), a1, a2, a3] st ((T, c, s), I, L) = mWP tb_L_law Q 973 [some (.ref x), a1, a2, a3] (.ref x :: st) ((T, c, s), I, L) := mWP_eq mt_L_law _ _ _ _ _
set_option maxRecDepth 100000 in
theorem e_L_law_972n {Q : mQo} {T : List mSh} {c s : Nat} {I : Nat → Nat → Int32} {L : Nat → Nat → Int64} {st : List Value} {a1 a2 a3 : Option Value} : mWP tb_L_law Q 972 [some .null, a1, a2, a3] st ((T, c, s), I, L) = mWP tb_L_law Q 973 [some .null, a1, a2, a3] (.null :: st) ((T, c, s), I, L) := mWP_eq mt_L_law _ _ _ _ _
set_option maxRecDepth 100000 in
theorem e_L_law_973 {Q : mQo} {T : List mSh} {c s : Nat} {I : Nat → Nat → Int32} {L : Nat → Nat → Int64} {st : List Value} {a0 a1 a2 : Option Value} {x : Int32} : mWP tb_L_law Q 973 [a0, a1, a2, some (.int x)] st ((T, c, s), I, L) = mWP tb_L_law Q 974 [a0, a1, a2, some (.int x)] (.int x :: st) ((T, c, s), I, L) := mWP_eq mt_L_law _ _ _ _ _
set_option maxRecDepth 100000 in
theorem e_L_law_974 {Q : mQo} {T : List mSh} {c s : Nat} {I : Nat → Nat → Int32} {L : Nat → Nat → Int64} {st : List Value} {a0 a1 a2 a3 : Option Value} : mWP tb_L_law Q 974 [a0, a1, a2, a3] st ((T, c, s), I, L) = mWP tb_L_law Q 975 [a0, a1, a2, a3] (.int 3 :: st) ((T, c, s), I, L) := mWP_eq mt_L_law _ _ _ _ _
set_option maxRecDepth 100000 in
theorem e_L_law_975 {Q : mQo} {T : List mSh} {c s : Nat} {I : Nat → Nat → Int32} {L : Nat → Nat → Int64} {st : List Value} {a0 a1 a2 a3 : Option Value} {x y : Int32} : mWP tb_L_law Q 975 [a0, a1, a2, a3] (.int y :: .int x :: st) ((T, c, s), I, L) = mWP tb_L_law Q 976 [a0, a1, a2, a3] (.int (x + y) :: st) ((T, c, s), I, L) := mWP_eq mt_L_law _ _ _ _ _
set_option maxRecDepth 100000 in
theorem e_L_law_976 {Q : mQo} {T : List mSh} {c s : Nat} {I : Nat → Nat → Int32} {L : Nat → Nat → Int64} {st : List Value} {a0 a1 a2 a3 : Option Value} {x : Nat} {y : Int32} : mWP tb_L_law Q 976 [a0, a1, a2, a3] (.int y :: .ref x :: st) ((T, c, s), I, L) = (mTg (T, c, s) x = 0 ∧ vp_in y (mLn (T, c, s) x) ∧ mWP tb_L_law Q 977 [a0, a1, a2, a3] (.int (I x y.toNatClampNeg) :: st) ((T, c, s), I, L)) := mWP_eq mt_L_law _ _ _ _ _
set_option maxRecDepth 100000 in
theorem e_L_law_977 {Q : mQo} {T : List mSh} {c s : Nat} {I : Nat → Nat → Int32} {L : Nat → Nat → Int64} {st : List Value} {a0 a1 a2 a3 : Option Value} {v0 : Int32} {v1 : Int32} {v2 : Int32} {o : Nat} : mWP tb_L_law Q 977 [a0, a1, a2, a3] (.int v2 :: .int v1 :: .int v0 :: .ref o :: st) ((T, c, s), I, L) = (mTg (T, c, s) o = 14 ∧ (st.map Value.category).sum ≤ 8 ∧ C_X11_isOf [.ref o, .int v0, .int v1, .int v2] (mZr (T, c, s), I, L) (fun r h' => h'.1 = mZr (T, c, s) ∧ mWP tb_L_law Q 980 [a0, a1, a2, a3] (r.toList ++ st) ((T, c, s), h'.2))) := (mWP_eq mt_L_law _ _ _ _ _).trans (eq_CV (Q := Q) 3 rfl)
set_option maxRecDepth 100000 in
theorem e_L_law_980 {Q : mQo} {T : List mSh} {c s : Nat} {I : Nat → Nat → Int32} {L : Nat → Nat → Int64} {st : List Value} {a0 a1 a2 a3 : Option Value} {x y : Int64} : mWP tb_L_law Q 980 [a0, a1, a2, a3] (.long y :: .long x :: st) ((T, c, s), I, L) = mWP tb_L_law Q 981 [a0, a1, a2, a3] (.int (lg_cmp x y) :: st) ((T, c, s), I, L) := mWP_eq mt_L_law _ _ _ _ _
set_option maxRecDepth 100000 in
theorem e_L_law_981 {Q : mQo} {T : List mSh} {c s : Nat} {I : Nat → Nat → Int32} {L : Nat → Nat → Int64} {st : List Value} {a0 a1 a2 a3 : Option Value} {x : Int32} : mWP tb_L_law Q 981 [a0, a1, a2, a3] (.int x :: st) ((T, c, s), I, L) = ((x = 0 → mWP tb_L_law Q 1460 [a0, a1, a2, a3] st ((T, c, s), I, L)) ∧ (¬ (x = 0) → mWP tb_L_law Q 984 [a0, a1, a2, a3] st ((T, c, s), I, L))) := mWP_eq mt_L_law _ _ _ _ _
set_option maxRecDepth 100000 in
theorem e_L_law_984 {Q : mQo} {T : List mSh} {c s : Nat} {I : Nat → Nat → Int32} {L : Nat → Nat → Int64} {st : List Value} {a0 a1 a2 a3 : Option Value} : mWP tb_L_law Q 984 [a0, a1, a2, a3] st ((T, c, s), I, L) = mWP tb_L_law Q 985 [a0, a1, a2, a3] (.int 0 :: st) ((T, c, s), I, L) := mWP_eq mt_L_law _ _ _ _ _
set_option maxRecDepth 100000 in
theorem e_L_law_985 {Q : mQo} {T : List mSh} {c s : Nat} {I : Nat → Nat → Int32} {L : Nat → Nat → Int64} {a0 a1 a2 a3 : Option Value} {x : Int32} : mWP tb_L_law Q 985 [a0, a1, a2, a3] [.int x] ((T, c, s), I, L) = ((x = 0 ∨ x = 1) ∧ Q (some (.int x)) ((T, c, s), I, L)) := mWP_eq mt_L_law _ _ _ _ _
set_option maxRecDepth 100000 in
theorem e_L_law_986 {Q : mQo} {T : List mSh} {c s : Nat} {I : Nat → Nat → Int32} {L : Nat → Nat → Int64} {st : List Value} {a0 a2 a3 : Option Value} {x : Nat} : mWP tb_L_law Q 986 [a0, some (.ref x), a2, a3] st ((T, c, s), I, L) = mWP tb_L_law Q 987 [a0, some (.ref x), a2, a3] (.ref x :: st) ((T, c, s), I, L) := mWP_eq mt_L_law _ _ _ _ _
set_option maxRecDepth 100000 in
theorem e_L_law_986n {Q : mQo} {T : List mSh} {c s : Nat} {I : Nat → Nat → Int32} {L : Nat → Nat → Int64} {st : List Value} {a0 a2 a3 : Option Value} : mWP tb_L_law Q 986 [a0, some .null, a2, a3] st ((T, c, s), I, L) = mWP tb_L_law Q 987 [a0, some .null, a2, a3] (.null :: st) ((T, c, s), I, L) := mWP_eq mt_L_law _ _ _ _ _
set_option maxRecDepth 100000 in
theorem e_L_law_987 {Q : mQo} {T : List mSh} {c s : Nat} {I : Nat → Nat → Int32} {L : Nat → Nat → Int64} {st : List Value} {a1 a2 a3 : Option Value} {x : Nat} : mWP tb_L_law Q 987 [some (.ref x), a1, a2, a3] st ((T, c, s), I, L) = mWP tb_L_law Q 988 [some (.ref x), a1, a2, a3] (.ref x :: st) ((T, c, s), I, L) := mWP_eq mt_L_law _ _ _ _ _
set_option maxRecDepth 100000 in
theorem e_L_law_987n {Q : mQo} {T : List mSh} {c s : Nat} {I : Nat → Nat → Int32} {L : Nat → Nat → Int64} {st : List Value} {a1 a2 a3 : Option Value} : mWP tb_L_law Q 987 [some .null, a1, a2, a3] st ((T, c, s), I, L) = mWP tb_L_law Q 988 [some .null, a1, a2, a3] (.null :: st) ((T, c, s), I, L) := mWP_eq mt_L_law _ _ _ _ _
set_option maxRecDepth 100000 in
theorem e_L_law_988 {Q : mQo} {T : List mSh} {c s : Nat} {I : Nat → Nat → Int32} {L : Nat → Nat → Int64} {st : List Value} {a0 a1 a2 : Option Value} {x : Int32} : mWP tb_L_law Q 988 [a0, a1, a2, some (.int x)] st ((T, c, s), I, L) = mWP tb_L_law Q 989 [a0, a1, a2, some (.int x)] (.int x :: st) ((T, c, s), I, L) := mWP_eq mt_L_law _ _ _ _ _
set_option maxRecDepth 100000 in
theorem e_L_law_989 {Q : mQo} {T : List mSh} {c s : Nat} {I : Nat → Nat → Int32} {L : Nat → Nat → Int64} {st : List Value} {a0 a1 a2 a3 : Option Value} : mWP tb_L_law Q 989 [a0, a1, a2, a3] st ((T, c, s), I, L) = mWP tb_L_law Q 990 [a0, a1, a2, a3] (.int 1 :: st) ((T, c, s), I, L) := mWP_eq mt_L_law _ _ _ _ _
set_option maxRecDepth 100000 in
theorem e_L_law_990 {Q : mQo} {T : List mSh} {c s : Nat} {I : Nat → Nat → Int32} {L : Nat → Nat → Int64} {st : List Value} {a0 a1 a2 a3 : Option Value} {x y : Int32} : mWP tb_L_law Q 990 [a0, a1, a2, a3] (.int y :: .int x :: st) ((T, c, s), I, L) = mWP tb_L_law Q 991 [a0, a1, a2, a3] (.int (x + y) :: st) ((T, c, s), I, L) := mWP_eq mt_L_law _ _ _ _ _
set_option maxRecDepth 100000 in
theorem e_L_law_991 {Q : mQo} {T : List mSh} {c s : Nat} {I : Nat → Nat → Int32} {L : Nat → Nat → Int64} {st : List Value} {a0 a1 a2 a3 : Option Value} {x : Nat} {y : Int32} : mWP tb_L_law Q 991 [a0, a1, a2, a3] (.int y :: .ref x :: st) ((T, c, s), I, L) = (mTg (T, c, s) x = 0 ∧ vp_in y (mLn (T, c, s) x) ∧ mWP tb_L_law Q 992 [a0, a1, a2, a3] (.int (I x y.toNatClampNeg) :: st) ((T, c, s), I, L)) := mWP_eq mt_L_law _ _ _ _ _
set_option maxRecDepth 100000 in
theorem e_L_law_992 {Q : mQo} {T : List mSh} {c s : Nat} {I : Nat → Nat → Int32} {L : Nat → Nat → Int64} {st : List Value} {a1 a2 a3 : Option Value} {x : Nat} : mWP tb_L_law Q 992 [some (.ref x), a1, a2, a3] st ((T, c, s), I, L) = mWP tb_L_law Q 993 [some (.ref x), a1, a2, a3] (.ref x :: st) ((T, c, s), I, L) := mWP_eq mt_L_law _ _ _ _ _
set_option maxRecDepth 100000 in
theorem e_L_law_992n {Q : mQo} {T : List mSh} {c s : Nat} {I : Nat → Nat → Int32} {L : Nat → Nat → Int64} {st : List Value} {a1 a2 a3 : Option Value} : mWP tb_L_law Q 992 [some .null, a1, a2, a3] st ((T, c, s), I, L) = mWP tb_L_law Q 993 [some .null, a1, a2, a3] (.null :: st) ((T, c, s), I, L) := mWP_eq mt_L_law _ _ _ _ _
set_option maxRecDepth 100000 in
theorem e_L_law_993 {Q : mQo} {T : List mSh} {c s : Nat} {I : Nat → Nat → Int32} {L : Nat → Nat → Int64} {st : List Value} {a0 a1 a2 : Option Value} {x : Int32} : mWP tb_L_law Q 993 [a0, a1, a2, some (.int x)] st ((T, c, s), I, L) = mWP tb_L_law Q 994 [a0, a1, a2, some (.int x)] (.int x :: st) ((T, c, s), I, L) := mWP_eq mt_L_law _ _ _ _ _
set_option maxRecDepth 100000 in
theorem e_L_law_994 {Q : mQo} {T : List mSh} {c s : Nat} {I : Nat → Nat → Int32} {L : Nat → Nat → Int64} {st : List Value} {a0 a1 a2 a3 : Option Value} : mWP tb_L_law Q 994 [a0, a1, a2, a3] st ((T, c, s), I, L) = mWP tb_L_law Q 995 [a0, a1, a2, a3] (.int 2 :: st) ((T, c, s), I, L) := mWP_eq mt_L_law _ _ _ _ _
set_option maxRecDepth 100000 in
theorem e_L_law_995 {Q : mQo} {T : List mSh} {c s : Nat} {I : Nat → Nat → Int32} {L : Nat → Nat → Int64} {st : List Value} {a0 a1 a2 a3 : Option Value} {x y : Int32} : mWP tb_L_law Q 995 [a0, a1, a2, a3] (.int y :: .int x :: st) ((T, c, s), I, L) = mWP tb_L_law Q 996 [a0, a1, a2, a3] (.int (x + y) :: st) ((T, c, s), I, L) := mWP_eq mt_L_law _ _ _ _ _
set_option maxRecDepth 100000 in
theorem e_L_law_996 {Q : mQo} {T : List mSh} {c s : Nat} {I : Nat → Nat → Int32} {L : Nat → Nat → Int64} {st : List Value} {a0 a1 a2 a3 : Option Value} {x : Nat} {y : Int32} : mWP tb_L_law Q 996 [a0, a1, a2, a3] (.int y :: .ref x :: st) ((T, c, s), I, L) = (mTg (T, c, s) x = 0 ∧ vp_in y (mLn (T, c, s) x) ∧ mWP tb_L_law Q 997 [a0, a1, a2, a3] (.int (I x y.toNatClampNeg) :: st) ((T, c, s), I, L)) := mWP_eq mt_L_law _ _ _ _ _
set_option maxRecDepth 100000 in
theorem e_L_law_997 {Q : mQo} {T : List mSh} {c s : Nat} {I : Nat → Nat → Int32} {L : Nat → Nat → Int64} {st : List Value} {a0 a1 a2 a3 : Option Value} {v0 : Int32} {v1 : Int32} {o : Nat} : mWP tb_L_law Q 997 [a0, a1, a2, a3] (.int v1 :: .int v0 :: .ref o :: st) ((T, c, s), I, L) = (mTg (T, c, s) o = 13 ∧ (st.map Value.category).sum ≤ 8 ∧ C_X10_lies [.ref o, .int v0, .int v1] (mZr (T, c, s), I, L) (fun r h' => h'.1 = mZr (T, c, s) ∧ mWP tb_L_law Q 1000 [a0, a1, a2, a3] (r.toList ++ st) ((T, c, s), h'.2))) := (mWP_eq mt_L_law _ _ _ _ _).trans (eq_CV (Q := Q) 2 rfl)
set_option maxRecDepth 100000 in
theorem e_L_law_1000 {Q : mQo} {T : List mSh} {c s : Nat} {I : Nat → Nat → Int32} {L : Nat → Nat → Int64} {st : List Value} {a0 a1 a3 : Option Value} {x : Nat} : mWP tb_L_law Q 1000 [a0, a1, some (.ref x), a3] st ((T, c, s), I, L) = mWP tb_L_law Q 1001 [a0, a1, some (.ref x), a3] (.ref x :: st) ((T, c, s), I, L) := mWP_eq mt_L_law _ _ _ _ _
set_option maxRecDepth 100000 in
theorem e_L_law_1000n {Q : mQo} {T : List mSh} {c s : Nat} {I : Nat → Nat → Int32} {L : Nat → Nat → Int64} {st : List Value} {a0 a1 a3 : Option Value} : mWP tb_L_law Q 1000 [a0, a1, some .null, a3] st ((T, c, s), I, L) = mWP tb_L_law Q 1001 [a0, a1, some .null, a3] (.null :: st) ((T, c, s), I, L) := mWP_eq mt_L_law _ _ _ _ _
set_option maxRecDepth 100000 in
theorem e_L_law_1001 {Q : mQo} {T : List mSh} {c s : Nat} {I : Nat → Nat → Int32} {L : Nat → Nat → Int64} {st : List Value} {a1 a2 a3 : Option Value} {x : Nat} : mWP tb_L_law Q 1001 [some (.ref x), a1, a2, a3] st ((T, c, s), I, L) = mWP tb_L_law Q 1002 [some (.ref x), a1, a2, a3] (.ref x :: st) ((T, c, s), I, L) := mWP_eq mt_L_law _ _ _ _ _
set_option maxRecDepth 100000 in
theorem e_L_law_1001n {Q : mQo} {T : List mSh} {c s : Nat} {I : Nat → Nat → Int32} {L : Nat → Nat → Int64} {st : List Value} {a1 a2 a3 : Option Value} : mWP tb_L_law Q 1001 [some .null, a1, a2, a3] st ((T, c, s), I, L) = mWP tb_L_law Q 1002 [some .null, a1, a2, a3] (.null :: st) ((T, c, s), I, L) := mWP_eq mt_L_law _ _ _ _ _
set_option maxRecDepth 100000 in
theorem e_L_law_1002 {Q : mQo} {T : List mSh} {c s : Nat} {I : Nat → Nat → Int32} {L : Nat → Nat → Int64} {st : List Value} {a0 a1 a2 : Option Value} {x : Int32} : mWP tb_L_law Q 1002 [a0, a1, a2, some (.int x)] st ((T, c, s), I, L) = mWP tb_L_law Q 1003 [a0, a1, a2, some (.int x)] (.int x :: st) ((T, c, s), I, L) := mWP_eq mt_L_law _ _ _ _ _
set_option maxRecDepth 100000 in
theorem e_L_law_1003 {Q : mQo} {T : List mSh} {c s : Nat} {I : Nat → Nat → Int32} {L : Nat → Nat → Int64} {st : List Value} {a0 a1 a2 a3 : Option Value} : mWP tb_L_law Q 1003 [a0, a1, a2, a3] st ((T, c, s), I, L) = mWP tb_L_law Q 1004 [a0, a1, a2, a3] (.int 1 :: st) ((T, c, s), I, L) := mWP_eq mt_L_law _ _ _ _ _
set_option maxRecDepth 100000 in
theorem e_L_law_1004 {Q : mQo} {T : List mSh} {c s : Nat} {I : Nat → Nat → Int32} {L : Nat → Nat → Int64} {st : List Value} {a0 a1 a2 a3 : Option Value} {x y : Int32} : mWP tb_L_law Q 1004 [a0, a1, a2, a3] (.int y :: .int x :: st) ((T, c, s), I, L) = mWP tb_L_law Q 1005 [a0, a1, a2, a3] (.int (x + y) :: st) ((T, c, s), I, L) := mWP_eq mt_L_law _ _ _ _ _
set_option maxRecDepth 100000 in
theorem e_L_law_1005 {Q : mQo} {T : List mSh} {c s : Nat} {I : Nat → Nat → Int32} {L : Nat → Nat → Int64} {st : List Value} {a0 a1 a2 a3 : Option Value} {x : Nat} {y : Int32} : mWP tb_L_law Q 1005 [a0, a1, a2, a3] (.int y :: .ref x :: st) ((T, c, s), I, L) = (mTg (T, c, s) x = 0 ∧ vp_in y (mLn (T, c, s) x) ∧ mWP tb_L_law Q 1006 [a0, a1, a2, a3] (.int (I x y.toNatClampNeg) :: st) ((T, c, s), I, L)) := mWP_eq mt_L_law _ _ _ _ _
set_option maxRecDepth 100000 in
theorem e_L_law_1006 {Q : mQo} {T : List mSh} {c s : Nat} {I : Nat → Nat → Int32} {L : Nat → Nat → Int64} {st : List Value} {a1 a2 a3 : Option Value} {x : Nat} : mWP tb_L_law Q 1006 [some (.ref x), a1, a2, a3] st ((T, c, s), I, L) = mWP tb_L_law Q 1007 [some (.ref x), a1, a2, a3] (.ref x :: st) ((T, c, s), I, L) := mWP_eq mt_L_law _ _ _ _ _
set_option maxRecDepth 100000 in
theorem e_L_law_1006n {Q : mQo} {T : List mSh} {c s : Nat} {I : Nat → Nat → Int32} {L : Nat → Nat → Int64} {st : List Value} {a1 a2 a3 : Option Value} : mWP tb_L_law Q 1006 [some .null, a1, a2, a3] st ((T, c, s), I, L) = mWP tb_L_law Q 1007 [some .null, a1, a2, a3] (.null :: st) ((T, c, s), I, L) := mWP_eq mt_L_law _ _ _ _ _
set_option maxRecDepth 100000 in
theorem e_L_law_1007 {Q : mQo} {T : List mSh} {c s : Nat} {I : Nat → Nat → Int32} {L : Nat → Nat → Int64} {st : List Value} {a0 a1 a2 : Option Value} {x : Int32} : mWP tb_L_law Q 1007 [a0, a1, a2, some (.int x)] st ((T, c, s), I, L) = mWP tb_L_law Q 1008 [a0, a1, a2, some (.int x)] (.int x :: st) ((T, c, s), I, L) := mWP_eq mt_L_law _ _ _ _ _
set_option maxRecDepth 100000 in
theorem e_L_law_1008 {Q : mQo} {T : List mSh} {c s : Nat} {I : Nat → Nat → Int32} {L : Nat → Nat → Int64} {st : List Value} {a0 a1 a2 a3 : Option Value} : mWP tb_L_law Q 1008 [a0, a1, a2, a3] st ((T, c, s), I, L) = mWP tb_L_law Q 1009 [a0, a1, a2, a3] (.int 2 :: st) ((T, c, s), I, L) := mWP_eq mt_L_law _ _ _ _ _
set_option maxRecDepth 100000 in
theorem e_L_law_1009 {Q : mQo} {T : List mSh} {c s : Nat} {I : Nat → Nat → Int32} {L : Nat → Nat → Int64} {st : List Value} {a0 a1 a2 a3 : Option Value} {x y : Int32} : mWP tb_L_law Q 1009 [a0, a1, a2, a3] (.int y :: .int x :: st) ((T, c, s), I, L) = mWP tb_L_law Q 1010 [a0, a1, a2, a3] (.int (x + y) :: st) ((T, c, s), I, L) := mWP_eq mt_L_law _ _ _ _ _
set_option maxRecDepth 100000 in
theorem e_L_law_1010 {Q : mQo} {T : List mSh} {c s : Nat} {I : Nat → Nat → Int32} {L : Nat → Nat → Int64} {st : List Value} {a0 a1 a2 a3 : Option Value} {x : Nat} {y : Int32} : mWP tb_L_law Q 1010 [a0, a1, a2, a3] (.int y :: .ref x :: st) ((T, c, s), I, L) = (mTg (T, c, s) x = 0 ∧ vp_in y (mLn (T, c, s) x) ∧ mWP tb_L_law Q 1011 [a0, a1, a2, a3] (.int (I x y.toNatClampNeg) :: st) ((T, c, s), I, L)) := mWP_eq mt_L_law _ _ _ _ _
set_option maxRecDepth 100000 in
theorem e_L_law_1011 {Q : mQo} {T : List mSh} {c s : Nat} {I : Nat → Nat → Int32} {L : Nat → Nat → Int64} {st : List Value} {a0 a1 a2 a3 : Option Value} {v0 : Int32} {v1 : Int32} {o : Nat} : mWP tb_L_law Q 1011 [a0, a1, a2, a3] (.int v1 :: .int v0 :: .ref o :: st) ((T, c, s), I, L) = (mTg (T, c, s) o = 14 ∧ (st.map Value.category).sum ≤ 8 ∧ C_X11_lies [.ref o, .int v0, .int v1] (mZr (T, c, s), I, L) (fun r h' => h'.1 = mZr (T, c, s) ∧ mWP tb_L_law Q 1014 [a0, a1, a2, a3] (r.toList ++ st) ((T, c, s), h'.2))) := (mWP_eq mt_L_law _ _ _ _ _).trans (eq_CV (Q := Q) 2 rfl)
set_option maxRecDepth 100000 in
theorem e_L_law_1014 {Q : mQo} {T : List mSh} {c s : Nat} {I : Nat → Nat → Int32} {L : Nat → Nat → Int64} {st : List Value} {a0 a1 a2 a3 : Option Value} {x y : Int64} : mWP tb_L_law Q 1014 [a0, a1, a2, a3] (.long y :: .long x :: st) ((T, c, s), I, L) = mWP tb_L_law Q 1015 [a0, a1, a2, a3] (.int (lg_cmp x y) :: st) ((T, c, s), I, L) := mWP_eq mt_L_law _ _ _ _ _
set_option maxRecDepth 100000 in
theorem e_L_law_1015 {Q : mQo} {T : List mSh} {c s : Nat} {I : Nat → Nat → Int32} {L : Nat → Nat → Int64} {st : List Value} {a0 a1 a2 a3 : Option Value} {x : Int32} : mWP tb_L_law Q 1015 [a0, a1, a2, a3] (.int x :: st) ((T, c, s), I, L) = ((x = 0 → mWP tb_L_law Q 1460 [a0, a1, a2, a3] st ((T, c, s), I, L)) ∧ (¬ (x = 0) → mWP tb_L_law Q 1018 [a0, a1, a2, a3] st ((T, c, s), I, L))) := mWP_eq mt_L_law _ _ _ _ _
set_option maxRecDepth 100000 in
theorem e_L_law_1018 {Q : mQo} {T : List mSh} {c s : Nat} {I : Nat → Nat → Int32} {L : Nat → Nat → Int64} {st : List Value} {a0 a1 a2 a3 : Option Value} : mWP tb_L_law Q 1018 [a0, a1, a2, a3] st ((T, c, s), I, L) = mWP tb_L_law Q 1019 [a0, a1, a2, a3] (.int 0 :: st) ((T, c, s), I, L) := mWP_eq mt_L_law _ _ _ _ _
set_option maxRecDepth 100000 in
theorem e_L_law_1019 {Q : mQo} {T : List mSh} {c s : Nat} {I : Nat → Nat → Int32} {L : Nat → Nat → Int64} {a0 a1 a2 a3 : Option Value} {x : Int32} : mWP tb_L_law Q 1019 [a0, a1, a2, a3] [.int x] ((T, c, s), I, L) = ((x = 0 ∨ x = 1) ∧ Q (some (.int x)) ((T, c, s), I, L)) := mWP_eq mt_L_law _ _ _ _ _
set_option maxRecDepth 100000 in
theorem e_L_law_1020 {Q : mQo} {T : List mSh} {c s : Nat} {I : Nat → Nat → Int32} {L : Nat → Nat → Int64} {st : List Value} {a0 a2 a3 : Option Value} {x : Nat} : mWP tb_L_law Q 1020 [a0, some (.ref x), a2, a3] st ((T, c, s), I, L) = mWP tb_L_law Q 1021 [a0, some (.ref x), a2, a3] (.ref x :: st) ((T, c, s), I, L) := mWP_eq mt_L_law _ _ _ _ _
set_option maxRecDepth 100000 in
theorem e_L_law_1020n {Q : mQo} {T : List mSh} {c s : Nat} {I : Nat → Nat → Int32} {L : Nat → Nat → Int64} {st : List Value} {a0 a2 a3 : Option Value} : mWP tb_L_law Q 1020 [a0, some .null, a2, a3] st ((T, c, s), I, L) = mWP tb_L_law Q 1021 [a0, some .null, a2, a3] (.null :: st) ((T, c, s), I, L) := mWP_eq mt_L_law _ _ _ _ _
set_option maxRecDepth 100000 in
theorem e_L_law_1021 {Q : mQo} {T : List mSh} {c s : Nat} {I : Nat → Nat → Int32} {L : Nat → Nat → Int64} {st : List Value} {a1 a2 a3 : Option Value} {x : Nat} : mWP tb_L_law Q 1021 [some (.ref x), a1, a2, a3] st ((T, c, s), I, L) = mWP tb_L_law Q 1022 [some (.ref x), a1, a2, a3] (.ref x :: st) ((T, c, s), I, L) := mWP_eq mt_L_law _ _ _ _ _
set_option maxRecDepth 100000 in
theorem e_L_law_1021n {Q : mQo} {T : List mSh} {c s : Nat} {I : Nat → Nat → Int32} {L : Nat → Nat → Int64} {st : List Value} {a1 a2 a3 : Option Value} : mWP tb_L_law Q 1021 [some .null, a1, a2, a3] st ((T, c, s), I, L) = mWP tb_L_law Q 1022 [some .null, a1, a2, a3] (.null :: st) ((T, c, s), I, L) := mWP_eq mt_L_law _ _ _ _ _
set_option maxRecDepth 100000 in
theorem e_L_law_1022 {Q : mQo} {T : List mSh} {c s : Nat} {I : Nat → Nat → Int32} {L : Nat → Nat → Int64} {st : List Value} {a0 a1 a2 : Option Value} {x : Int32} : mWP tb_L_law Q 1022 [a0, a1, a2, some (.int x)] st ((T, c, s), I, L) = mWP tb_L_law Q 1023 [a0, a1, a2, some (.int x)] (.int x :: st) ((T, c, s), I, L) := mWP_eq mt_L_law _ _ _ _ _
set_option maxRecDepth 100000 in
theorem e_L_law_1023 {Q : mQo} {T : List mSh} {c s : Nat} {I : Nat → Nat → Int32} {L : Nat → Nat → Int64} {st : List Value} {a0 a1 a2 a3 : Option Value} : mWP tb_L_law Q 1023 [a0, a1, a2, a3] st ((T, c, s), I, L) = mWP tb_L_law Q 1024 [a0, a1, a2, a3] (.int 1 :: st) ((T, c, s), I, L) := mWP_eq mt_L_law _ _ _ _ _
set_option maxRecDepth 100000 in
theorem e_L_law_1024 {Q : mQo} {T : List mSh} {c s : Nat} {I : Nat → Nat → Int32} {L : Nat → Nat → Int64} {st : List Value} {a0 a1 a2 a3 : Option Value} {x y : Int32} : mWP tb_L_law Q 1024 [a0, a1, a2, a3] (.int y :: .int x :: st) ((T, c, s), I, L) = mWP tb_L_law Q 1025 [a0, a1, a2, a3] (.int (x + y) :: st) ((T, c, s), I, L) := mWP_eq mt_L_law _ _ _ _ _
set_option maxRecDepth 100000 in
theorem e_L_law_1025 {Q : mQo} {T : List mSh} {c s : Nat} {I : Nat → Nat → Int32} {L : Nat → Nat → Int64} {st : List Value} {a0 a1 a2 a3 : Option Value} {x : Nat} {y : Int32} : mWP tb_L_law Q 1025 [a0, a1, a2, a3] (.int y :: .ref x :: st) ((T, c, s), I, L) = (mTg (T, c, s) x = 0 ∧ vp_in y (mLn (T, c, s) x) ∧ mWP tb_L_law Q 1026 [a0, a1, a2, a3] (.int (I x y.toNatClampNeg) :: st) ((T, c, s), I, L)) := mWP_eq mt_L_law _ _ _ _ _
set_option maxRecDepth 100000 in
theorem e_L_law_1026 {Q : mQo} {T : List mSh} {c s : Nat} {I : Nat → Nat → Int32} {L : Nat → Nat → Int64} {st : List Value} {a0 a1 a2 a3 : Option Value} {v0 : Int32} {o : Nat} : mWP tb_L_law Q 1026 [a0, a1, a2, a3] (.int v0 :: .ref o :: st) ((T, c, s), I, L) = (mTg (T, c, s) o = 13 ∧ (st.map Value.category).sum ≤ 8 ∧ C_X10_why [.ref o, .int v0] (mZr (T, c, s), I, L) (fun r h' => h'.1 = mZr (T, c, s) ∧ mWP tb_L_law Q 1029 [a0, a1, a2, a3] (r.toList ++ st) ((T, c, s), h'.2))) := (mWP_eq mt_L_law _ _ _ _ _).trans (eq_CV (Q := Q) 1 rfl)
set_option maxRecDepth 100000 in
theorem e_L_law_1029 {Q : mQo} {T : List mSh} {c s : Nat} {I : Nat → Nat → Int32} {L : Nat → Nat → Int64} {st : List Value} {a0 a1 a3 : Option Value} {x : Nat} : mWP tb_L_law Q 1029 [a0, a1, some (.ref x), a3] st ((T, c, s), I, L) = mWP tb_L_law Q 1030 [a0, a1, some (.ref x), a3] (.ref x :: st) ((T, c, s), I, L) := mWP_eq mt_L_law _ _ _ _ _
set_option maxRecDepth 100000 in
theorem e_L_law_1029n {Q : mQo} {T : List mSh} {c s : Nat} {I : Nat → Nat → Int32} {L : Nat → Nat → Int64} {st : List Value} {a0 a1 a3 : Option Value} : mWP tb_L_law Q 1029 [a0, a1, some .null, a3] st ((T, c, s), I, L) = mWP tb_L_law Q 1030 [a0, a1, some .null, a3] (.null :: st) ((T, c, s), I, L) := mWP_eq mt_L_law _ _ _ _ _
set_option maxRecDepth 100000 in
theorem e_L_law_1030 {Q : mQo} {T : List mSh} {c s : Nat} {I : Nat → Nat → Int32} {L : Nat → Nat → Int64} {st : List Value} {a1 a2 a3 : Option Value} {x : Nat} : mWP tb_L_law Q 1030 [some (.ref x), a1, a2, a3] st ((T, c, s), I, L) = mWP tb_L_law Q 1031 [some (.ref x), a1, a2, a3] (.ref x :: st) ((T, c, s), I, L) := mWP_eq mt_L_law _ _ _ _ _
set_option maxRecDepth 100000 in
theorem e_L_law_1030n {Q : mQo} {T : List mSh} {c s : Nat} {I : Nat → Nat → Int32} {L : Nat → Nat → Int64} {st : List Value} {a1 a2 a3 : Option Value} : mWP tb_L_law Q 1030 [some .null, a1, a2, a3] st ((T, c, s), I, L) = mWP tb_L_law Q 1031 [some .null, a1, a2, a3] (.null :: st) ((T, c, s), I, L) := mWP_eq mt_L_law _ _ _ _ _
set_option maxRecDepth 100000 in
theorem e_L_law_1031 {Q : mQo} {T : List mSh} {c s : Nat} {I : Nat → Nat → Int32} {L : Nat → Nat → Int64} {st : List Value} {a0 a1 a2 : Option Value} {x : Int32} : mWP tb_L_law Q 1031 [a0, a1, a2, some (.int x)] st ((T, c, s), I, L) = mWP tb_L_law Q 1032 [a0, a1, a2, some (.int x)] (.int x :: st) ((T, c, s), I, L) := mWP_eq mt_L_law _ _ _ _ _
set_option maxRecDepth 100000 in
theorem e_L_law_1032 {Q : mQo} {T : List mSh} {c s : Nat} {I : Nat → Nat → Int32} {L : Nat → Nat → Int64} {st : List Value} {a0 a1 a2 a3 : Option Value} : mWP tb_L_law Q 1032 [a0, a1, a2, a3] st ((T, c, s), I, L) = mWP tb_L_law Q 1033 [a0, a1, a2, a3] (.int 1 :: st) ((T, c, s), I, L) := mWP_eq mt_L_law _ _ _ _ _
set_option maxRecDepth 100000 in
theorem e_L_law_1033 {Q : mQo} {T : List mSh} {c s : Nat} {I : Nat → Nat → Int32} {L : Nat → Nat → Int64} {st : List Value} {a0 a1 a2 a3 : Option Value} {x y : Int32} : mWP tb_L_law Q 1033 [a0, a1, a2, a3] (.int y :: .int x :: st) ((T, c, s), I, L) = mWP tb_L_law Q 1034 [a0, a1, a2, a3] (.int (x + y) :: st) ((T, c, s), I, L) := mWP_eq mt_L_law _ _ _ _ _
set_option maxRecDepth 100000 in
theorem e_L_law_1034 {Q : mQo} {T : List mSh} {c s : Nat} {I : Nat → Nat → Int32} {L : Nat → Nat → Int64} {st : List Value} {a0 a1 a2 a3 : Option Value} {x : Nat} {y : Int32} : mWP tb_L_law Q 1034 [a0, a1, a2, a3] (.int y :: .ref x :: st) ((T, c, s), I, L) = (mTg (T, c, s) x = 0 ∧ vp_in y (mLn (T, c, s) x) ∧ mWP tb_L_law Q 1035 [a0, a1, a2, a3] (.int (I x y.toNatClampNeg) :: st) ((T, c, s), I, L)) := mWP_eq mt_L_law _ _ _ _ _
set_option maxRecDepth 100000 in
theorem e_L_law_1035 {Q : mQo} {T : List mSh} {c s : Nat} {I : Nat → Nat → Int32} {L : Nat → Nat → Int64} {st : List Value} {a0 a1 a2 a3 : Option Value} {v0 : Int32} {o : Nat} : mWP tb_L_law Q 1035 [a0, a1, a2, a3] (.int v0 :: .ref o :: st) ((T, c, s), I, L) = (mTg (T, c, s) o = 14 ∧ (st.map Value.category).sum ≤ 8 ∧ C_X11_why [.ref o, .int v0] (mZr (T, c, s), I, L) (fun r h' => h'.1 = mZr (T, c, s) ∧ mWP tb_L_law Q 1038 [a0, a1, a2, a3] (r.toList ++ st) ((T, c, s), h'.2))) := (mWP_eq mt_L_law _ _ _ _ _).trans (eq_CV (Q := Q) 1 rfl)
set_option maxRecDepth 100000 in
theorem e_L_law_1038 {Q : mQo} {T : List mSh} {c s : Nat} {I : Nat → Nat → Int32} {L : Nat → Nat → Int64} {st : List Value} {a0 a1 a2 a3 : Option Value} {x y : Int64} : mWP tb_L_law Q 1038 [a0, a1, a2, a3] (.long y :: .long x :: st) ((T, c, s), I, L) = mWP tb_L_law Q 1039 [a0, a1, a2, a3] (.int (lg_cmp x y) :: st) ((T, c, s), I, L) := mWP_eq mt_L_law _ _ _ _ _
set_option maxRecDepth 100000 in
theorem e_L_law_1039 {Q : mQo} {T : List mSh} {c s : Nat} {I : Nat → Nat → Int32} {L : Nat → Nat → Int64} {st : List Value} {a0 a1 a2 a3 : Option Value} {x : Int32} : mWP tb_L_law Q 1039 [a0, a1, a2, a3] (.int x :: st) ((T, c, s), I, L) = ((x = 0 → mWP tb_L_law Q 1460 [a0, a1, a2, a3] st ((T, c, s), I, L)) ∧ (¬ (x = 0) → mWP tb_L_law Q 1042 [a0, a1, a2, a3] st ((T, c, s), I, L))) := mWP_eq mt_L_law _ _ _ _ _
set_option maxRecDepth 100000 in
theorem e_L_law_1042 {Q : mQo} {T : List mSh} {c s : Nat} {I : Nat → Nat → Int32} {L : Nat → Nat → Int64} {st : List Value} {a0 a1 a2 a3 : Option Value} : mWP tb_L_law Q 1042 [a0, a1, a2, a3] st ((T, c, s), I, L) = mWP tb_L_law Q 1043 [a0, a1, a2, a3] (.int 0 :: st) ((T, c, s), I, L) := mWP_eq mt_L_law _ _ _ _ _
set_option maxRecDepth 100000 in
theorem e_L_law_1043 {Q : mQo} {T : List mSh} {c s : Nat} {I : Nat → Nat → Int32} {L : Nat → Nat → Int64} {a0 a1 a2 a3 : Option Value} {x : Int32} : mWP tb_L_law Q 1043 [a0, a1, a2, a3] [.int x] ((T, c, s), I, L) = ((x = 0 ∨ x = 1) ∧ Q (some (.int x)) ((T, c, s), I, L)) := mWP_eq mt_L_law _ _ _ _ _
set_option maxRecDepth 100000 in
theorem e_L_law_1044 {Q : mQo} {T : List mSh} {c s : Nat} {I : Nat → Nat → Int32} {L : Nat → Nat → Int64} {st : List Value} {a0 a2 a3 : Option Value} {x : Nat} : mWP tb_L_law Q 1044 [a0, some (.ref x), a2, a3] st ((T, c, s), I, L) = mWP tb_L_law Q 1045 [a0, some (.ref x), a2, a3] (.ref x :: st) ((T, c, s), I, L) := mWP_eq mt_L_law _ _ _ _ _
set_option maxRecDepth 100000 in
theorem e_L_law_1044n {Q : mQo} {T : List mSh} {c s : Nat} {I : Nat → Nat → Int32} {L : Nat → Nat → Int64} {st : List Value} {a0 a2 a3 : Option Value} : mWP tb_L_law Q 1044 [a0, some .null, a2, a3] st ((T, c, s), I, L) = mWP tb_L_law Q 1045 [a0, some .null, a2, a3] (.null :: st) ((T, c, s), I, L) := mWP_eq mt_L_law _ _ _ _ _
set_option maxRecDepth 100000 in
theorem e_L_law_1045 {Q : mQo} {T : List mSh} {c s : Nat} {I : Nat → Nat → Int32} {L : Nat → Nat → Int64} {st : List Value} {a1 a2 a3 : Option Value} {x : Nat} : mWP tb_L_law Q 1045 [some (.ref x), a1, a2, a3] st ((T, c, s), I, L) = mWP tb_L_law Q 1046 [some (.ref x), a1, a2, a3] (.ref x :: st) ((T, c, s), I, L) := mWP_eq mt_L_law _ _ _ _ _
set_option maxRecDepth 100000 in
theorem e_L_law_1045n {Q : mQo} {T : List mSh} {c s : Nat} {I : Nat → Nat → Int32} {L : Nat → Nat → Int64} {st : List Value} {a1 a2 a3 : Option Value} : mWP tb_L_law Q 1045 [some .null, a1, a2, a3] st ((T, c, s), I, L) = mWP tb_L_law Q 1046 [some .null, a1, a2, a3] (.null :: st) ((T, c, s), I, L) := mWP_eq mt_L_law _ _ _ _ _
set_option maxRecDepth 100000 in
theorem e_L_law_1046 {Q : mQo} {T : List mSh} {c s : Nat} {I : Nat → Nat → Int32} {L : Nat → Nat → Int64} {st : List Value} {a0 a1 a2 : Option Value} {x : Int32} : mWP tb_L_law Q 1046 [a0, a1, a2, some (.int x)] st ((T, c, s), I, L) = mWP tb_L_law Q 1047 [a0, a1, a2, some (.int x)] (.int x :: st) ((T, c, s), I, L) := mWP_eq mt_L_law _ _ _ _ _
set_option maxRecDepth 100000 in
theorem e_L_law_1047 {Q : mQo} {T : List mSh} {c s : Nat} {I : Nat → Nat → Int32} {L : Nat → Nat → Int64} {st : List Value} {a0 a1 a2 a3 : Option Value} : mWP tb_L_law Q 1047 [a0, a1, a2, a3] st ((T, c, s), I, L) = mWP tb_L_law Q 1048 [a0, a1, a2, a3] (.int 1 :: st) ((T, c, s), I, L) := mWP_eq mt_L_law _ _ _ _ _
set_option maxRecDepth 100000 in
theorem e_L_law_1048 {Q : mQo} {T : List mSh} {c s : Nat} {I : Nat → Nat → Int32} {L : Nat → Nat → Int64} {st : List Value} {a0 a1 a2 a3 : Option Value} {x y : Int32} : mWP tb_L_law Q 1048 [a0, a1, a2, a3] (.int y :: .int x :: st) ((T, c, s), I, L) = mWP tb_L_law Q 1049 [a0, a1, a2, a3] (.int (x + y) :: st) ((T, c, s), I, L) := mWP_eq mt_L_law _ _ _ _ _
set_option maxRecDepth 100000 in
theorem e_L_law_1049 {Q : mQo} {T : List mSh} {c s : Nat} {I : Nat → Nat → Int32} {L : Nat → Nat → Int64} {st : List Value} {a0 a1 a2 a3 : Option Value} {x : Nat} {y : Int32} : mWP tb_L_law Q 1049 [a0, a1, a2, a3] (.int y :: .ref x :: st) ((T, c, s), I, L) = (mTg (T, c, s) x = 0 ∧ vp_in y (mLn (T, c, s) x) ∧ mWP tb_L_law Q 1050 [a0, a1, a2, a3] (.int (I x y.toNatClampNeg) :: st) ((T, c, s), I, L)) := mWP_eq mt_L_law _ _ _ _ _
set_option maxRecDepth 100000 in
theorem e_L_law_1050 {Q : mQo} {T : List mSh} {c s : Nat} {I : Nat → Nat → Int32} {L : Nat → Nat → Int64} {st : List Value} {a1 a2 a3 : Option Value} {x : Nat} : mWP tb_L_law Q 1050 [some (.ref x), a1, a2, a3] st ((T, c, s), I, L) = mWP tb_L_law Q 1051 [some (.ref x), a1, a2, a3] (.ref x :: st) ((T, c, s), I, L) := mWP_eq mt_L_law _ _ _ _ _
set_option maxRecDepth 100000 in
theorem e_L_law_1050n {Q : mQo} {T : List mSh} {c s : Nat} {I : Nat → Nat → Int32} {L : Nat → Nat → Int64} {st : List Value} {a1 a2 a3 : Option Value} : mWP tb_L_law Q 1050 [some .null, a1, a2, a3] st ((T, c, s), I, L) = mWP tb_L_law Q 1051 [some .null, a1, a2, a3] (.null :: st) ((T, c, s), I, L) := mWP_eq mt_L_law _ _ _ _ _
set_option maxRecDepth 100000 in
theorem e_L_law_1051 {Q : mQo} {T : List mSh} {c s : Nat} {I : Nat → Nat → Int32} {L : Nat → Nat → Int64} {st : List Value} {a0 a1 a2 : Option Value} {x : Int32} : mWP tb_L_law Q 1051 [a0, a1, a2, some (.int x)] st ((T, c, s), I, L) = mWP tb_L_law Q 1052 [a0, a1, a2, some (.int x)] (.int x :: st) ((T, c, s), I, L) := mWP_eq mt_L_law _ _ _ _ _
set_option maxRecDepth 100000 in
theorem e_L_law_1052 {Q : mQo} {T : List mSh} {c s : Nat} {I : Nat → Nat → Int32} {L : Nat → Nat → Int64} {st : List Value} {a0 a1 a2 a3 : Option Value} : mWP tb_L_law Q 1052 [a0, a1, a2, a3] st ((T, c, s), I, L) = mWP tb_L_law Q 1053 [a0, a1, a2, a3] (.int 2 :: st) ((T, c, s), I, L) := mWP_eq mt_L_law _ _ _ _ _
set_option maxRecDepth 100000 in
theorem e_L_law_1053 {Q : mQo} {T : List mSh} {c s : Nat} {I : Nat → Nat → Int32} {L : Nat → Nat → Int64} {st : List Value} {a0 a1 a2 a3 : Option Value} {x y : Int32} : mWP tb_L_law Q 1053 [a0, a1, a2, a3] (.int y :: .int x :: st) ((T, c, s), I, L) = mWP tb_L_law Q 1054 [a0, a1, a2, a3] (.int (x + y) :: st) ((T, c, s), I, L) := mWP_eq mt_L_law _ _ _ _ _
set_option maxRecDepth 100000 in
theorem e_L_law_1054 {Q : mQo} {T : List mSh} {c s : Nat} {I : Nat → Nat → Int32} {L : Nat → Nat → Int64} {st : List Value} {a0 a1 a2 a3 : Option Value} {x : Nat} {y : Int32} : mWP tb_L_law Q 1054 [a0, a1, a2, a3] (.int y :: .ref x :: st) ((T, c, s), I, L) = (mTg (T, c, s) x = 0 ∧ vp_in y (mLn (T, c, s) x) ∧ mWP tb_L_law Q 1055 [a0, a1, a2, a3] (.int (I x y.toNatClampNeg) :: st) ((T, c, s), I, L)) := mWP_eq mt_L_law _ _ _ _ _
set_option maxRecDepth 100000 in
theorem e_L_law_1055 {Q : mQo} {T : List mSh} {c s : Nat} {I : Nat → Nat → Int32} {L : Nat → Nat → Int64} {st : List Value} {a0 a1 a2 a3 : Option Value} {v0 : Int32} {v1 : Int32} {o : Nat} : mWP tb_L_law Q 1055 [a0, a1, a2, a3] (.int v1 :: .int v0 :: .ref o :: st) ((T, c, s), I, L) = (mTg (T, c, s) o = 13 ∧ (st.map Value.category).sum ≤ 8 ∧ C_X10_rest [.ref o, .int v0, .int v1] (mZr (T, c, s), I, L) (fun r h' => h'.1 = mZr (T, c, s) ∧ mWP tb_L_law Q 1058 [a0, a1, a2, a3] (r.toList ++ st) ((T, c, s), h'.2))) := (mWP_eq mt_L_law _ _ _ _ _).trans (eq_CV (Q := Q) 2 rfl)
set_option maxRecDepth 100000 in
theorem e_L_law_1058 {Q : mQo} {T : List mSh} {c s : Nat} {I : Nat → Nat → Int32} {L : Nat → Nat → Int64} {st : List Value} {a0 a1 a3 : Option Value} {x : Nat} : mWP tb_L_law Q 1058 [a0, a1, some (.ref x), a3] st ((T, c, s), I, L) = mWP tb_L_law Q 1059 [a0, a1, some (.ref x), a3] (.ref x :: st) ((T, c, s), I, L) := mWP_eq mt_L_law _ _ _ _ _
set_option maxRecDepth 100000 in
theorem e_L_law_1058n {Q : mQo} {T : List mSh} {c s : Nat} {I : Nat → Nat → Int32} {L : Nat → Nat → Int64} {st : List Value} {a0 a1 a3 : Option Value} : mWP tb_L_law Q 1058 [a0, a1, some .null, a3] st ((T, c, s), I, L) = mWP tb_L_law Q 1059 [a0, a1, some .null, a3] (.null :: st) ((T, c, s), I, L) := mWP_eq mt_L_law _ _ _ _ _
set_option maxRecDepth 100000 in
theorem e_L_law_1059 {Q : mQo} {T : List mSh} {c s : Nat} {I : Nat → Nat → Int32} {L : Nat → Nat → Int64} {st : List Value} {a1 a2 a3 : Option Value} {x : Nat} : mWP tb_L_law Q 1059 [some (.ref x), a1, a2, a3] st ((T, c, s), I, L) = mWP tb_L_law Q 1060 [some (.ref x), a1, a2, a3] (.ref x :: st) ((T, c, s), I, L) := mWP_eq mt_L_law _ _ _ _ _
set_option maxRecDepth 100000 in
theorem e_L_law_1059n {Q : mQo} {T : List mSh} {c s : Nat} {I : Nat → Nat → Int32} {L : Nat → Nat → Int64} {st : List Value} {a1 a2 a3 : Option Value} : mWP tb_L_law Q 1059 [some .null, a1, a2, a3] st ((T, c, s), I, L) = mWP tb_L_law Q 1060 [some .null, a1, a2, a3] (.null :: st) ((T, c, s), I, L) := mWP_eq mt_L_law _ _ _ _ _
set_option maxRecDepth 100000 in
theorem e_L_law_1060 {Q : mQo} {T : List mSh} {c s : Nat} {I : Nat → Nat → Int32} {L : Nat → Nat → Int64} {st : List Value} {a0 a1 a2 : Option Value} {x : Int32} : mWP tb_L_law Q 1060 [a0, a1, a2, some (.int x)] st ((T, c, s), I, L) = mWP tb_L_law Q 1061 [a0, a1, a2, some (.int x)] (.int x :: st) ((T, c, s), I, L) := mWP_eq mt_L_law _ _ _ _ _
set_option maxRecDepth 100000 in
theorem e_L_law_1061 {Q : mQo} {T : List mSh} {c s : Nat} {I : Nat → Nat → Int32} {L : Nat → Nat → Int64} {st : List Value} {a0 a1 a2 a3 : Option Value} : mWP tb_L_law Q 1061 [a0, a1, a2, a3] st ((T, c, s), I, L) = mWP tb_L_law Q 1062 [a0, a1, a2, a3] (.int 1 :: st) ((T, c, s), I, L) := mWP_eq mt_L_law _ _ _ _ _
set_option maxRecDepth 100000 in
theorem e_L_law_1062 {Q : mQo} {T : List mSh} {c s : Nat} {I : Nat → Nat → Int32} {L : Nat → Nat → Int64} {st : List Value} {a0 a1 a2 a3 : Option Value} {x y : Int32} : mWP tb_L_law Q 1062 [a0, a1, a2, a3] (.int y :: .int x :: st) ((T, c, s), I, L) = mWP tb_L_law Q 1063 [a0, a1, a2, a3] (.int (x + y) :: st) ((T, c, s), I, L) := mWP_eq mt_L_law _ _ _ _ _
set_option maxRecDepth 100000 in
theorem e_L_law_1063 {Q : mQo} {T : List mSh} {c s : Nat} {I : Nat → Nat → Int32} {L : Nat → Nat → Int64} {st : List Value} {a0 a1 a2 a3 : Option Value} {x : Nat} {y : Int32} : mWP tb_L_law Q 1063 [a0, a1, a2, a3] (.int y :: .ref x :: st) ((T, c, s), I, L) = (mTg (T, c, s) x = 0 ∧ vp_in y (mLn (T, c, s) x) ∧ mWP tb_L_law Q 1064 [a0, a1, a2, a3] (.int (I x y.toNatClampNeg) :: st) ((T, c, s), I, L)) := mWP_eq mt_L_law _ _ _ _ _
set_option maxRecDepth 100000 in
theorem e_L_law_1064 {Q : mQo} {T : List mSh} {c s : Nat} {I : Nat → Nat → Int32} {L : Nat → Nat → Int64} {st : List Value} {a1 a2 a3 : Option Value} {x : Nat} : mWP tb_L_law Q 1064 [some (.ref x), a1, a2, a3] st ((T, c, s), I, L) = mWP tb_L_law Q 1065 [some (.ref x), a1, a2, a3] (.ref x :: st) ((T, c, s), I, L) := mWP_eq mt_L_law _ _ _ _ _
set_option maxRecDepth 100000 in
theorem e_L_law_1064n {Q : mQo} {T : List mSh} {c s : Nat} {I : Nat → Nat → Int32} {L : Nat → Nat → Int64} {st : List Value} {a1 a2 a3 : Option Value} : mWP tb_L_law Q 1064 [some .null, a1, a2, a3] st ((T, c, s), I, L) = mWP tb_L_law Q 1065 [some .null, a1, a2, a3] (.null :: st) ((T, c, s), I, L) := mWP_eq mt_L_law _ _ _ _ _
set_option maxRecDepth 100000 in
theorem e_L_law_1065 {Q : mQo} {T : List mSh} {c s : Nat} {I : Nat → Nat → Int32} {L : Nat → Nat → Int64} {st : List Value} {a0 a1 a2 : Option Value} {x : Int32} : mWP tb_L_law Q 1065 [a0, a1, a2, some (.int x)] st ((T, c, s), I, L) = mWP tb_L_law Q 1066 [a0, a1, a2, some (.int x)] (.int x :: st) ((T, c, s), I, L) := mWP_eq mt_L_law _ _ _ _ _
set_option maxRecDepth 100000 in
theorem e_L_law_1066 {Q : mQo} {T : List mSh} {c s : Nat} {I : Nat → Nat → Int32} {L : Nat → Nat → Int64} {st : List Value} {a0 a1 a2 a3 : Option Value} : mWP tb_L_law Q 1066 [a0, a1, a2, a3] st ((T, c, s), I, L) = mWP tb_L_law Q 1067 [a0, a1, a2, a3] (.int 2 :: st) ((T, c, s), I, L) := mWP_eq mt_L_law _ _ _ _ _
set_option maxRecDepth 100000 in
theorem e_L_law_1067 {Q : mQo} {T : List mSh} {c s : Nat} {I : Nat → Nat → Int32} {L : Nat → Nat → Int64} {st : List Value} {a0 a1 a2 a3 : Option Value} {x y : Int32} : mWP tb_L_law Q 1067 [a0, a1, a2, a3] (.int y :: .int x :: st) ((T, c, s), I, L) = mWP tb_L_law Q 1068 [a0, a1, a2, a3] (.int (x + y) :: st) ((T, c, s), I, L) := mWP_eq mt_L_law _ _ _ _ _
set_option maxRecDepth 100000 in
theorem e_L_law_1068 {Q : mQo} {T : List mSh} {c s : Nat} {I : Nat → Nat → Int32} {L : Nat → Nat → Int64} {st : List Value} {a0 a1 a2 a3 : Option Value} {x : Nat} {y : Int32} : mWP tb_L_law Q 1068 [a0, a1, a2, a3] (.int y :: .ref x :: st) ((T, c, s), I, L) = (mTg (T, c, s) x = 0 ∧ vp_in y (mLn (T, c, s) x) ∧ mWP tb_L_law Q 1069 [a0, a1, a2, a3] (.int (I x y.toNatClampNeg) :: st) ((T, c, s), I, L)) := mWP_eq mt_L_law _ _ _ _ _
set_option maxRecDepth 100000 in
theorem e_L_law_1069 {Q : mQo} {T : List mSh} {c s : Nat} {I : Nat → Nat → Int32} {L : Nat → Nat → Int64} {st : List Value} {a0 a1 a2 a3 : Option Value} {v0 : Int32} {v1 : Int32} {o : Nat} : mWP tb_L_law Q 1069 [a0, a1, a2, a3] (.int v1 :: .int v0 :: .ref o :: st) ((T, c, s), I, L) = (mTg (T, c, s) o = 14 ∧ (st.map Value.category).sum ≤ 8 ∧ C_X11_rest [.ref o, .int v0, .int v1] (mZr (T, c, s), I, L) (fun r h' => h'.1 = mZr (T, c, s) ∧ mWP tb_L_law Q 1072 [a0, a1, a2, a3] (r.toList ++ st) ((T, c, s), h'.2))) := (mWP_eq mt_L_law _ _ _ _ _).trans (eq_CV (Q := Q) 2 rfl)
set_option maxRecDepth 100000 in
theorem e_L_law_1072 {Q : mQo} {T : List mSh} {c s : Nat} {I : Nat → Nat → Int32} {L : Nat → Nat → Int64} {st : List Value} {a0 a1 a2 a3 : Option Value} {x y : Int64} : mWP tb_L_law Q 1072 [a0, a1, a2, a3] (.long y :: .long x :: st) ((T, c, s), I, L) = mWP tb_L_law Q 1073 [a0, a1, a2, a3] (.int (lg_cmp x y) :: st) ((T, c, s), I, L) := mWP_eq mt_L_law _ _ _ _ _
set_option maxRecDepth 100000 in
theorem e_L_law_1073 {Q : mQo} {T : List mSh} {c s : Nat} {I : Nat → Nat → Int32} {L : Nat → Nat → Int64} {st : List Value} {a0 a1 a2 a3 : Option Value} {x : Int32} : mWP tb_L_law Q 1073 [a0, a1, a2, a3] (.int x :: st) ((T, c, s), I, L) = ((x = 0 → mWP tb_L_law Q 1460 [a0, a1, a2, a3] st ((T, c, s), I, L)) ∧ (¬ (x = 0) → mWP tb_L_law Q 1076 [a0, a1, a2, a3] st ((T, c, s), I, L))) := mWP_eq mt_L_law _ _ _ _ _
set_option maxRecDepth 100000 in
theorem e_L_law_1076 {Q : mQo} {T : List mSh} {c s : Nat} {I : Nat → Nat → Int32} {L : Nat → Nat → Int64} {st : List Value} {a0 a1 a2 a3 : Option Value} : mWP tb_L_law Q 1076 [a0, a1, a2, a3] st ((T, c, s), I, L) = mWP tb_L_law Q 1077 [a0, a1, a2, a3] (.int 0 :: st) ((T, c, s), I, L) := mWP_eq mt_L_law _ _ _ _ _
set_option maxRecDepth 100000 in
theorem e_L_law_1077 {Q : mQo} {T : List mSh} {c s : Nat} {I : Nat → Nat → Int32} {L : Nat → Nat → Int64} {a0 a1 a2 a3 : Option Value} {x : Int32} : mWP tb_L_law Q 1077 [a0, a1, a2, a3] [.int x] ((T, c, s), I, L) = ((x = 0 ∨ x = 1) ∧ Q (some (.int x)) ((T, c, s), I, L)) := mWP_eq mt_L_law _ _ _ _ _
set_option maxRecDepth 100000 in
theorem e_L_law_1078 {Q : mQo} {T : List mSh} {c s : Nat} {I : Nat → Nat → Int32} {L : Nat → Nat → Int64} {st : List Value} {a0 a2 a3 : Option Value} {x : Nat} : mWP tb_L_law Q 1078 [a0, some (.ref x), a2, a3] st ((T, c, s), I, L) = mWP tb_L_law Q 1079 [a0, some (.ref x), a2, a3] (.ref x :: st) ((T, c, s), I, L) := mWP_eq mt_L_law _ _ _ _ _
set_option maxRecDepth 100000 in
theorem e_L_law_1078n {Q : mQo} {T : List mSh} {c s : Nat} {I : Nat → Nat → Int32} {L : Nat → Nat → Int64} {st : List Value} {a0 a2 a3 : Option Value} : mWP tb_L_law Q 1078 [a0, some .null, a2, a3] st ((T, c, s), I, L) = mWP tb_L_law Q 1079 [a0, some .null, a2, a3] (.null :: st) ((T, c, s), I, L) := mWP_eq mt_L_law _ _ _ _ _
set_option maxRecDepth 100000 in
theorem e_L_law_1079 {Q : mQo} {T : List mSh} {c s : Nat} {I : Nat → Nat → Int32} {L : Nat → Nat → Int64} {st : List Value} {a1 a2 a3 : Option Value} {x : Nat} : mWP tb_L_law Q 1079 [some (.ref x), a1, a2, a3] st ((T, c, s), I, L) = mWP tb_L_law Q 1080 [some (.ref x), a1, a2, a3] (.ref x :: st) ((T, c, s), I, L) := mWP_eq mt_L_law _ _ _ _ _
set_option maxRecDepth 100000 in
theorem e_L_law_1079n {Q : mQo} {T : List mSh} {c s : Nat} {I : Nat → Nat → Int32} {L : Nat → Nat → Int64} {st : List Value} {a1 a2 a3 : Option Value} : mWP tb_L_law Q 1079 [some .null, a1, a2, a3] st ((T, c, s), I, L) = mWP tb_L_law Q 1080 [some .null, a1, a2, a3] (.null :: st) ((T, c, s), I, L) := mWP_eq mt_L_law _ _ _ _ _
set_option maxRecDepth 100000 in
theorem e_L_law_1080 {Q : mQo} {T : List mSh} {c s : Nat} {I : Nat → Nat → Int32} {L : Nat → Nat → Int64} {st : List Value} {a0 a1 a2 : Option Value} {x : Int32} : mWP tb_L_law Q 1080 [a0, a1, a2, some (.int x)] st ((T, c, s), I, L) = mWP tb_L_law Q 1081 [a0, a1, a2, some (.int x)] (.int x :: st) ((T, c, s), I, L) := mWP_eq mt_L_law _ _ _ _ _
set_option maxRecDepth 100000 in
theorem e_L_law_1081 {Q : mQo} {T : List mSh} {c s : Nat} {I : Nat → Nat → Int32} {L : Nat → Nat → Int64} {st : List Value} {a0 a1 a2 a3 : Option Value} : mWP tb_L_law Q 1081 [a0, a1, a2, a3] st ((T, c, s), I, L) = mWP tb_L_law Q 1082 [a0, a1, a2, a3] (.int 1 :: st) ((T, c, s), I, L) := mWP_eq mt_L_law _ _ _ _ _
set_option maxRecDepth 100000 in
theorem e_L_law_1082 {Q : mQo} {T : List mSh} {c s : Nat} {I : Nat → Nat → Int32} {L : Nat → Nat → Int64} {st : List Value} {a0 a1 a2 a3 : Option Value} {x y : Int32} : mWP tb_L_law Q 1082 [a0, a1, a2, a3] (.int y :: .int x :: st) ((T, c, s), I, L) = mWP tb_L_law Q 1083 [a0, a1, a2, a3] (.int (x + y) :: st) ((T, c, s), I, L) := mWP_eq mt_L_law _ _ _ _ _
set_option maxRecDepth 100000 in
theorem e_L_law_1083 {Q : mQo} {T : List mSh} {c s : Nat} {I : Nat → Nat → Int32} {L : Nat → Nat → Int64} {st : List Value} {a0 a1 a2 a3 : Option Value} {x : Nat} {y : Int32} : mWP tb_L_law Q 1083 [a0, a1, a2, a3] (.int y :: .ref x :: st) ((T, c, s), I, L) = (mTg (T, c, s) x = 0 ∧ vp_in y (mLn (T, c, s) x) ∧ mWP tb_L_law Q 1084 [a0, a1, a2, a3] (.int (I x y.toNatClampNeg) :: st) ((T, c, s), I, L)) := mWP_eq mt_L_law _ _ _ _ _
set_option maxRecDepth 100000 in
theorem e_L_law_1084 {Q : mQo} {T : List mSh} {c s : Nat} {I : Nat → Nat → Int32} {L : Nat → Nat → Int64} {st : List Value} {a0 a1 a2 a3 : Option Value} {v0 : Int32} {o : Nat} : mWP tb_L_law Q 1084 [a0, a1, a2, a3] (.int v0 :: .ref o :: st) ((T, c, s), I, L) = (mTg (T, c, s) o = 13 ∧ (st.map Value.category).sum ≤ 8 ∧ C_X10_isStill [.ref o, .int v0] (mZr (T, c, s), I, L) (fun r h' => h'.1 = mZr (T, c, s) ∧ mWP tb_L_law Q 1087 [a0, a1, a2, a3] (r.toList ++ st) ((T, c, s), h'.2))) := (mWP_eq mt_L_law _ _ _ _ _).trans (eq_CV (Q := Q) 1 rfl)
set_option maxRecDepth 100000 in
theorem e_L_law_1087 {Q : mQo} {T : List mSh} {c s : Nat} {I : Nat → Nat → Int32} {L : Nat → Nat → Int64} {st : List Value} {a0 a1 a3 : Option Value} {x : Nat} : mWP tb_L_law Q 1087 [a0, a1, some (.ref x), a3] st ((T, c, s), I, L) = mWP tb_L_law Q 1088 [a0, a1, some (.ref x), a3] (.ref x :: st) ((T, c, s), I, L) := mWP_eq mt_L_law _ _ _ _ _
set_option maxRecDepth 100000 in
theorem e_L_law_1087n {Q : mQo} {T : List mSh} {c s : Nat} {I : Nat → Nat → Int32} {L : Nat → Nat → Int64} {st : List Value} {a0 a1 a3 : Option Value} : mWP tb_L_law Q 1087 [a0, a1, some .null, a3] st ((T, c, s), I, L) = mWP tb_L_law Q 1088 [a0, a1, some .null, a3] (.null :: st) ((T, c, s), I, L) := mWP_eq mt_L_law _ _ _ _ _
set_option maxRecDepth 100000 in
theorem e_L_law_1088 {Q : mQo} {T : List mSh} {c s : Nat} {I : Nat → Nat → Int32} {L : Nat → Nat → Int64} {st : List Value} {a1 a2 a3 : Option Value} {x : Nat} : mWP tb_L_law Q 1088 [some (.ref x), a1, a2, a3] st ((T, c, s), I, L) = mWP tb_L_law Q 1089 [some (.ref x), a1, a2, a3] (.ref x :: st) ((T, c, s), I, L) := mWP_eq mt_L_law _ _ _ _ _
set_option maxRecDepth 100000 in
theorem e_L_law_1088n {Q : mQo} {T : List mSh} {c s : Nat} {I : Nat → Nat → Int32} {L : Nat → Nat → Int64} {st : List Value} {a1 a2 a3 : Option Value} : mWP tb_L_law Q 1088 [some .null, a1, a2, a3] st ((T, c, s), I, L) = mWP tb_L_law Q 1089 [some .null, a1, a2, a3] (.null :: st) ((T, c, s), I, L) := mWP_eq mt_L_law _ _ _ _ _
set_option maxRecDepth 100000 in
theorem e_L_law_1089 {Q : mQo} {T : List mSh} {c s : Nat} {I : Nat → Nat → Int32} {L : Nat → Nat → Int64} {st : List Value} {a0 a1 a2 : Option Value} {x : Int32} : mWP tb_L_law Q 1089 [a0, a1, a2, some (.int x)] st ((T, c, s), I, L) = mWP tb_L_law Q 1090 [a0, a1, a2, some (.int x)] (.int x :: st) ((T, c, s), I, L) := mWP_eq mt_L_law _ _ _ _ _
set_option maxRecDepth 100000 in
theorem e_L_law_1090 {Q : mQo} {T : List mSh} {c s : Nat} {I : Nat → Nat → Int32} {L : Nat → Nat → Int64} {st : List Value} {a0 a1 a2 a3 : Option Value} : mWP tb_L_law Q 1090 [a0, a1, a2, a3] st ((T, c, s), I, L) = mWP tb_L_law Q 1091 [a0, a1, a2, a3] (.int 1 :: st) ((T, c, s), I, L) := mWP_eq mt_L_law _ _ _ _ _
set_option maxRecDepth 100000 in
theorem e_L_law_1091 {Q : mQo} {T : List mSh} {c s : Nat} {I : Nat → Nat → Int32} {L : Nat → Nat → Int64} {st : List Value} {a0 a1 a2 a3 : Option Value} {x y : Int32} : mWP tb_L_law Q 1091 [a0, a1, a2, a3] (.int y :: .int x :: st) ((T, c, s), I, L) = mWP tb_L_law Q 1092 [a0, a1, a2, a3] (.int (x + y) :: st) ((T, c, s), I, L) := mWP_eq mt_L_law _ _ _ _ _
set_option maxRecDepth 100000 in
theorem e_L_law_1092 {Q : mQo} {T : List mSh} {c s : Nat} {I : Nat → Nat → Int32} {L : Nat → Nat → Int64} {st : List Value} {a0 a1 a2 a3 : Option Value} {x : Nat} {y : Int32} : mWP tb_L_law Q 1092 [a0, a1, a2, a3] (.int y :: .ref x :: st) ((T, c, s), I, L) = (mTg (T, c, s) x = 0 ∧ vp_in y (mLn (T, c, s) x) ∧ mWP tb_L_law Q 1093 [a0, a1, a2, a3] (.int (I x y.toNatClampNeg) :: st) ((T, c, s), I, L)) := mWP_eq mt_L_law _ _ _ _ _
set_option maxRecDepth 100000 in
theorem e_L_law_1093 {Q : mQo} {T : List mSh} {c s : Nat} {I : Nat → Nat → Int32} {L : Nat → Nat → Int64} {st : List Value} {a0 a1 a2 a3 : Option Value} {v0 : Int32} {o : Nat} : mWP tb_L_law Q 1093 [a0, a1, a2, a3] (.int v0 :: .ref o :: st) ((T, c, s), I, L) = (mTg (T, c, s) o = 14 ∧ (st.map Value.category).sum ≤ 8 ∧ C_X11_isStill [.ref o, .int v0] (mZr (T, c, s), I, L) (fun r h' => h'.1 = mZr (T, c, s) ∧ mWP tb_L_law Q 1096 [a0, a1, a2, a3] (r.toList ++ st) ((T, c, s), h'.2))) := (mWP_eq mt_L_law _ _ _ _ _).trans (eq_CV (Q := Q) 1 rfl)
set_option maxRecDepth 100000 in
theorem e_L_law_1096 {Q : mQo} {T : List mSh} {c s : Nat} {I : Nat → Nat → Int32} {L : Nat → Nat → Int64} {st : List Value} {a0 a1 a2 a3 : Option Value} {x y : Int64} : mWP tb_L_law Q 1096 [a0, a1, a2, a3] (.long y :: .long x :: st) ((T, c, s), I, L) = mWP tb_L_law Q 1097 [a0, a1, a2, a3] (.int (lg_cmp x y) :: st) ((T, c, s), I, L) := mWP_eq mt_L_law _ _ _ _ _
set_option maxRecDepth 100000 in
theorem e_L_law_1097 {Q : mQo} {T : List mSh} {c s : Nat} {I : Nat → Nat → Int32} {L : Nat → Nat → Int64} {st : List Value} {a0 a1 a2 a3 : Option Value} {x : Int32} : mWP tb_L_law Q 1097 [a0, a1, a2, a3] (.int x :: st) ((T, c, s), I, L) = ((x = 0 → mWP tb_L_law Q 1460 [a0, a1, a2, a3] st ((T, c, s), I, L)) ∧ (¬ (x = 0) → mWP tb_L_law Q 1100 [a0, a1, a2, a3] st ((T, c, s), I, L))) := mWP_eq mt_L_law _ _ _ _ _
set_option maxRecDepth 100000 in
theorem e_L_law_1100 {Q : mQo} {T : List mSh} {c s : Nat} {I : Nat → Nat → Int32} {L : Nat → Nat → Int64} {st : List Value} {a0 a1 a2 a3 : Option Value} : mWP tb_L_law Q 1100 [a0, a1, a2, a3] st ((T, c, s), I, L) = mWP tb_L_law Q 1101 [a0, a1, a2, a3] (.int 0 :: st) ((T, c, s), I, L) := mWP_eq mt_L_law _ _ _ _ _
set_option maxRecDepth 100000 in
theorem e_L_law_1101 {Q : mQo} {T : List mSh} {c s : Nat} {I : Nat → Nat → Int32} {L : Nat → Nat → Int64} {a0 a1 a2 a3 : Option Value} {x : Int32} : mWP tb_L_law Q 1101 [a0, a1, a2, a3] [.int x] ((T, c, s), I, L) = ((x = 0 ∨ x = 1) ∧ Q (some (.int x)) ((T, c, s), I, L)) := mWP_eq mt_L_law _ _ _ _ _
set_option maxRecDepth 100000 in
theorem e_L_law_1102 {Q : mQo} {T : List mSh} {c s : Nat} {I : Nat → Nat → Int32} {L : Nat → Nat → Int64} {st : List Value} {a0 a2 a3 : Option Value} {x : Nat} : mWP tb_L_law Q 1102 [a0, some (.ref x), a2, a3] st ((T, c, s), I, L) = mWP tb_L_law Q 1103 [a0, some (.ref x), a2, a3] (.ref x :: st) ((T, c, s), I, L) := mWP_eq mt_L_law _ _ _ _ _
set_option maxRecDepth 100000 in
theorem e_L_law_1102n {Q : mQo} {T : List mSh} {c s : Nat} {I : Nat → Nat → Int32} {L : Nat → Nat → Int64} {st : List Value} {a0 a2 a3 : Option Value} : mWP tb_L_law Q 1102 [a0, some .null, a2, a3] st ((T, c, s), I, L) = mWP tb_L_law Q 1103 [a0, some .null, a2, a3] (.null :: st) ((T, c, s), I, L) := mWP_eq mt_L_law _ _ _ _ _
set_option maxRecDepth 100000 in
theorem e_L_law_1103 {Q : mQo} {T : List mSh} {c s : Nat} {I : Nat → Nat → Int32} {L : Nat → Nat → Int64} {st : List Value} {a1 a2 a3 : Option Value} {x : Nat} : mWP tb_L_law Q 1103 [some (.ref x), a1, a2, a3] st ((T, c, s), I, L) = mWP tb_L_law Q 1104 [some (.ref x), a1, a2, a3] (.ref x :: st) ((T, c, s), I, L) := mWP_eq mt_L_law _ _ _ _ _
set_option maxRecDepth 100000 in
theorem e_L_law_1103n {Q : mQo} {T : List mSh} {c s : Nat} {I : Nat → Nat → Int32} {L : Nat → Nat → Int64} {st : List Value} {a1 a2 a3 : Option Value} : mWP tb_L_law Q 1103 [some .null, a1, a2, a3] st ((T, c, s), I, L) = mWP tb_L_law Q 1104 [some .null, a1, a2, a3] (.null :: st) ((T, c, s), I, L) := mWP_eq mt_L_law _ _ _ _ _
set_option maxRecDepth 100000 in
theorem e_L_law_1104 {Q : mQo} {T : List mSh} {c s : Nat} {I : Nat → Nat → Int32} {L : Nat → Nat → Int64} {st : List Value} {a0 a1 a2 : Option Value} {x : Int32} : mWP tb_L_law Q 1104 [a0, a1, a2, some (.int x)] st ((T, c, s), I, L) = mWP tb_L_law Q 1105 [a0, a1, a2, some (.int x)] (.int x :: st) ((T, c, s), I, L) := mWP_eq mt_L_law _ _ _ _ _
set_option maxRecDepth 100000 in
theorem e_L_law_1105 {Q : mQo} {T : List mSh} {c s : Nat} {I : Nat → Nat → Int32} {L : Nat → Nat → Int64} {st : List Value} {a0 a1 a2 a3 : Option Value} : mWP tb_L_law Q 1105 [a0, a1, a2, a3] st ((T, c, s), I, L) = mWP tb_L_law Q 1106 [a0, a1, a2, a3] (.int 1 :: st) ((T, c, s), I, L) := mWP_eq mt_L_law _ _ _ _ _
set_option maxRecDepth 100000 in
theorem e_L_law_1106 {Q : mQo} {T : List mSh} {c s : Nat} {I : Nat → Nat → Int32} {L : Nat → Nat → Int64} {st : List Value} {a0 a1 a2 a3 : Option Value} {x y : Int32} : mWP tb_L_law Q 1106 [a0, a1, a2, a3] (.int y :: .int x :: st) ((T, c, s), I, L) = mWP tb_L_law Q 1107 [a0, a1, a2, a3] (.int (x + y) :: st) ((T, c, s), I, L) := mWP_eq mt_L_law _ _ _ _ _
set_option maxRecDepth 100000 in
theorem e_L_law_1107 {Q : mQo} {T : List mSh} {c s : Nat} {I : Nat → Nat → Int32} {L : Nat → Nat → Int64} {st : List Value} {a0 a1 a2 a3 : Option Value} {x : Nat} {y : Int32} : mWP tb_L_law Q 1107 [a0, a1, a2, a3] (.int y :: .ref x :: st) ((T, c, s), I, L) = (mTg (T, c, s) x = 0 ∧ vp_in y (mLn (T, c, s) x) ∧ mWP tb_L_law Q 1108 [a0, a1, a2, a3] (.int (I x y.toNatClampNeg) :: st) ((T, c, s), I, L)) := mWP_eq mt_L_law _ _ _ _ _
set_option maxRecDepth 100000 in
theorem e_L_law_1108 {Q : mQo} {T : List mSh} {c s : Nat} {I : Nat → Nat → Int32} {L : Nat → Nat → Int64} {st : List Value} {a0 a1 a2 a3 : Option Value} {v0 : Int32} {o : Nat} : mWP tb_L_law Q 1108 [a0, a1, a2, a3] (.int v0 :: .ref o :: st) ((T, c, s), I, L) = (mTg (T, c, s) o = 13 ∧ (st.map Value.category).sum ≤ 8 ∧ C_X10_lowest [.ref o, .int v0] (mZr (T, c, s), I, L) (fun r h' => h'.1 = mZr (T, c, s) ∧ mWP tb_L_law Q 1111 [a0, a1, a2, a3] (r.toList ++ st) ((T, c, s), h'.2))) := (mWP_eq mt_L_law _ _ _ _ _).trans (eq_CV (Q := Q) 1 rfl)
set_option maxRecDepth 100000 in
theorem e_L_law_1111 {Q : mQo} {T : List mSh} {c s : Nat} {I : Nat → Nat → Int32} {L : Nat → Nat → Int64} {st : List Value} {a0 a1 a3 : Option Value} {x : Nat} : mWP tb_L_law Q 1111 [a0, a1, some (.ref x), a3] st ((T, c, s), I, L) = mWP tb_L_law Q 1112 [a0, a1, some (.ref x), a3] (.ref x :: st) ((T, c, s), I, L) := mWP_eq mt_L_law _ _ _ _ _
set_option maxRecDepth 100000 in
theorem e_L_law_1111n {Q : mQo} {T : List mSh} {c s : Nat} {I : Nat → Nat → Int32} {L : Nat → Nat → Int64} {st : List Value} {a0 a1 a3 : Option Value} : mWP tb_L_law Q 1111 [a0, a1, some .null, a3] st ((T, c, s), I, L) = mWP tb_L_law Q 1112 [a0, a1, some .null, a3] (.null :: st) ((T, c, s), I, L) := mWP_eq mt_L_law _ _ _ _ _
set_option maxRecDepth 100000 in
theorem e_L_law_1112 {Q : mQo} {T : List mSh} {c s : Nat} {I : Nat → Nat → Int32} {L : Nat → Nat → Int64} {st : List Value} {a1 a2 a3 : Option Value} {x : Nat} : mWP tb_L_law Q 1112 [some (.ref x), a1, a2, a3] st ((T, c, s), I, L) = mWP tb_L_law Q 1113 [some (.ref x), a1, a2, a3] (.ref x :: st) ((T, c, s), I, L) := mWP_eq mt_L_law _ _ _ _ _
set_option maxRecDepth 100000 in
theorem e_L_law_1112n {Q : mQo} {T : List mSh} {c s : Nat} {I : Nat → Nat → Int32} {L : Nat → Nat → Int64} {st : List Value} {a1 a2 a3 : Option Value} : mWP tb_L_law Q 1112 [some .null, a1, a2, a3] st ((T, c, s), I, L) = mWP tb_L_law Q 1113 [some .null, a1, a2, a3] (.null :: st) ((T, c, s), I, L) := mWP_eq mt_L_law _ _ _ _ _
set_option maxRecDepth 100000 in
theorem e_L_law_1113 {Q : mQo} {T : List mSh} {c s : Nat} {I : Nat → Nat → Int32} {L : Nat → Nat → Int64} {st : List Value} {a0 a1 a2 : Option Value} {x : Int32} : mWP tb_L_law Q 1113 [a0, a1, a2, some (.int x)] st ((T, c, s), I, L) = mWP tb_L_law Q 1114 [a0, a1, a2, some (.int x)] (.int x :: st) ((T, c, s), I, L) := mWP_eq mt_L_law _ _ _ _ _
set_option maxRecDepth 100000 in
theorem e_L_law_1114 {Q : mQo} {T : List mSh} {c s : Nat} {I : Nat → Nat → Int32} {L : Nat → Nat → Int64} {st : List Value} {a0 a1 a2 a3 : Option Value} : mWP tb_L_law Q 1114 [a0, a1, a2, a3] st ((T, c, s), I, L) = mWP tb_L_law Q 1115 [a0, a1, a2, a3] (.int 1 :: st) ((T, c, s), I, L) := mWP_eq mt_L_law _ _ _ _ _
set_option maxRecDepth 100000 in
theorem e_L_law_1115 {Q : mQo} {T : List mSh} {c s : Nat} {I : Nat → Nat → Int32} {L : Nat → Nat → Int64} {st : List Value} {a0 a1 a2 a3 : Option Value} {x y : Int32} : mWP tb_L_law Q 1115 [a0, a1, a2, a3] (.int y :: .int x :: st) ((T, c, s), I, L) = mWP tb_L_law Q 1116 [a0, a1, a2, a3] (.int (x + y) :: st) ((T, c, s), I, L) := mWP_eq mt_L_law _ _ _ _ _
set_option maxRecDepth 100000 in
theorem e_L_law_1116 {Q : mQo} {T : List mSh} {c s : Nat} {I : Nat → Nat → Int32} {L : Nat → Nat → Int64} {st : List Value} {a0 a1 a2 a3 : Option Value} {x : Nat} {y : Int32} : mWP tb_L_law Q 1116 [a0, a1, a2, a3] (.int y :: .ref x :: st) ((T, c, s), I, L) = (mTg (T, c, s) x = 0 ∧ vp_in y (mLn (T, c, s) x) ∧ mWP tb_L_law Q 1117 [a0, a1, a2, a3] (.int (I x y.toNatClampNeg) :: st) ((T, c, s), I, L)) := mWP_eq mt_L_law _ _ _ _ _
set_option maxRecDepth 100000 in
theorem e_L_law_1117 {Q : mQo} {T : List mSh} {c s : Nat} {I : Nat → Nat → Int32} {L : Nat → Nat → Int64} {st : List Value} {a0 a1 a2 a3 : Option Value} {v0 : Int32} {o : Nat} : mWP tb_L_law Q 1117 [a0, a1, a2, a3] (.int v0 :: .ref o :: st) ((T, c, s), I, L) = (mTg (T, c, s) o = 14 ∧ (st.map Value.category).sum ≤ 8 ∧ C_X11_lowest [.ref o, .int v0] (mZr (T, c, s), I, L) (fun r h' => h'.1 = mZr (T, c, s) ∧ mWP tb_L_law Q 1120 [a0, a1, a2, a3] (r.toList ++ st) ((T, c, s), h'.2))) := (mWP_eq mt_L_law _ _ _ _ _).trans (eq_CV (Q := Q) 1 rfl)
set_option maxRecDepth 100000 in
theorem e_L_law_1120 {Q : mQo} {T : List mSh} {c s : Nat} {I : Nat → Nat → Int32} {L : Nat → Nat → Int64} {st : List Value} {a0 a1 a2 a3 : Option Value} {x y : Int64} : mWP tb_L_law Q 1120 [a0, a1, a2, a3] (.long y :: .long x :: st) ((T, c, s), I, L) = mWP tb_L_law Q 1121 [a0, a1, a2, a3] (.int (lg_cmp x y) :: st) ((T, c, s), I, L) := mWP_eq mt_L_law _ _ _ _ _
set_option maxRecDepth 100000 in
theorem e_L_law_1121 {Q : mQo} {T : List mSh} {c s : Nat} {I : Nat → Nat → Int32} {L : Nat → Nat → Int64} {st : List Value} {a0 a1 a2 a3 : Option Value} {x : Int32} : mWP tb_L_law Q 1121 [a0, a1, a2, a3] (.int x :: st) ((T, c, s), I, L) = ((x = 0 → mWP tb_L_law Q 1460 [a0, a1, a2, a3] st ((T, c, s), I, L)) ∧ (¬ (x = 0) → mWP tb_L_law Q 1124 [a0, a1, a2, a3] st ((T, c, s), I, L))) := mWP_eq mt_L_law _ _ _ _ _
set_option maxRecDepth 100000 in
theorem e_L_law_1124 {Q : mQo} {T : List mSh} {c s : Nat} {I : Nat → Nat → Int32} {L : Nat → Nat → Int64} {st : List Value} {a0 a1 a2 a3 : Option Value} : mWP tb_L_law Q 1124 [a0, a1, a2, a3] st ((T, c, s), I, L) = mWP tb_L_law Q 1125 [a0, a1, a2, a3] (.int 0 :: st) ((T, c, s), I, L) := mWP_eq mt_L_law _ _ _ _ _
set_option maxRecDepth 100000 in
theorem e_L_law_1125 {Q : mQo} {T : List mSh} {c s : Nat} {I : Nat → Nat → Int32} {L : Nat → Nat → Int64} {a0 a1 a2 a3 : Option Value} {x : Int32} : mWP tb_L_law Q 1125 [a0, a1, a2, a3] [.int x] ((T, c, s), I, L) = ((x = 0 ∨ x = 1) ∧ Q (some (.int x)) ((T, c, s), I, L)) := mWP_eq mt_L_law _ _ _ _ _
set_option maxRecDepth 100000 in
theorem e_L_law_1126 {Q : mQo} {T : List mSh} {c s : Nat} {I : Nat → Nat → Int32} {L : Nat → Nat → Int64} {st : List Value} {a0 a2 a3 : Option Value} {x : Nat} : mWP tb_L_law Q 1126 [a0, some (.ref x), a2, a3] st ((T, c, s), I, L) = mWP tb_L_law Q 1127 [a0, some (.ref x), a2, a3] (.ref x :: st) ((T, c, s), I, L) := mWP_eq mt_L_law _ _ _ _ _
set_option maxRecDepth 100000 in
theorem e_L_law_1126n {Q : mQo} {T : List mSh} {c s : Nat} {I : Nat → Nat → Int32} {L : Nat → Nat → Int64} {st : List Value} {a0 a2 a3 : Option Value} : mWP tb_L_law Q 1126 [a0, some .null, a2, a3] st ((T, c, s), I, L) = mWP tb_L_law Q 1127 [a0, some .null, a2, a3] (.null :: st) ((T, c, s), I, L) := mWP_eq mt_L_law _ _ _ _ _
set_option maxRecDepth 100000 in
theorem e_L_law_1127 {Q : mQo} {T : List mSh} {c s : Nat} {I : Nat → Nat → Int32} {L : Nat → Nat → Int64} {st : List Value} {a1 a2 a3 : Option Value} {x : Nat} : mWP tb_L_law Q 1127 [some (.ref x), a1, a2, a3] st ((T, c, s), I, L) = mWP tb_L_law Q 1128 [some (.ref x), a1, a2, a3] (.ref x :: st) ((T, c, s), I, L) := mWP_eq mt_L_law _ _ _ _ _
set_option maxRecDepth 100000 in
theorem e_L_law_1127n {Q : mQo} {T : List mSh} {c s : Nat} {I : Nat → Nat → Int32} {L : Nat → Nat → Int64} {st : List Value} {a1 a2 a3 : Option Value} : mWP tb_L_law Q 1127 [some .null, a1, a2, a3] st ((T, c, s), I, L) = mWP tb_L_law Q 1128 [some .null, a1, a2, a3] (.null :: st) ((T, c, s), I, L) := mWP_eq mt_L_law _ _ _ _ _
set_option maxRecDepth 100000 in
theorem e_L_law_1128 {Q : mQo} {T : List mSh} {c s : Nat} {I : Nat → Nat → Int32} {L : Nat → Nat → Int64} {st : List Value} {a0 a1 a2 : Option Value} {x : Int32} : mWP tb_L_law Q 1128 [a0, a1, a2, some (.int x)] st ((T, c, s), I, L) = mWP tb_L_law Q 1129 [a0, a1, a2, some (.int x)] (.int x :: st) ((T, c, s), I, L) := mWP_eq mt_L_law _ _ _ _ _
set_option maxRecDepth 100000 in
theorem e_L_law_1129 {Q : mQo} {T : List mSh} {c s : Nat} {I : Nat → Nat → Int32} {L : Nat → Nat → Int64} {st : List Value} {a0 a1 a2 a3 : Option Value} : mWP tb_L_law Q 1129 [a0, a1, a2, a3] st ((T, c, s), I, L) = mWP tb_L_law Q 1130 [a0, a1, a2, a3] (.int 1 :: st) ((T, c, s), I, L) := mWP_eq mt_L_law _ _ _ _ _
set_option maxRecDepth 100000 in
theorem e_L_law_1130 {Q : mQo} {T : List mSh} {c s : Nat} {I : Nat → Nat → Int32} {L : Nat → Nat → Int64} {st : List Value} {a0 a1 a2 a3 : Option Value} {x y : Int32} : mWP tb_L_law Q 1130 [a0, a1, a2, a3] (.int y :: .int x :: st) ((T, c, s), I, L) = mWP tb_L_law Q 1131 [a0, a1, a2, a3] (.int (x + y) :: st) ((T, c, s), I, L) := mWP_eq mt_L_law _ _ _ _ _
set_option maxRecDepth 100000 in
theorem e_L_law_1131 {Q : mQo} {T : List mSh} {c s : Nat} {I : Nat → Nat → Int32} {L : Nat → Nat → Int64} {st : List Value} {a0 a1 a2 a3 : Option Value} {x : Nat} {y : Int32} : mWP tb_L_law Q 1131 [a0, a1, a2, a3] (.int y :: .ref x :: st) ((T, c, s), I, L) = (mTg (T, c, s) x = 0 ∧ vp_in y (mLn (T, c, s) x) ∧ mWP tb_L_law Q 1132 [a0, a1, a2, a3] (.int (I x y.toNatClampNeg) :: st) ((T, c, s), I, L)) := mWP_eq mt_L_law _ _ _ _ _
set_option maxRecDepth 100000 in
theorem e_L_law_1132 {Q : mQo} {T : List mSh} {c s : Nat} {I : Nat → Nat → Int32} {L : Nat → Nat → Int64} {st : List Value} {a1 a2 a3 : Option Value} {x : Nat} : mWP tb_L_law Q 1132 [some (.ref x), a1, a2, a3] st ((T, c, s), I, L) = mWP tb_L_law Q 1133 [some (.ref x), a1, a2, a3] (.ref x :: st) ((T, c, s), I, L) := mWP_eq mt_L_law _ _ _ _ _
set_option maxRecDepth 100000 in
theorem e_L_law_1132n {Q : mQo} {T : List mSh} {c s : Nat} {I : Nat → Nat → Int32} {L : Nat → Nat → Int64} {st : List Value} {a1 a2 a3 : Option Value} : mWP tb_L_law Q 1132 [some .null, a1, a2, a3] st ((T, c, s), I, L) = mWP tb_L_law Q 1133 [some .null, a1, a2, a3] (.null :: st) ((T, c, s), I, L) := mWP_eq mt_L_law _ _ _ _ _
set_option maxRecDepth 100000 in
theorem e_L_law_1133 {Q : mQo} {T : List mSh} {c s : Nat} {I : Nat → Nat → Int32} {L : Nat → Nat → Int64} {st : List Value} {a0 a1 a2 : Option Value} {x : Int32} : mWP tb_L_law Q 1133 [a0, a1, a2, some (.int x)] st ((T, c, s), I, L) = mWP tb_L_law Q 1134 [a0, a1, a2, some (.int x)] (.int x :: st) ((T, c, s), I, L) := mWP_eq mt_L_law _ _ _ _ _
set_option maxRecDepth 100000 in
theorem e_L_law_1134 {Q : mQo} {T : List mSh} {c s : Nat} {I : Nat → Nat → Int32} {L : Nat → Nat → Int64} {st : List Value} {a0 a1 a2 a3 : Option Value} : mWP tb_L_law Q 1134 [a0, a1, a2, a3] st ((T, c, s), I, L) = mWP tb_L_law Q 1135 [a0, a1, a2, a3] (.int 2 :: st) ((T, c, s), I, L) := mWP_eq mt_L_law _ _ _ _ _
set_option maxRecDepth 100000 in
theorem e_L_law_1135 {Q : mQo} {T : List mSh} {c s : Nat} {I : Nat → Nat → Int32} {L : Nat → Nat → Int64} {st : List Value} {a0 a1 a2 a3 : Option Value} {x y : Int32} : mWP tb_L_law Q 1135 [a0, a1, a2, a3] (.int y :: .int x :: st) ((T, c, s), I, L) = mWP tb_L_law Q 1136 [a0, a1, a2, a3] (.int (x + y) :: st) ((T, c, s), I, L) := mWP_eq mt_L_law _ _ _ _ _
set_option maxRecDepth 100000 in
theorem e_L_law_1136 {Q : mQo} {T : List mSh} {c s : Nat} {I : Nat → Nat → Int32} {L : Nat → Nat → Int64} {st : List Value} {a0 a1 a2 a3 : Option Value} {x : Nat} {y : Int32} : mWP tb_L_law Q 1136 [a0, a1, a2, a3] (.int y :: .ref x :: st) ((T, c, s), I, L) = (mTg (T, c, s) x = 0 ∧ vp_in y (mLn (T, c, s) x) ∧ mWP tb_L_law Q 1137 [a0, a1, a2, a3] (.int (I x y.toNatClampNeg) :: st) ((T, c, s), I, L)) := mWP_eq mt_L_law _ _ _ _ _
set_option maxRecDepth 100000 in
theorem e_L_law_1137 {Q : mQo} {T : List mSh} {c s : Nat} {I : Nat → Nat → Int32} {L : Nat → Nat → Int64} {st : List Value} {a1 a2 a3 : Option Value} {x : Nat} : mWP tb_L_law Q 1137 [some (.ref x), a1, a2, a3] st ((T, c, s), I, L) = mWP tb_L_law Q 1138 [some (.ref x), a1, a2, a3] (.ref x :: st) ((T, c, s), I, L) := mWP_eq mt_L_law _ _ _ _ _
set_option maxRecDepth 100000 in
theorem e_L_law_1137n {Q : mQo} {T : List mSh} {c s : Nat} {I : Nat → Nat → Int32} {L : Nat → Nat → Int64} {st : List Value} {a1 a2 a3 : Option Value} : mWP tb_L_law Q 1137 [some .null, a1, a2, a3] st ((T, c, s), I, L) = mWP tb_L_law Q 1138 [some .null, a1, a2, a3] (.null :: st) ((T, c, s), I, L) := mWP_eq mt_L_law _ _ _ _ _
set_option maxRecDepth 100000 in
theorem e_L_law_1138 {Q : mQo} {T : List mSh} {c s : Nat} {I : Nat → Nat → Int32} {L : Nat → Nat → Int64} {st : List Value} {a0 a1 a2 : Option Value} {x : Int32} : mWP tb_L_law Q 1138 [a0, a1, a2, some (.int x)] st ((T, c, s), I, L) = mWP tb_L_law Q 1139 [a0, a1, a2, some (.int x)] (.int x :: st) ((T, c, s), I, L) := mWP_eq mt_L_law _ _ _ _ _
set_option maxRecDepth 100000 in
theorem e_L_law_1139 {Q : mQo} {T : List mSh} {c s : Nat} {I : Nat → Nat → Int32} {L : Nat → Nat → Int64} {st : List Value} {a0 a1 a2 a3 : Option Value} : mWP tb_L_law Q 1139 [a0, a1, a2, a3] st ((T, c, s), I, L) = mWP tb_L_law Q 1140 [a0, a1, a2, a3] (.int 3 :: st) ((T, c, s), I, L) := mWP_eq mt_L_law _ _ _ _ _
set_option maxRecDepth 100000 in
theorem e_L_law_1140 {Q : mQo} {T : List mSh} {c s : Nat} {I : Nat → Nat → Int32} {L : Nat → Nat → Int64} {st : List Value} {a0 a1 a2 a3 : Option Value} {x y : Int32} : mWP tb_L_law Q 1140 [a0, a1, a2, a3] (.int y :: .int x :: st) ((T, c, s), I, L) = mWP tb_L_law Q 1141 [a0, a1, a2, a3] (.int (x + y) :: st) ((T, c, s), I, L) := mWP_eq mt_L_law _ _ _ _ _
set_option maxRecDepth 100000 in
theorem e_L_law_1141 {Q : mQo} {T : List mSh} {c s : Nat} {I : Nat → Nat → Int32} {L : Nat → Nat → Int64} {st : List Value} {a0 a1 a2 a3 : Option Value} {x : Nat} {y : Int32} : mWP tb_L_law Q 1141 [a0, a1, a2, a3] (.int y :: .ref x :: st) ((T, c, s), I, L) = (mTg (T, c, s) x = 0 ∧ vp_in y (mLn (T, c, s) x) ∧ mWP tb_L_law Q 1142 [a0, a1, a2, a3] (.int (I x y.toNatClampNeg) :: st) ((T, c, s), I, L)) := mWP_eq mt_L_law _ _ _ _ _
set_option maxRecDepth 100000 in
theorem e_L_law_1142 {Q : mQo} {T : List mSh} {c s : Nat} {I : Nat → Nat → Int32} {L : Nat → Nat → Int64} {st : List Value} {a1 a2 a3 : Option Value} {x : Nat} : mWP tb_L_law Q 1142 [some (.ref x), a1, a2, a3] st ((T, c, s), I, L) = mWP tb_L_law Q 1143 [some (.ref x), a1, a2, a3] (.ref x :: st) ((T, c, s), I, L) := mWP_eq mt_L_law _ _ _ _ _
set_option maxRecDepth 100000 in
theorem e_L_law_1142n {Q : mQo} {T : List mSh} {c s : Nat} {I : Nat → Nat → Int32} {L : Nat → Nat → Int64} {st : List Value} {a1 a2 a3 : Option Value} : mWP tb_L_law Q 1142 [some .null, a1, a2, a3] st ((T, c, s), I, L) = mWP tb_L_law Q 1143 [some .null, a1, a2, a3] (.null :: st) ((T, c, s), I, L) := mWP_eq mt_L_law _ _ _ _ _
set_option maxRecDepth 100000 in
theorem e_L_law_1143 {Q : mQo} {T : List mSh} {c s : Nat} {I : Nat → Nat → Int32} {L : Nat → Nat → Int64} {st : List Value} {a0 a1 a2 : Option Value} {x : Int32} : mWP tb_L_law Q 1143 [a0, a1, a2, some (.int x)] st ((T, c, s), I, L) = mWP tb_L_law Q 1144 [a0, a1, a2, some (.int x)] (.int x :: st) ((T, c, s), I, L) := mWP_eq mt_L_law _ _ _ _ _
set_option maxRecDepth 100000 in
theorem e_L_law_1144 {Q : mQo} {T : List mSh} {c s : Nat} {I : Nat → Nat → Int32} {L : Nat → Nat → Int64} {st : List Value} {a0 a1 a2 a3 : Option Value} : mWP tb_L_law Q 1144 [a0, a1, a2, a3] st ((T, c, s), I, L) = mWP tb_L_law Q 1145 [a0, a1, a2, a3] (.int 4 :: st) ((T, c, s), I, L) := mWP_eq mt_L_law _ _ _ _ _
set_option maxRecDepth 100000 in
theorem e_L_law_1145 {Q : mQo} {T : List mSh} {c s : Nat} {I : Nat → Nat → Int32} {L : Nat → Nat → Int64} {st : List Value} {a0 a1 a2 a3 : Option Value} {x y : Int32} : mWP tb_L_law Q 1145 [a0, a1, a2, a3] (.int y :: .int x :: st) ((T, c, s), I, L) = mWP tb_L_law Q 1146 [a0, a1, a2, a3] (.int (x + y) :: st) ((T, c, s), I, L) := mWP_eq mt_L_law _ _ _ _ _
set_option maxRecDepth 100000 in
theorem e_L_law_1146 {Q : mQo} {T : List mSh} {c s : Nat} {I : Nat → Nat → Int32} {L : Nat → Nat → Int64} {st : List Value} {a0 a1 a2 a3 : Option Value} {x : Nat} {y : Int32} : mWP tb_L_law Q 1146 [a0, a1, a2, a3] (.int y :: .ref x :: st) ((T, c, s), I, L) = (mTg (T, c, s) x = 0 ∧ vp_in y (mLn (T, c, s) x) ∧ mWP tb_L_law Q 1147 [a0, a1, a2, a3] (.int (I x y.toNatClampNeg) :: st) ((T, c, s), I, L)) := mWP_eq mt_L_law _ _ _ _ _
set_option maxRecDepth 100000 in
theorem e_L_law_1147 {Q : mQo} {T : List mSh} {c s : Nat} {I : Nat → Nat → Int32} {L : Nat → Nat → Int64} {st : List Value} {a0 a1 a2 a3 : Option Value} {v0 : Int32} {v1 : Int32} {v2 : Int32} {v3 : Int32} {o : Nat} : mWP tb_L_law Q 1147 [a0, a1, a2, a3] (.int v3 :: .int v2 :: .int v1 :: .int v0 :: .ref o :: st) ((T, c, s), I, L) = (mTg (T, c, s) o = 13 ∧ (st.map Value.category).sum ≤ 8 ∧ C_X10_tick [.ref o, .int v0, .int v1, .int v2, .int v3] (mZr (T, c, s), I, L) (fun r h' => h'.1 = mZr (T, c, s) ∧ mWP tb_L_law Q 1150 [a0, a1, a2, a3] (r.toList ++ st) ((T, c, s), h'.2))) := (mWP_eq mt_L_law _ _ _ _ _).trans (eq_CV (Q := Q) 4 rfl)
set_option maxRecDepth 100000 in
theorem e_L_law_1150 {Q : mQo} {T : List mSh} {c s : Nat} {I : Nat → Nat → Int32} {L : Nat → Nat → Int64} {st : List Value} {a0 a1 a3 : Option Value} {x : Nat} : mWP tb_L_law Q 1150 [a0, a1, some (.ref x), a3] st ((T, c, s), I, L) = mWP tb_L_law Q 1151 [a0, a1, some (.ref x), a3] (.ref x :: st) ((T, c, s), I, L) := mWP_eq mt_L_law _ _ _ _ _
set_option maxRecDepth 100000 in
theorem e_L_law_1150n {Q : mQo} {T : List mSh} {c s : Nat} {I : Nat → Nat → Int32} {L : Nat → Nat → Int64} {st : List Value} {a0 a1 a3 : Option Value} : mWP tb_L_law Q 1150 [a0, a1, some .null, a3] st ((T, c, s), I, L) = mWP tb_L_law Q 1151 [a0, a1, some .null, a3] (.null :: st) ((T, c, s), I, L) := mWP_eq mt_L_law _ _ _ _ _
set_option maxRecDepth 100000 in
theorem e_L_law_1151 {Q : mQo} {T : List mSh} {c s : Nat} {I : Nat → Nat → Int32} {L : Nat → Nat → Int64} {st : List Value} {a1 a2 a3 : Option Value} {x : Nat} : mWP tb_L_law Q 1151 [some (.ref x), a1, a2, a3] st ((T, c, s), I, L) = mWP tb_L_law Q 1152 [some (.ref x), a1, a2, a3] (.ref x :: st) ((T, c, s), I, L) := mWP_eq mt_L_law _ _ _ _ _
set_option maxRecDepth 100000 in
theorem e_L_law_1151n {Q : mQo} {T : List mSh} {c s : Nat} {I : Nat → Nat → Int32} {L : Nat → Nat → Int64} {st : List Value} {a1 a2 a3 : Option Value} : mWP tb_L_law Q 1151 [some .null, a1, a2, a3] st ((T, c, s), I, L) = mWP tb_L_law Q 1152 [some .null, a1, a2, a3] (.null :: st) ((T, c, s), I, L) := mWP_eq mt_L_law _ _ _ _ _
set_option maxRecDepth 100000 in
theorem e_L_law_1152 {Q : mQo} {T : List mSh} {c s : Nat} {I : Nat → Nat → Int32} {L : Nat → Nat → Int64} {st : List Value} {a0 a1 a2 : Option Value} {x : Int32} : mWP tb_L_law Q 1152 [a0, a1, a2, some (.int x)] st ((T, c, s), I, L) = mWP tb_L_law Q 1153 [a0, a1, a2, some (.int x)] (.int x :: st) ((T, c, s), I, L) := mWP_eq mt_L_law _ _ _ _ _
set_option maxRecDepth 100000 in
theorem e_L_law_1153 {Q : mQo} {T : List mSh} {c s : Nat} {I : Nat → Nat → Int32} {L : Nat → Nat → Int64} {st : List Value} {a0 a1 a2 a3 : Option Value} : mWP tb_L_law Q 1153 [a0, a1, a2, a3] st ((T, c, s), I, L) = mWP tb_L_law Q 1154 [a0, a1, a2, a3] (.int 1 :: st) ((T, c, s), I, L) := mWP_eq mt_L_law _ _ _ _ _
set_option maxRecDepth 100000 in
theorem e_L_law_1154 {Q : mQo} {T : List mSh} {c s : Nat} {I : Nat → Nat → Int32} {L : Nat → Nat → Int64} {st : List Value} {a0 a1 a2 a3 : Option Value} {x y : Int32} : mWP tb_L_law Q 1154 [a0, a1, a2, a3] (.int y :: .int x :: st) ((T, c, s), I, L) = mWP tb_L_law Q 1155 [a0, a1, a2, a3] (.int (x + y) :: st) ((T, c, s), I, L) := mWP_eq mt_L_law _ _ _ _ _
set_option maxRecDepth 100000 in
theorem e_L_law_1155 {Q : mQo} {T : List mSh} {c s : Nat} {I : Nat → Nat → Int32} {L : Nat → Nat → Int64} {st : List Value} {a0 a1 a2 a3 : Option Value} {x : Nat} {y : Int32} : mWP tb_L_law Q 1155 [a0, a1, a2, a3] (.int y :: .ref x :: st) ((T, c, s), I, L) = (mTg (T, c, s) x = 0 ∧ vp_in y (mLn (T, c, s) x) ∧ mWP tb_L_law Q 1156 [a0, a1, a2, a3] (.int (I x y.toNatClampNeg) :: st) ((T, c, s), I, L)) := mWP_eq mt_L_law _ _ _ _ _
set_option maxRecDepth 100000 in
theorem e_L_law_1156 {Q : mQo} {T : List mSh} {c s : Nat} {I : Nat → Nat → Int32} {L : Nat → Nat → Int64} {st : List Value} {a1 a2 a3 : Option Value} {x : Nat} : mWP tb_L_law Q 1156 [some (.ref x), a1, a2, a3] st ((T, c, s), I, L) = mWP tb_L_law Q 1157 [some (.ref x), a1, a2, a3] (.ref x :: st) ((T, c, s), I, L) := mWP_eq mt_L_law _ _ _ _ _
set_option maxRecDepth 100000 in
theorem e_L_law_1156n {Q : mQo} {T : List mSh} {c s : Nat} {I : Nat → Nat → Int32} {L : Nat → Nat → Int64} {st : List Value} {a1 a2 a3 : Option Value} : mWP tb_L_law Q 1156 [some .null, a1, a2, a3] st ((T, c, s), I, L) = mWP tb_L_law Q 1157 [some .null, a1, a2, a3] (.null :: st) ((T, c, s), I, L) := mWP_eq mt_L_law _ _ _ _ _
set_option maxRecDepth 100000 in
theorem e_L_law_1157 {Q : mQo} {T : List mSh} {c s : Nat} {I : Nat → Nat → Int32} {L : Nat → Nat → Int64} {st : List Value} {a0 a1 a2 : Option Value} {x : Int32} : mWP tb_L_law Q 1157 [a0, a1, a2, some (.int x)] st ((T, c, s), I, L) = mWP tb_L_law Q 1158 [a0, a1, a2, some (.int x)] (.int x :: st) ((T, c, s), I, L) := mWP_eq mt_L_law _ _ _ _ _
set_option maxRecDepth 100000 in
theorem e_L_law_1158 {Q : mQo} {T : List mSh} {c s : Nat} {I : Nat → Nat → Int32} {L : Nat → Nat → Int64} {st : List Value} {a0 a1 a2 a3 : Option Value} : mWP tb_L_law Q 1158 [a0, a1, a2, a3] st ((T, c, s), I, L) = mWP tb_L_law Q 1159 [a0, a1, a2, a3] (.int 2 :: st) ((T, c, s), I, L) := mWP_eq mt_L_law _ _ _ _ _
set_option maxRecDepth 100000 in
theorem e_L_law_1159 {Q : mQo} {T : List mSh} {c s : Nat} {I : Nat → Nat → Int32} {L : Nat → Nat → Int64} {st : List Value} {a0 a1 a2 a3 : Option Value} {x y : Int32} : mWP tb_L_law Q 1159 [a0, a1, a2, a3] (.int y :: .int x :: st) ((T, c, s), I, L) = mWP tb_L_law Q 1160 [a0, a1, a2, a3] (.int (x + y) :: st) ((T, c, s), I, L) := mWP_eq mt_L_law _ _ _ _ _
set_option maxRecDepth 100000 in
theorem e_L_law_1160 {Q : mQo} {T : List mSh} {c s : Nat} {I : Nat → Nat → Int32} {L : Nat → Nat → Int64} {st : List Value} {a0 a1 a2 a3 : Option Value} {x : Nat} {y : Int32} : mWP tb_L_law Q 1160 [a0, a1, a2, a3] (.int y :: .ref x :: st) ((T, c, s), I, L) = (mTg (T, c, s) x = 0 ∧ vp_in y (mLn (T, c, s) x) ∧ mWP tb_L_law Q 1161 [a0, a1, a2, a3] (.int (I x y.toNatClampNeg) :: st) ((T, c, s), I, L)) := mWP_eq mt_L_law _ _ _ _ _
set_option maxRecDepth 100000 in
theorem e_L_law_1161 {Q : mQo} {T : List mSh} {c s : Nat} {I : Nat → Nat → Int32} {L : Nat → Nat → Int64} {st : List Value} {a1 a2 a3 : Option Value} {x : Nat} : mWP tb_L_law Q 1161 [some (.ref x), a1, a2, a3] st ((T, c, s), I, L) = mWP tb_L_law Q 1162 [some (.ref x), a1, a2, a3] (.ref x :: st) ((T, c, s), I, L) := mWP_eq mt_L_law _ _ _ _ _
set_option maxRecDepth 100000 in
theorem e_L_law_1161n {Q : mQo} {T : List mSh} {c s : Nat} {I : Nat → Nat → Int32} {L : Nat → Nat → Int64} {st : List Value} {a1 a2 a3 : Option Value} : mWP tb_L_law Q 1161 [some .null, a1, a2, a3] st ((T, c, s), I, L) = mWP tb_L_law Q 1162 [some .null, a1, a2, a3] (.null :: st) ((T, c, s), I, L) := mWP_eq mt_L_law _ _ _ _ _
set_option maxRecDepth 100000 in
theorem e_L_law_1162 {Q : mQo} {T : List mSh} {c s : Nat} {I : Nat → Nat → Int32} {L : Nat → Nat → Int64} {st : List Value} {a0 a1 a2 : Option Value} {x : Int32} : mWP tb_L_law Q 1162 [a0, a1, a2, some (.int x)] st ((T, c, s), I, L) = mWP tb_L_law Q 1163 [a0, a1, a2, some (.int x)] (.int x :: st) ((T, c, s), I, L) := mWP_eq mt_L_law _ _ _ _ _
set_option maxRecDepth 100000 in
theorem e_L_law_1163 {Q : mQo} {T : List mSh} {c s : Nat} {I : Nat → Nat → Int32} {L : Nat → Nat → Int64} {st : List Value} {a0 a1 a2 a3 : Option Value} : mWP tb_L_law Q 1163 [a0, a1, a2, a3] st ((T, c, s), I, L) = mWP tb_L_law Q 1164 [a0, a1, a2, a3] (.int 3 :: st) ((T, c, s), I, L) := mWP_eq mt_L_law _ _ _ _ _
set_option maxRecDepth 100000 in
theorem e_L_law_1164 {Q : mQo} {T : List mSh} {c s : Nat} {I : Nat → Nat → Int32} {L : Nat → Nat → Int64} {st : List Value} {a0 a1 a2 a3 : Option Value} {x y : Int32} : mWP tb_L_law Q 1164 [a0, a1, a2, a3] (.int y :: .int x :: st) ((T, c, s), I, L) = mWP tb_L_law Q 1165 [a0, a1, a2, a3] (.int (x + y) :: st) ((T, c, s), I, L) := mWP_eq mt_L_law _ _ _ _ _
set_option maxRecDepth 100000 in
theorem e_L_law_1165 {Q : mQo} {T : List mSh} {c s : Nat} {I : Nat → Nat → Int32} {L : Nat → Nat → Int64} {st : List Value} {a0 a1 a2 a3 : Option Value} {x : Nat} {y : Int32} : mWP tb_L_law Q 1165 [a0, a1, a2, a3] (.int y :: .ref x :: st) ((T, c, s), I, L) = (mTg (T, c, s) x = 0 ∧ vp_in y (mLn (T, c, s) x) ∧ mWP tb_L_law Q 1166 [a0, a1, a2, a3] (.int (I x y.toNatClampNeg) :: st) ((T, c, s), I, L)) := mWP_eq mt_L_law _ _ _ _ _
set_option maxRecDepth 100000 in
theorem e_L_law_1166 {Q : mQo} {T : List mSh} {c s : Nat} {I : Nat → Nat → Int32} {L : Nat → Nat → Int64} {st : List Value} {a1 a2 a3 : Option Value} {x : Nat} : mWP tb_L_law Q 1166 [some (.ref x), a1, a2, a3] st ((T, c, s), I, L) = mWP tb_L_law Q 1167 [some (.ref x), a1, a2, a3] (.ref x :: st) ((T, c, s), I, L) := mWP_eq mt_L_law _ _ _ _ _
set_option maxRecDepth 100000 in
theorem e_L_law_1166n {Q : mQo} {T : List mSh} {c s : Nat} {I : Nat → Nat → Int32} {L : Nat → Nat → Int64} {st : List Value} {a1 a2 a3 : Option Value} : mWP tb_L_law Q 1166 [some .null, a1, a2, a3] st ((T, c, s), I, L) = mWP tb_L_law Q 1167 [some .null, a1, a2, a3] (.null :: st) ((T, c, s), I, L) := mWP_eq mt_L_law _ _ _ _ _
set_option maxRecDepth 100000 in
theorem e_L_law_1167 {Q : mQo} {T : List mSh} {c s : Nat} {I : Nat → Nat → Int32} {L : Nat → Nat → Int64} {st : List Value} {a0 a1 a2 : Option Value} {x : Int32} : mWP tb_L_law Q 1167 [a0, a1, a2, some (.int x)] st ((T, c, s), I, L) = mWP tb_L_law Q 1168 [a0, a1, a2, some (.int x)] (.int x :: st) ((T, c, s), I, L) := mWP_eq mt_L_law _ _ _ _ _
set_option maxRecDepth 100000 in
theorem e_L_law_1168 {Q : mQo} {T : List mSh} {c s : Nat} {I : Nat → Nat → Int32} {L : Nat → Nat → Int64} {st : List Value} {a0 a1 a2 a3 : Option Value} : mWP tb_L_law Q 1168 [a0, a1, a2, a3] st ((T, c, s), I, L) = mWP tb_L_law Q 1169 [a0, a1, a2, a3] (.int 4 :: st) ((T, c, s), I, L) := mWP_eq mt_L_law _ _ _ _ _
set_option maxRecDepth 100000 in
theorem e_L_law_1169 {Q : mQo} {T : List mSh} {c s : Nat} {I : Nat → Nat → Int32} {L : Nat → Nat → Int64} {st : List Value} {a0 a1 a2 a3 : Option Value} {x y : Int32} : mWP tb_L_law Q 1169 [a0, a1, a2, a3] (.int y :: .int x :: st) ((T, c, s), I, L) = mWP tb_L_law Q 1170 [a0, a1, a2, a3] (.int (x + y) :: st) ((T, c, s), I, L) := mWP_eq mt_L_law _ _ _ _ _
set_option maxRecDepth 100000 in
theorem e_L_law_1170 {Q : mQo} {T : List mSh} {c s : Nat} {I : Nat → Nat → Int32} {L : Nat → Nat → Int64} {st : List Value} {a0 a1 a2 a3 : Option Value} {x : Nat} {y : Int32} : mWP tb_L_law Q 1170 [a0, a1, a2, a3] (.int y :: .ref x :: st) ((T, c, s), I, L) = (mTg (T, c, s) x = 0 ∧ vp_in y (mLn (T, c, s) x) ∧ mWP tb_L_law Q 1171 [a0, a1, a2, a3] (.int (I x y.toNatClampNeg) :: st) ((T, c, s), I, L)) := mWP_eq mt_L_law _ _ _ _ _
set_option maxRecDepth 100000 in
theorem e_L_law_1171 {Q : mQo} {T : List mSh} {c s : Nat} {I : Nat → Nat → Int32} {L : Nat → Nat → Int64} {st : List Value} {a0 a1 a2 a3 : Option Value} {v0 : Int32} {v1 : Int32} {v2 : Int32} {v3 : Int32} {o : Nat} : mWP tb_L_law Q 1171 [a0, a1, a2, a3] (.int v3 :: .int v2 :: .int v1 :: .int v0 :: .ref o :: st) ((T, c, s), I, L) = (mTg (T, c, s) o = 14 ∧ (st.map Value.category).sum ≤ 8 ∧ C_X11_tick [.ref o, .int v0, .int v1, .int v2, .int v3] (mZr (T, c, s), I, L) (fun r h' => h'.1 = mZr (T, c, s) ∧ mWP tb_L_law Q 1174 [a0, a1, a2, a3] (r.toList ++ st) ((T, c, s), h'.2))) := (mWP_eq mt_L_law _ _ _ _ _).trans (eq_CV (Q := Q) 4 rfl)
set_option maxRecDepth 100000 in
theorem e_L_law_1174 {Q : mQo} {T : List mSh} {c s : Nat} {I : Nat → Nat → Int32} {L : Nat → Nat → Int64} {st : List Value} {a0 a1 a2 a3 : Option Value} {x y : Int64} : mWP tb_L_law Q 1174 [a0, a1, a2, a3] (.long y :: .long x :: st) ((T, c, s), I, L) = mWP tb_L_law Q 1175 [a0, a1, a2, a3] (.int (lg_cmp x y) :: st) ((T, c, s), I, L) := mWP_eq mt_L_law _ _ _ _ _
set_option maxRecDepth 100000 in
theorem e_L_law_1175 {Q : mQo} {T : List mSh} {c s : Nat} {I : Nat → Nat → Int32} {L : Nat → Nat → Int64} {st : List Value} {a0 a1 a2 a3 : Option Value} {x : Int32} : mWP tb_L_law Q 1175 [a0, a1, a2, a3] (.int x :: st) ((T, c, s), I, L) = ((x = 0 → mWP tb_L_law Q 1460 [a0, a1, a2, a3] st ((T, c, s), I, L)) ∧ (¬ (x = 0) → mWP tb_L_law Q 1178 [a0, a1, a2, a3] st ((T, c, s), I, L))) := mWP_eq mt_L_law _ _ _ _ _
set_option maxRecDepth 100000 in
theorem e_L_law_1178 {Q : mQo} {T : List mSh} {c s : Nat} {I : Nat → Nat → Int32} {L : Nat → Nat → Int64} {st : List Value} {a0 a1 a2 a3 : Option Value} : mWP tb_L_law Q 1178 [a0, a1, a2, a3] st ((T, c, s), I, L) = mWP tb_L_law Q 1179 [a0, a1, a2, a3] (.int 0 :: st) ((T, c, s), I, L) := mWP_eq mt_L_law _ _ _ _ _
set_option maxRecDepth 100000 in
theorem e_L_law_1179 {Q : mQo} {T : List mSh} {c s : Nat} {I : Nat → Nat → Int32} {L : Nat → Nat → Int64} {a0 a1 a2 a3 : Option Value} {x : Int32} : mWP tb_L_law Q 1179 [a0, a1, a2, a3] [.int x] ((T, c, s), I, L) = ((x = 0 ∨ x = 1) ∧ Q (some (.int x)) ((T, c, s), I, L)) := mWP_eq mt_L_law _ _ _ _ _
set_option maxRecDepth 100000 in
theorem e_L_law_1180 {Q : mQo} {T : List mSh} {c s : Nat} {I : Nat → Nat → Int32} {L : Nat → Nat → Int64} {st : List Value} {a0 a2 a3 : Option Value} {x : Nat} : mWP tb_L_law Q 1180 [a0, some (.ref x), a2, a3] st ((T, c, s), I, L) = mWP tb_L_law Q 1181 [a0, some (.ref x), a2, a3] (.ref x :: st) ((T, c, s), I, L) := mWP_eq mt_L_law _ _ _ _ _
set_option maxRecDepth 100000 in
theorem e_L_law_1180n {Q : mQo} {T : List mSh} {c s : Nat} {I : Nat → Nat → Int32} {L : Nat → Nat → Int64} {st : List Value} {a0 a2 a3 : Option Value} : mWP tb_L_law Q 1180 [a0, some .null, a2, a3] st ((T, c, s), I, L) = mWP tb_L_law Q 1181 [a0, some .null, a2, a3] (.null :: st) ((T, c, s), I, L) := mWP_eq mt_L_law _ _ _ _ _
set_option maxRecDepth 100000 in
theorem e_L_law_1181 {Q : mQo} {T : List mSh} {c s : Nat} {I : Nat → Nat → Int32} {L : Nat → Nat → Int64} {st : List Value} {a1 a2 a3 : Option Value} {x : Nat} : mWP tb_L_law Q 1181 [some (.ref x), a1, a2, a3] st ((T, c, s), I, L) = mWP tb_L_law Q 1182 [some (.ref x), a1, a2, a3] (.ref x :: st) ((T, c, s), I, L) := mWP_eq mt_L_law _ _ _ _ _
set_option maxRecDepth 100000 in
theorem e_L_law_1181n {Q : mQo} {T : List mSh} {c s : Nat} {I : Nat → Nat → Int32} {L : Nat → Nat → Int64} {st : List Value} {a1 a2 a3 : Option Value} : mWP tb_L_law Q 1181 [some .null, a1, a2, a3] st ((T, c, s), I, L) = mWP tb_L_law Q 1182 [some .null, a1, a2, a3] (.null :: st) ((T, c, s), I, L) := mWP_eq mt_L_law _ _ _ _ _
set_option maxRecDepth 100000 in
theorem e_L_law_1182 {Q : mQo} {T : List mSh} {c s : Nat} {I : Nat → Nat → Int32} {L : Nat → Nat → Int64} {st : List Value} {a0 a1 a2 : Option Value} {x : Int32} : mWP tb_L_law Q 1182 [a0, a1, a2, some (.int x)] st ((T, c, s), I, L) = mWP tb_L_law Q 1183 [a0, a1, a2, some (.int x)] (.int x :: st) ((T, c, s), I, L) := mWP_eq mt_L_law _ _ _ _ _
set_option maxRecDepth 100000 in
theorem e_L_law_1183 {Q : mQo} {T : List mSh} {c s : Nat} {I : Nat → Nat → Int32} {L : Nat → Nat → Int64} {st : List Value} {a0 a1 a2 a3 : Option Value} : mWP tb_L_law Q 1183 [a0, a1, a2, a3] st ((T, c, s), I, L) = mWP tb_L_law Q 1184 [a0, a1, a2, a3] (.int 1 :: st) ((T, c, s), I, L) := mWP_eq mt_L_law _ _ _ _ _
set_option maxRecDepth 100000 in
theorem e_L_law_1184 {Q : mQo} {T : List mSh} {c s : Nat} {I : Nat → Nat → Int32} {L : Nat → Nat → Int64} {st : List Value} {a0 a1 a2 a3 : Option Value} {x y : Int32} : mWP tb_L_law Q 1184 [a0, a1, a2, a3] (.int y :: .int x :: st) ((T, c, s), I, L) = mWP tb_L_law Q 1185 [a0, a1, a2, a3] (.int (x + y) :: st) ((T, c, s), I, L) := mWP_eq mt_L_law _ _ _ _ _
set_option maxRecDepth 100000 in
theorem e_L_law_1185 {Q : mQo} {T : List mSh} {c s : Nat} {I : Nat → Nat → Int32} {L : Nat → Nat → Int64} {st : List Value} {a0 a1 a2 a3 : Option Value} {x : Nat} {y : Int32} : mWP tb_L_law Q 1185 [a0, a1, a2, a3] (.int y :: .ref x :: st) ((T, c, s), I, L) = (mTg (T, c, s) x = 0 ∧ vp_in y (mLn (T, c, s) x) ∧ mWP tb_L_law Q 1186 [a0, a1, a2, a3] (.int (I x y.toNatClampNeg) :: st) ((T, c, s), I, L)) := mWP_eq mt_L_law _ _ _ _ _
set_option maxRecDepth 100000 in
theorem e_L_law_1186 {Q : mQo} {T : List mSh} {c s : Nat} {I : Nat → Nat → Int32} {L : Nat → Nat → Int64} {st : List Value} {a0 a1 a2 a3 : Option Value} {v0 : Int32} {o : Nat} : mWP tb_L_law Q 1186 [a0, a1, a2, a3] (.int v0 :: .ref o :: st) ((T, c, s), I, L) = (mTg (T, c, s) o = 13 ∧ (st.map Value.category).sum ≤ 8 ∧ C_X10_calm [.ref o, .int v0] (mZr (T, c, s), I, L) (fun r h' => h'.1 = mZr (T, c, s) ∧ mWP tb_L_law Q 1189 [a0, a1, a2, a3] (r.toList ++ st) ((T, c, s), h'.2))) := (mWP_eq mt_L_law _ _ _ _ _).trans (eq_CV (Q := Q) 1 rfl)
set_option maxRecDepth 100000 in
theorem e_L_law_1189 {Q : mQo} {T : List mSh} {c s : Nat} {I : Nat → Nat → Int32} {L : Nat → Nat → Int64} {st : List Value} {a0 a1 a3 : Option Value} {x : Nat} : mWP tb_L_law Q 1189 [a0, a1, some (.ref x), a3] st ((T, c, s), I, L) = mWP tb_L_law Q 1190 [a0, a1, some (.ref x), a3] (.ref x :: st) ((T, c, s), I, L) := mWP_eq mt_L_law _ _ _ _ _
set_option maxRecDepth 100000 in
theorem e_L_law_1189n {Q : mQo} {T : List mSh} {c s : Nat} {I : Nat → Nat → Int32} {L : Nat → Nat → Int64} {st : List Value} {a0 a1 a3 : Option Value} : mWP tb_L_law Q 1189 [a0, a1, some .null, a3] st ((T, c, s), I, L) = mWP tb_L_law Q 1190 [a0, a1, some .null, a3] (.null :: st) ((T, c, s), I, L) := mWP_eq mt_L_law _ _ _ _ _
set_option maxRecDepth 100000 in
theorem e_L_law_1190 {Q : mQo} {T : List mSh} {c s : Nat} {I : Nat → Nat → Int32} {L : Nat → Nat → Int64} {st : List Value} {a1 a2 a3 : Option Value} {x : Nat} : mWP tb_L_law Q 1190 [some (.ref x), a1, a2, a3] st ((T, c, s), I, L) = mWP tb_L_law Q 1191 [some (.ref x), a1, a2, a3] (.ref x :: st) ((T, c, s), I, L) := mWP_eq mt_L_law _ _ _ _ _
set_option maxRecDepth 100000 in
theorem e_L_law_1190n {Q : mQo} {T : List mSh} {c s : Nat} {I : Nat → Nat → Int32} {L : Nat → Nat → Int64} {st : List Value} {a1 a2 a3 : Option Value} : mWP tb_L_law Q 1190 [some .null, a1, a2, a3] st ((T, c, s), I, L) = mWP tb_L_law Q 1191 [some .null, a1, a2, a3] (.null :: st) ((T, c, s), I, L) := mWP_eq mt_L_law _ _ _ _ _
set_option maxRecDepth 100000 in
theorem e_L_law_1191 {Q : mQo} {T : List mSh} {c s : Nat} {I : Nat → Nat → Int32} {L : Nat → Nat → Int64} {st : List Value} {a0 a1 a2 : Option Value} {x : Int32} : mWP tb_L_law Q 1191 [a0, a1, a2, some (.int x)] st ((T, c, s), I, L) = mWP tb_L_law Q 1192 [a0, a1, a2, some (.int x)] (.int x :: st) ((T, c, s), I, L) := mWP_eq mt_L_law _ _ _ _ _
set_option maxRecDepth 100000 in
theorem e_L_law_1192 {Q : mQo} {T : List mSh} {c s : Nat} {I : Nat → Nat → Int32} {L : Nat → Nat → Int64} {st : List Value} {a0 a1 a2 a3 : Option Value} : mWP tb_L_law Q 1192 [a0, a1, a2, a3] st ((T, c, s), I, L) = mWP tb_L_law Q 1193 [a0, a1, a2, a3] (.int 1 :: st) ((T, c, s), I, L) := mWP_eq mt_L_law _ _ _ _ _
set_option maxRecDepth 100000 in
theorem e_L_law_1193 {Q : mQo} {T : List mSh} {c s : Nat} {I : Nat → Nat → Int32} {L : Nat → Nat → Int64} {st : List Value} {a0 a1 a2 a3 : Option Value} {x y : Int32} : mWP tb_L_law Q 1193 [a0, a1, a2, a3] (.int y :: .int x :: st) ((T, c, s), I, L) = mWP tb_L_law Q 1194 [a0, a1, a2, a3] (.int (x + y) :: st) ((T, c, s), I, L) := mWP_eq mt_L_law _ _ _ _ _
set_option maxRecDepth 100000 in
theorem e_L_law_1194 {Q : mQo} {T : List mSh} {c s : Nat} {I : Nat → Nat → Int32} {L : Nat → Nat → Int64} {st : List Value} {a0 a1 a2 a3 : Option Value} {x : Nat} {y : Int32} : mWP tb_L_law Q 1194 [a0, a1, a2, a3] (.int y :: .ref x :: st) ((T, c, s), I, L) = (mTg (T, c, s) x = 0 ∧ vp_in y (mLn (T, c, s) x) ∧ mWP tb_L_law Q 1195 [a0, a1, a2, a3] (.int (I x y.toNatClampNeg) :: st) ((T, c, s), I, L)) := mWP_eq mt_L_law _ _ _ _ _
set_option maxRecDepth 100000 in
theorem e_L_law_1195 {Q : mQo} {T : List mSh} {c s : Nat} {I : Nat → Nat → Int32} {L : Nat → Nat → Int64} {st : List Value} {a0 a1 a2 a3 : Option Value} {v0 : Int32} {o : Nat} : mWP tb_L_law Q 1195 [a0, a1, a2, a3] (.int v0 :: .ref o :: st) ((T, c, s), I, L) = (mTg (T, c, s) o = 14 ∧ (st.map Value.category).sum ≤ 8 ∧ C_X11_calm [.ref o, .int v0] (mZr (T, c, s), I, L) (fun r h' => h'.1 = mZr (T, c, s) ∧ mWP tb_L_law Q 1198 [a0, a1, a2, a3] (r.toList ++ st) ((T, c, s), h'.2))) := (mWP_eq mt_L_law _ _ _ _ _).trans (eq_CV (Q := Q) 1 rfl)
set_option maxRecDepth 100000 in
theorem e_L_law_1198 {Q : mQo} {T : List mSh} {c s : Nat} {I : Nat → Nat → Int32} {L : Nat → Nat → Int64} {st : List Value} {a0 a1 a2 a3 : Option Value} {x y : Int64} : mWP tb_L_law Q 1198 [a0, a1, a2, a3] (.long y :: .long x :: st) ((T, c, s), I, L) = mWP tb_L_law Q 1199 [a0, a1, a2, a3] (.int (lg_cmp x y) :: st) ((T, c, s), I, L) := mWP_eq mt_L_law _ _ _ _ _
set_option maxRecDepth 100000 in
theorem e_L_law_1199 {Q : mQo} {T : List mSh} {c s : Nat} {I : Nat → Nat → Int32} {L : Nat → Nat → Int64} {st : List Value} {a0 a1 a2 a3 : Option Value} {x : Int32} : mWP tb_L_law Q 1199 [a0, a1, a2, a3] (.int x :: st) ((T, c, s), I, L) = ((x = 0 → mWP tb_L_law Q 1460 [a0, a1, a2, a3] st ((T, c, s), I, L)) ∧ (¬ (x = 0) → mWP tb_L_law Q 1202 [a0, a1, a2, a3] st ((T, c, s), I, L))) := mWP_eq mt_L_law _ _ _ _ _
set_option maxRecDepth 100000 in
theorem e_L_law_1202 {Q : mQo} {T : List mSh} {c s : Nat} {I : Nat → Nat → Int32} {L : Nat → Nat → Int64} {st : List Value} {a0 a1 a2 a3 : Option Value} : mWP tb_L_law Q 1202 [a0, a1, a2, a3] st ((T, c, s), I, L) = mWP tb_L_law Q 1203 [a0, a1, a2, a3] (.int 0 :: st) ((T, c, s), I, L) := mWP_eq mt_L_law _ _ _ _ _
set_option maxRecDepth 100000 in
theorem e_L_law_1203 {Q : mQo} {T : List mSh} {c s : Nat} {I : Nat → Nat → Int32} {L : Nat → Nat → Int64} {a0 a1 a2 a3 : Option Value} {x : Int32} : mWP tb_L_law Q 1203 [a0, a1, a2, a3] [.int x] ((T, c, s), I, L) = ((x = 0 ∨ x = 1) ∧ Q (some (.int x)) ((T, c, s), I, L)) := mWP_eq mt_L_law _ _ _ _ _
set_option maxRecDepth 100000 in
theorem e_L_law_1204 {Q : mQo} {T : List mSh} {c s : Nat} {I : Nat → Nat → Int32} {L : Nat → Nat → Int64} {st : List Value} {a0 a2 a3 : Option Value} {x : Nat} : mWP tb_L_law Q 1204 [a0, some (.ref x), a2, a3] st ((T, c, s), I, L) = mWP tb_L_law Q 1205 [a0, some (.ref x), a2, a3] (.ref x :: st) ((T, c, s), I, L) := mWP_eq mt_L_law _ _ _ _ _
set_option maxRecDepth 100000 in
theorem e_L_law_1204n {Q : mQo} {T : List mSh} {c s : Nat} {I : Nat → Nat → Int32} {L : Nat → Nat → Int64} {st : List Value} {a0 a2 a3 : Option Value} : mWP tb_L_law Q 1204 [a0, some .null, a2, a3] st ((T, c, s), I, L) = mWP tb_L_law Q 1205 [a0, some .null, a2, a3] (.null :: st) ((T, c, s), I, L) := mWP_eq mt_L_law _ _ _ _ _
set_option maxRecDepth 100000 in
theorem e_L_law_1205 {Q : mQo} {T : List mSh} {c s : Nat} {I : Nat → Nat → Int32} {L : Nat → Nat → Int64} {st : List Value} {a1 a2 a3 : Option Value} {x : Nat} : mWP tb_L_law Q 1205 [some (.ref x), a1, a2, a3] st ((T, c, s), I, L) = mWP tb_L_law Q 1206 [some (.ref x), a1, a2, a3] (.ref x :: st) ((T, c, s), I, L) := mWP_eq mt_L_law _ _ _ _ _
set_option maxRecDepth 100000 in
theorem e_L_law_1205n {Q : mQo} {T : List mSh} {c s : Nat} {I : Nat → Nat → Int32} {L : Nat → Nat → Int64} {st : List Value} {a1 a2 a3 : Option Value} : mWP tb_L_law Q 1205 [some .null, a1, a2, a3] st ((T, c, s), I, L) = mWP tb_L_law Q 1206 [some .null, a1, a2, a3] (.null :: st) ((T, c, s), I, L) := mWP_eq mt_L_law _ _ _ _ _
set_option maxRecDepth 100000 in
theorem e_L_law_1206 {Q : mQo} {T : List mSh} {c s : Nat} {I : Nat → Nat → Int32} {L : Nat → Nat → Int64} {st : List Value} {a0 a1 a2 : Option Value} {x : Int32} : mWP tb_L_law Q 1206 [a0, a1, a2, some (.int x)] st ((T, c, s), I, L) = mWP tb_L_law Q 1207 [a0, a1, a2, some (.int x)] (.int x :: st) ((T, c, s), I, L) := mWP_eq mt_L_law _ _ _ _ _
set_option maxRecDepth 100000 in
theorem e_L_law_1207 {Q : mQo} {T : List mSh} {c s : Nat} {I : Nat → Nat → Int32} {L : Nat → Nat → Int64} {st : List Value} {a0 a1 a2 a3 : Option Value} : mWP tb_L_law Q 1207 [a0, a1, a2, a3] st ((T, c, s), I, L) = mWP tb_L_law Q 1208 [a0, a1, a2, a3] (.int 1 :: st) ((T, c, s), I, L) := mWP_eq mt_L_law _ _ _ _ _
set_option maxRecDepth 100000 in
theorem e_L_law_1208 {Q : mQo} {T : List mSh} {c s : Nat} {I : Nat → Nat → Int32} {L : Nat → Nat → Int64} {st : List Value} {a0 a1 a2 a3 : Option Value} {x y : Int32} : mWP tb_L_law Q 1208 [a0, a1, a2, a3] (.int y :: .int x :: st) ((T, c, s), I, L) = mWP tb_L_law Q 1209 [a0, a1, a2, a3] (.int (x + y) :: st) ((T, c, s), I, L) := mWP_eq mt_L_law _ _ _ _ _
set_option maxRecDepth 100000 in
theorem e_L_law_1209 {Q : mQo} {T : List mSh} {c s : Nat} {I : Nat → Nat → Int32} {L : Nat → Nat → Int64} {st : List Value} {a0 a1 a2 a3 : Option Value} {x : Nat} {y : Int32} : mWP tb_L_law Q 1209 [a0, a1, a2, a3] (.int y :: .ref x :: st) ((T, c, s), I, L) = (mTg (T, c, s) x = 0 ∧ vp_in y (mLn (T, c, s) x) ∧ mWP tb_L_law Q 1210 [a0, a1, a2, a3] (.int (I x y.toNatClampNeg) :: st) ((T, c, s), I, L)) := mWP_eq mt_L_law _ _ _ _ _
set_option maxRecDepth 100000 in
theorem e_L_law_1210 {Q : mQo} {T : List mSh} {c s : Nat} {I : Nat → Nat → Int32} {L : Nat → Nat → Int64} {st : List Value} {a1 a2 a3 : Option Value} {x : Nat} : mWP tb_L_law Q 1210 [some (.ref x), a1, a2, a3] st ((T, c, s), I, L) = mWP tb_L_law Q 1211 [some (.ref x), a1, a2, a3] (.ref x :: st) ((T, c, s), I, L) := mWP_eq mt_L_law _ _ _ _ _
set_option maxRecDepth 100000 in
theorem e_L_law_1210n {Q : mQo} {T : List mSh} {c s : Nat} {I : Nat → Nat → Int32} {L : Nat → Nat → Int64} {st : List Value} {a1 a2 a3 : Option Value} : mWP tb_L_law Q 1210 [some .null, a1, a2, a3] st ((T, c, s), I, L) = mWP tb_L_law Q 1211 [some .null, a1, a2, a3] (.null :: st) ((T, c, s), I, L) := mWP_eq mt_L_law _ _ _ _ _
set_option maxRecDepth 100000 in
theorem e_L_law_1211 {Q : mQo} {T : List mSh} {c s : Nat} {I : Nat → Nat → Int32} {L : Nat → Nat → Int64} {st : List Value} {a0 a1 a2 : Option Value} {x : Int32} : mWP tb_L_law Q 1211 [a0, a1, a2, some (.int x)] st ((T, c, s), I, L) = mWP tb_L_law Q 1212 [a0, a1, a2, some (.int x)] (.int x :: st) ((T, c, s), I, L) := mWP_eq mt_L_law _ _ _ _ _
set_option maxRecDepth 100000 in
theorem e_L_law_1212 {Q : mQo} {T : List mSh} {c s : Nat} {I : Nat → Nat → Int32} {L : Nat → Nat → Int64} {st : List Value} {a0 a1 a2 a3 : Option Value} : mWP tb_L_law Q 1212 [a0, a1, a2, a3] st ((T, c, s), I, L) = mWP tb_L_law Q 1213 [a0, a1, a2, a3] (.int 2 :: st) ((T, c, s), I, L) := mWP_eq mt_L_law _ _ _ _ _
set_option maxRecDepth 100000 in
theorem e_L_law_1213 {Q : mQo} {T : List mSh} {c s : Nat} {I : Nat → Nat → Int32} {L : Nat → Nat → Int64} {st : List Value} {a0 a1 a2 a3 : Option Value} {x y : Int32} : mWP tb_L_law Q 1213 [a0, a1, a2, a3] (.int y :: .int x :: st) ((T, c, s), I, L) = mWP tb_L_law Q 1214 [a0, a1, a2, a3] (.int (x + y) :: st) ((T, c, s), I, L) := mWP_eq mt_L_law _ _ _ _ _
set_option maxRecDepth 100000 in
theorem e_L_law_1214 {Q : mQo} {T : List mSh} {c s : Nat} {I : Nat → Nat → Int32} {L : Nat → Nat → Int64} {st : List Value} {a0 a1 a2 a3 : Option Value} {x : Nat} {y : Int32} : mWP tb_L_law Q 1214 [a0, a1, a2, a3] (.int y :: .ref x :: st) ((T, c, s), I, L) = (mTg (T, c, s) x = 0 ∧ vp_in y (mLn (T, c, s) x) ∧ mWP tb_L_law Q 1215 [a0, a1, a2, a3] (.int (I x y.toNatClampNeg) :: st) ((T, c, s), I, L)) := mWP_eq mt_L_law _ _ _ _ _
set_option maxRecDepth 100000 in
theorem e_L_law_1215 {Q : mQo} {T : List mSh} {c s : Nat} {I : Nat → Nat → Int32} {L : Nat → Nat → Int64} {st : List Value} {a0 a1 a2 a3 : Option Value} {v0 : Int32} {v1 : Int32} {o : Nat} : mWP tb_L_law Q 1215 [a0, a1, a2, a3] (.int v1 :: .int v0 :: .ref o :: st) ((T, c, s), I, L) = (mTg (T, c, s) o = 13 ∧ (st.map Value.category).sum ≤ 8 ∧ C_X10_play [.ref o, .int v0, .int v1] (mZr (T, c, s), I, L) (fun r h' => h'.1 = mZr (T, c, s) ∧ mWP tb_L_law Q 1218 [a0, a1, a2, a3] (r.toList ++ st) ((T, c, s), h'.2))) := (mWP_eq mt_L_law _ _ _ _ _).trans (eq_CV (Q := Q) 2 rfl)
set_option maxRecDepth 100000 in
theorem e_L_law_1218 {Q : mQo} {T : List mSh} {c s : Nat} {I : Nat → Nat → Int32} {L : Nat → Nat → Int64} {st : List Value} {a0 a1 a3 : Option Value} {x : Nat} : mWP tb_L_law Q 1218 [a0, a1, some (.ref x), a3] st ((T, c, s), I, L) = mWP tb_L_law Q 1219 [a0, a1, some (.ref x), a3] (.ref x :: st) ((T, c, s), I, L) := mWP_eq mt_L_law _ _ _ _ _
set_option maxRecDepth 100000 in
theorem e_L_law_1218n {Q : mQo} {T : List mSh} {c s : Nat} {I : Nat → Nat → Int32} {L : Nat → Nat → Int64} {st : List Value} {a0 a1 a3 : Option Value} : mWP tb_L_law Q 1218 [a0, a1, some .null, a3] st ((T, c, s), I, L) = mWP tb_L_law Q 1219 [a0, a1, some .null, a3] (.null :: st) ((T, c, s), I, L) := mWP_eq mt_L_law _ _ _ _ _
set_option maxRecDepth 100000 in
theorem e_L_law_1219 {Q : mQo} {T : List mSh} {c s : Nat} {I : Nat → Nat → Int32} {L : Nat → Nat → Int64} {st : List Value} {a1 a2 a3 : Option Value} {x : Nat} : mWP tb_L_law Q 1219 [some (.ref x), a1, a2, a3] st ((T, c, s), I, L) = mWP tb_L_law Q 1220 [some (.ref x), a1, a2, a3] (.ref x :: st) ((T, c, s), I, L) := mWP_eq mt_L_law _ _ _ _ _
set_option maxRecDepth 100000 in
theorem e_L_law_1219n {Q : mQo} {T : List mSh} {c s : Nat} {I : Nat → Nat → Int32} {L : Nat → Nat → Int64} {st : List Value} {a1 a2 a3 : Option Value} : mWP tb_L_law Q 1219 [some .null, a1, a2, a3] st ((T, c, s), I, L) = mWP tb_L_law Q 1220 [some .null, a1, a2, a3] (.null :: st) ((T, c, s), I, L) := mWP_eq mt_L_law _ _ _ _ _
set_option maxRecDepth 100000 in
theorem e_L_law_1220 {Q : mQo} {T : List mSh} {c s : Nat} {I : Nat → Nat → Int32} {L : Nat → Nat → Int64} {st : List Value} {a0 a1 a2 : Option Value} {x : Int32} : mWP tb_L_law Q 1220 [a0, a1, a2, some (.int x)] st ((T, c, s), I, L) = mWP tb_L_law Q 1221 [a0, a1, a2, some (.int x)] (.int x :: st) ((T, c, s), I, L) := mWP_eq mt_L_law _ _ _ _ _
set_option maxRecDepth 100000 in
theorem e_L_law_1221 {Q : mQo} {T : List mSh} {c s : Nat} {I : Nat → Nat → Int32} {L : Nat → Nat → Int64} {st : List Value} {a0 a1 a2 a3 : Option Value} : mWP tb_L_law Q 1221 [a0, a1, a2, a3] st ((T, c, s), I, L) = mWP tb_L_law Q 1222 [a0, a1, a2, a3] (.int 1 :: st) ((T, c, s), I, L) := mWP_eq mt_L_law _ _ _ _ _
set_option maxRecDepth 100000 in
theorem e_L_law_1222 {Q : mQo} {T : List mSh} {c s : Nat} {I : Nat → Nat → Int32} {L : Nat → Nat → Int64} {st : List Value} {a0 a1 a2 a3 : Option Value} {x y : Int32} : mWP tb_L_law Q 1222 [a0, a1, a2, a3] (.int y :: .int x :: st) ((T, c, s), I, L) = mWP tb_L_law Q 1223 [a0, a1, a2, a3] (.int (x + y) :: st) ((T, c, s), I, L) := mWP_eq mt_L_law _ _ _ _ _
set_option maxRecDepth 100000 in
theorem e_L_law_1223 {Q : mQo} {T : List mSh} {c s : Nat} {I : Nat → Nat → Int32} {L : Nat → Nat → Int64} {st : List Value} {a0 a1 a2 a3 : Option Value} {x : Nat} {y : Int32} : mWP tb_L_law Q 1223 [a0, a1, a2, a3] (.int y :: .ref x :: st) ((T, c, s), I, L) = (mTg (T, c, s) x = 0 ∧ vp_in y (mLn (T, c, s) x) ∧ mWP tb_L_law Q 1224 [a0, a1, a2, a3] (.int (I x y.toNatClampNeg) :: st) ((T, c, s), I, L)) := mWP_eq mt_L_law _ _ _ _ _
set_option maxRecDepth 100000 in
theorem e_L_law_1224 {Q : mQo} {T : List mSh} {c s : Nat} {I : Nat → Nat → Int32} {L : Nat → Nat → Int64} {st : List Value} {a1 a2 a3 : Option Value} {x : Nat} : mWP tb_L_law Q 1224 [some (.ref x), a1, a2, a3] st ((T, c, s), I, L) = mWP tb_L_law Q 1225 [some (.ref x), a1, a2, a3] (.ref x :: st) ((T, c, s), I, L) := mWP_eq mt_L_law _ _ _ _ _
set_option maxRecDepth 100000 in
theorem e_L_law_1224n {Q : mQo} {T : List mSh} {c s : Nat} {I : Nat → Nat → Int32} {L : Nat → Nat → Int64} {st : List Value} {a1 a2 a3 : Option Value} : mWP tb_L_law Q 1224 [some .null, a1, a2, a3] st ((T, c, s), I, L) = mWP tb_L_law Q 1225 [some .null, a1, a2, a3] (.null :: st) ((T, c, s), I, L) := mWP_eq mt_L_law _ _ _ _ _
set_option maxRecDepth 100000 in
theorem e_L_law_1225 {Q : mQo} {T : List mSh} {c s : Nat} {I : Nat → Nat → Int32} {L : Nat → Nat → Int64} {st : List Value} {a0 a1 a2 : Option Value} {x : Int32} : mWP tb_L_law Q 1225 [a0, a1, a2, some (.int x)] st ((T, c, s), I, L) = mWP tb_L_law Q 1226 [a0, a1, a2, some (.int x)] (.int x :: st) ((T, c, s), I, L) := mWP_eq mt_L_law _ _ _ _ _
set_option maxRecDepth 100000 in
theorem e_L_law_1226 {Q : mQo} {T : List mSh} {c s : Nat} {I : Nat → Nat → Int32} {L : Nat → Nat → Int64} {st : List Value} {a0 a1 a2 a3 : Option Value} : mWP tb_L_law Q 1226 [a0, a1, a2, a3] st ((T, c, s), I, L) = mWP tb_L_law Q 1227 [a0, a1, a2, a3] (.int 2 :: st) ((T, c, s), I, L) := mWP_eq mt_L_law _ _ _ _ _
set_option maxRecDepth 100000 in
theorem e_L_law_1227 {Q : mQo} {T : List mSh} {c s : Nat} {I : Nat → Nat → Int32} {L : Nat → Nat → Int64} {st : List Value} {a0 a1 a2 a3 : Option Value} {x y : Int32} : mWP tb_L_law Q 1227 [a0, a1, a2, a3] (.int y :: .int x :: st) ((T, c, s), I, L) = mWP tb_L_law Q 1228 [a0, a1, a2, a3] (.int (x + y) :: st) ((T, c, s), I, L) := mWP_eq mt_L_law _ _ _ _ _
set_option maxRecDepth 100000 in
theorem e_L_law_1228 {Q : mQo} {T : List mSh} {c s : Nat} {I : Nat → Nat → Int32} {L : Nat → Nat → Int64} {st : List Value} {a0 a1 a2 a3 : Option Value} {x : Nat} {y : Int32} : mWP tb_L_law Q 1228 [a0, a1, a2, a3] (.int y :: .ref x :: st) ((T, c, s), I, L) = (mTg (T, c, s) x = 0 ∧ vp_in y (mLn (T, c, s) x) ∧ mWP tb_L_law Q 1229 [a0, a1, a2, a3] (.int (I x y.toNatClampNeg) :: st) ((T, c, s), I, L)) := mWP_eq mt_L_law _ _ _ _ _
set_option maxRecDepth 100000 in
theorem e_L_law_1229 {Q : mQo} {T : List mSh} {c s : Nat} {I : Nat → Nat → Int32} {L : Nat → Nat → Int64} {st : List Value} {a0 a1 a2 a3 : Option Value} {v0 : Int32} {v1 : Int32} {o : Nat} : mWP tb_L_law Q 1229 [a0, a1, a2, a3] (.int v1 :: .int v0 :: .ref o :: st) ((T, c, s), I, L) = (mTg (T, c, s) o = 14 ∧ (st.map Value.category).sum ≤ 8 ∧ C_X11_play [.ref o, .int v0, .int v1] (mZr (T, c, s), I, L) (fun r h' => h'.1 = mZr (T, c, s) ∧ mWP tb_L_law Q 1232 [a0, a1, a2, a3] (r.toList ++ st) ((T, c, s), h'.2))) := (mWP_eq mt_L_law _ _ _ _ _).trans (eq_CV (Q := Q) 2 rfl)
set_option maxRecDepth 100000 in
theorem e_L_law_1232 {Q : mQo} {T : List mSh} {c s : Nat} {I : Nat → Nat → Int32} {L : Nat → Nat → Int64} {st : List Value} {a0 a1 a2 a3 : Option Value} {x y : Int64} : mWP tb_L_law Q 1232 [a0, a1, a2, a3] (.long y :: .long x :: st) ((T, c, s), I, L) = mWP tb_L_law Q 1233 [a0, a1, a2, a3] (.int (lg_cmp x y) :: st) ((T, c, s), I, L) := mWP_eq mt_L_law _ _ _ _ _
set_option maxRecDepth 100000 in
theorem e_L_law_1233 {Q : mQo} {T : List mSh} {c s : Nat} {I : Nat → Nat → Int32} {L : Nat → Nat → Int64} {st : List Value} {a0 a1 a2 a3 : Option Value} {x : Int32} : mWP tb_L_law Q 1233 [a0, a1, a2, a3] (.int x :: st) ((T, c, s), I, L) = ((x = 0 → mWP tb_L_law Q 1460 [a0, a1, a2, a3] st ((T, c, s), I, L)) ∧ (¬ (x = 0) → mWP tb_L_law Q 1236 [a0, a1, a2, a3] st ((T, c, s), I, L))) := mWP_eq mt_L_law _ _ _ _ _
set_option maxRecDepth 100000 in
theorem e_L_law_1236 {Q : mQo} {T : List mSh} {c s : Nat} {I : Nat → Nat → Int32} {L : Nat → Nat → Int64} {st : List Value} {a0 a1 a2 a3 : Option Value} : mWP tb_L_law Q 1236 [a0, a1, a2, a3] st ((T, c, s), I, L) = mWP tb_L_law Q 1237 [a0, a1, a2, a3] (.int 0 :: st) ((T, c, s), I, L) := mWP_eq mt_L_law _ _ _ _ _
set_option maxRecDepth 100000 in
theorem e_L_law_1237 {Q : mQo} {T : List mSh} {c s : Nat} {I : Nat → Nat → Int32} {L : Nat → Nat → Int64} {a0 a1 a2 a3 : Option Value} {x : Int32} : mWP tb_L_law Q 1237 [a0, a1, a2, a3] [.int x] ((T, c, s), I, L) = ((x = 0 ∨ x = 1) ∧ Q (some (.int x)) ((T, c, s), I, L)) := mWP_eq mt_L_law _ _ _ _ _
set_option maxRecDepth 100000 in
theorem e_L_law_1238 {Q : mQo} {T : List mSh} {c s : Nat} {I : Nat → Nat → Int32} {L : Nat → Nat → Int64} {st : List Value} {a0 a2 a3 : Option Value} {x : Nat} : mWP tb_L_law Q 1238 [a0, some (.ref x), a2, a3] st ((T, c, s), I, L) = mWP tb_L_law Q 1239 [a0, some (.ref x), a2, a3] (.ref x :: st) ((T, c, s), I, L) := mWP_eq mt_L_law _ _ _ _ _
set_option maxRecDepth 100000 in
theorem e_L_law_1238n {Q : mQo} {T : List mSh} {c s : Nat} {I : Nat → Nat → Int32} {L : Nat → Nat → Int64} {st : List Value} {a0 a2 a3 : Option Value} : mWP tb_L_law Q 1238 [a0, some .null, a2, a3] st ((T, c, s), I, L) = mWP tb_L_law Q 1239 [a0, some .null, a2, a3] (.null :: st) ((T, c, s), I, L) := mWP_eq mt_L_law _ _ _ _ _
set_option maxRecDepth 100000 in
theorem e_L_law_1239 {Q : mQo} {T : List mSh} {c s : Nat} {I : Nat → Nat → Int32} {L : Nat → Nat → Int64} {st : List Value} {a1 a2 a3 : Option Value} {x : Nat} : mWP tb_L_law Q 1239 [some (.ref x), a1, a2, a3] st ((T, c, s), I, L) = mWP tb_L_law Q 1240 [some (.ref x), a1, a2, a3] (.ref x :: st) ((T, c, s), I, L) := mWP_eq mt_L_law _ _ _ _ _
set_option maxRecDepth 100000 in
theorem e_L_law_1239n {Q : mQo} {T : List mSh} {c s : Nat} {I : Nat → Nat → Int32} {L : Nat → Nat → Int64} {st : List Value} {a1 a2 a3 : Option Value} : mWP tb_L_law Q 1239 [some .null, a1, a2, a3] st ((T, c, s), I, L) = mWP tb_L_law Q 1240 [some .null, a1, a2, a3] (.null :: st) ((T, c, s), I, L) := mWP_eq mt_L_law _ _ _ _ _
set_option maxRecDepth 100000 in
theorem e_L_law_1240 {Q : mQo} {T : List mSh} {c s : Nat} {I : Nat → Nat → Int32} {L : Nat → Nat → Int64} {st : List Value} {a0 a1 a2 : Option Value} {x : Int32} : mWP tb_L_law Q 1240 [a0, a1, a2, some (.int x)] st ((T, c, s), I, L) = mWP tb_L_law Q 1241 [a0, a1, a2, some (.int x)] (.int x :: st) ((T, c, s), I, L) := mWP_eq mt_L_law _ _ _ _ _
set_option maxRecDepth 100000 in
theorem e_L_law_1241 {Q : mQo} {T : List mSh} {c s : Nat} {I : Nat → Nat → Int32} {L : Nat → Nat → Int64} {st : List Value} {a0 a1 a2 a3 : Option Value} : mWP tb_L_law Q 1241 [a0, a1, a2, a3] st ((T, c, s), I, L) = mWP tb_L_law Q 1242 [a0, a1, a2, a3] (.int 1 :: st) ((T, c, s), I, L) := mWP_eq mt_L_law _ _ _ _ _
set_option maxRecDepth 100000 in
theorem e_L_law_1242 {Q : mQo} {T : List mSh} {c s : Nat} {I : Nat → Nat → Int32} {L : Nat → Nat → Int64} {st : List Value} {a0 a1 a2 a3 : Option Value} {x y : Int32} : mWP tb_L_law Q 1242 [a0, a1, a2, a3] (.int y :: .int x :: st) ((T, c, s), I, L) = mWP tb_L_law Q 1243 [a0, a1, a2, a3] (.int (x + y) :: st) ((T, c, s), I, L) := mWP_eq mt_L_law _ _ _ _ _
set_option maxRecDepth 100000 in
theorem e_L_law_1243 {Q : mQo} {T : List mSh} {c s : Nat} {I : Nat → Nat → Int32} {L : Nat → Nat → Int64} {st : List Value} {a0 a1 a2 a3 : Option Value} {x : Nat} {y : Int32} : mWP tb_L_law Q 1243 [a0, a1, a2, a3] (.int y :: .ref x :: st) ((T, c, s), I, L) = (mTg (T, c, s) x = 0 ∧ vp_in y (mLn (T, c, s) x) ∧ mWP tb_L_law Q 1244 [a0, a1, a2, a3] (.int (I x y.toNatClampNeg) :: st) ((T, c, s), I, L)) := mWP_eq mt_L_law _ _ _ _ _
set_option maxRecDepth 100000 in
theorem e_L_law_1244 {Q : mQo} {T : List mSh} {c s : Nat} {I : Nat → Nat → Int32} {L : Nat → Nat → Int64} {st : List Value} {a1 a2 a3 : Option Value} {x : Nat} : mWP tb_L_law Q 1244 [some (.ref x), a1, a2, a3] st ((T, c, s), I, L) = mWP tb_L_law Q 1245 [some (.ref x), a1, a2, a3] (.ref x :: st) ((T, c, s), I, L) := mWP_eq mt_L_law _ _ _ _ _
set_option maxRecDepth 100000 in
theorem e_L_law_1244n {Q : mQo} {T : List mSh} {c s : Nat} {I : Nat → Nat → Int32} {L : Nat → Nat → Int64} {st : List Value} {a1 a2 a3 : Option Value} : mWP tb_L_law Q 1244 [some .null, a1, a2, a3] st ((T, c, s), I, L) = mWP tb_L_law Q 1245 [some .null, a1, a2, a3] (.null :: st) ((T, c, s), I, L) := mWP_eq mt_L_law _ _ _ _ _
set_option maxRecDepth 100000 in
theorem e_L_law_1245 {Q : mQo} {T : List mSh} {c s : Nat} {I : Nat → Nat → Int32} {L : Nat → Nat → Int64} {st : List Value} {a0 a1 a2 : Option Value} {x : Int32} : mWP tb_L_law Q 1245 [a0, a1, a2, some (.int x)] st ((T, c, s), I, L) = mWP tb_L_law Q 1246 [a0, a1, a2, some (.int x)] (.int x :: st) ((T, c, s), I, L) := mWP_eq mt_L_law _ _ _ _ _
set_option maxRecDepth 100000 in
theorem e_L_law_1246 {Q : mQo} {T : List mSh} {c s : Nat} {I : Nat → Nat → Int32} {L : Nat → Nat → Int64} {st : List Value} {a0 a1 a2 a3 : Option Value} : mWP tb_L_law Q 1246 [a0, a1, a2, a3] st ((T, c, s), I, L) = mWP tb_L_law Q 1247 [a0, a1, a2, a3] (.int 2 :: st) ((T, c, s), I, L) := mWP_eq mt_L_law _ _ _ _ _
set_option maxRecDepth 100000 in
theorem e_L_law_1247 {Q : mQo} {T : List mSh} {c s : Nat} {I : Nat → Nat → Int32} {L : Nat → Nat → Int64} {st : List Value} {a0 a1 a2 a3 : Option Value} {x y : Int32} : mWP tb_L_law Q 1247 [a0, a1, a2, a3] (.int y :: .int x :: st) ((T, c, s), I, L) = mWP tb_L_law Q 1248 [a0, a1, a2, a3] (.int (x + y) :: st) ((T, c, s), I, L) := mWP_eq mt_L_law _ _ _ _ _
set_option maxRecDepth 100000 in
theorem e_L_law_1248 {Q : mQo} {T : List mSh} {c s : Nat} {I : Nat → Nat → Int32} {L : Nat → Nat → Int64} {st : List Value} {a0 a1 a2 a3 : Option Value} {x : Nat} {y : Int32} : mWP tb_L_law Q 1248 [a0, a1, a2, a3] (.int y :: .ref x :: st) ((T, c, s), I, L) = (mTg (T, c, s) x = 0 ∧ vp_in y (mLn (T, c, s) x) ∧ mWP tb_L_law Q 1249 [a0, a1, a2, a3] (.int (I x y.toNatClampNeg) :: st) ((T, c, s), I, L)) := mWP_eq mt_L_law _ _ _ _ _
set_option maxRecDepth 100000 in
theorem e_L_law_1249 {Q : mQo} {T : List mSh} {c s : Nat} {I : Nat → Nat → Int32} {L : Nat → Nat → Int64} {st : List Value} {a1 a2 a3 : Option Value} {x : Nat} : mWP tb_L_law Q 1249 [some (.ref x), a1, a2, a3] st ((T, c, s), I, L) = mWP tb_L_law Q 1250 [some (.ref x), a1, a2, a3] (.ref x :: st) ((T, c, s), I, L) := mWP_eq mt_L_law _ _ _ _ _
set_option maxRecDepth 100000 in
theorem e_L_law_1249n {Q : mQo} {T : List mSh} {c s : Nat} {I : Nat → Nat → Int32} {L : Nat → Nat → Int64} {st : List Value} {a1 a2 a3 : Option Value} : mWP tb_L_law Q 1249 [some .null, a1, a2, a3] st ((T, c, s), I, L) = mWP tb_L_law Q 1250 [some .null, a1, a2, a3] (.null :: st) ((T, c, s), I, L) := mWP_eq mt_L_law _ _ _ _ _
set_option maxRecDepth 100000 in
theorem e_L_law_1250 {Q : mQo} {T : List mSh} {c s : Nat} {I : Nat → Nat → Int32} {L : Nat → Nat → Int64} {st : List Value} {a0 a1 a2 : Option Value} {x : Int32} : mWP tb_L_law Q 1250 [a0, a1, a2, some (.int x)] st ((T, c, s), I, L) = mWP tb_L_law Q 1251 [a0, a1, a2, some (.int x)] (.int x :: st) ((T, c, s), I, L) := mWP_eq mt_L_law _ _ _ _ _
set_option maxRecDepth 100000 in
theorem e_L_law_1251 {Q : mQo} {T : List mSh} {c s : Nat} {I : Nat → Nat → Int32} {L : Nat → Nat → Int64} {st : List Value} {a0 a1 a2 a3 : Option Value} : mWP tb_L_law Q 1251 [a0, a1, a2, a3] st ((T, c, s), I, L) = mWP tb_L_law Q 1252 [a0, a1, a2, a3] (.int 3 :: st) ((T, c, s), I, L) := mWP_eq mt_L_law _ _ _ _ _
set_option maxRecDepth 100000 in
theorem e_L_law_1252 {Q : mQo} {T : List mSh} {c s : Nat} {I : Nat → Nat → Int32} {L : Nat → Nat → Int64} {st : List Value} {a0 a1 a2 a3 : Option Value} {x y : Int32} : mWP tb_L_law Q 1252 [a0, a1, a2, a3] (.int y :: .int x :: st) ((T, c, s), I, L) = mWP tb_L_law Q 1253 [a0, a1, a2, a3] (.int (x + y) :: st) ((T, c, s), I, L) := mWP_eq mt_L_law _ _ _ _ _
set_option maxRecDepth 100000 in
theorem e_L_law_1253 {Q : mQo} {T : List mSh} {c s : Nat} {I : Nat → Nat → Int32} {L : Nat → Nat → Int64} {st : List Value} {a0 a1 a2 a3 : Option Value} {x : Nat} {y : Int32} : mWP tb_L_law Q 1253 [a0, a1, a2, a3] (.int y :: .ref x :: st) ((T, c, s), I, L) = (mTg (T, c, s) x = 0 ∧ vp_in y (mLn (T, c, s) x) ∧ mWP tb_L_law Q 1254 [a0, a1, a2, a3] (.int (I x y.toNatClampNeg) :: st) ((T, c, s), I, L)) := mWP_eq mt_L_law _ _ _ _ _
set_option maxRecDepth 100000 in
theorem e_L_law_1254 {Q : mQo} {T : List mSh} {c s : Nat} {I : Nat → Nat → Int32} {L : Nat → Nat → Int64} {st : List Value} {a0 a1 a2 a3 : Option Value} {v0 : Int32} {v1 : Int32} {v2 : Int32} {o : Nat} : mWP tb_L_law Q 1254 [a0, a1, a2, a3] (.int v2 :: .int v1 :: .int v0 :: .ref o :: st) ((T, c, s), I, L) = (mTg (T, c, s) o = 13 ∧ (st.map Value.category).sum ≤ 8 ∧ C_X10_pose [.ref o, .int v0, .int v1, .int v2] (mZr (T, c, s), I, L) (fun r h' => h'.1 = mZr (T, c, s) ∧ mWP tb_L_law Q 1257 [a0, a1, a2, a3] (r.toList ++ st) ((T, c, s), h'.2))) := (mWP_eq mt_L_law _ _ _ _ _).trans (eq_CV (Q := Q) 3 rfl)
set_option maxRecDepth 100000 in
theorem e_L_law_1257 {Q : mQo} {T : List mSh} {c s : Nat} {I : Nat → Nat → Int32} {L : Nat → Nat → Int64} {st : List Value} {a0 a1 a3 : Option Value} {x : Nat} : mWP tb_L_law Q 1257 [a0, a1, some (.ref x), a3] st ((T, c, s), I, L) = mWP tb_L_law Q 1258 [a0, a1, some (.ref x), a3] (.ref x :: st) ((T, c, s), I, L) := mWP_eq mt_L_law _ _ _ _ _
set_option maxRecDepth 100000 in
theorem e_L_law_1257n {Q : mQo} {T : List mSh} {c s : Nat} {I : Nat → Nat → Int32} {L : Nat → Nat → Int64} {st : List Value} {a0 a1 a3 : Option Value} : mWP tb_L_law Q 1257 [a0, a1, some .null, a3] st ((T, c, s), I, L) = mWP tb_L_law Q 1258 [a0, a1, some .null, a3] (.null :: st) ((T, c, s), I, L) := mWP_eq mt_L_law _ _ _ _ _
set_option maxRecDepth 100000 in
theorem e_L_law_1258 {Q : mQo} {T : List mSh} {c s : Nat} {I : Nat → Nat → Int32} {L : Nat → Nat → Int64} {st : List Value} {a1 a2 a3 : Option Value} {x : Nat} : mWP tb_L_law Q 1258 [some (.ref x), a1, a2, a3] st ((T, c, s), I, L) = mWP tb_L_law Q 1259 [some (.ref x), a1, a2, a3] (.ref x :: st) ((T, c, s), I, L) := mWP_eq mt_L_law _ _ _ _ _
set_option maxRecDepth 100000 in
theorem e_L_law_1258n {Q : mQo} {T : List mSh} {c s : Nat} {I : Nat → Nat → Int32} {L : Nat → Nat → Int64} {st : List Value} {a1 a2 a3 : Option Value} : mWP tb_L_law Q 1258 [some .null, a1, a2, a3] st ((T, c, s), I, L) = mWP tb_L_law Q 1259 [some .null, a1, a2, a3] (.null :: st) ((T, c, s), I, L) := mWP_eq mt_L_law _ _ _ _ _
set_option maxRecDepth 100000 in
theorem e_L_law_1259 {Q : mQo} {T : List mSh} {c s : Nat} {I : Nat → Nat → Int32} {L : Nat → Nat → Int64} {st : List Value} {a0 a1 a2 : Option Value} {x : Int32} : mWP tb_L_law Q 1259 [a0, a1, a2, some (.int x)] st ((T, c, s), I, L) = mWP tb_L_law Q 1260 [a0, a1, a2, some (.int x)] (.int x :: st) ((T, c, s), I, L) := mWP_eq mt_L_law _ _ _ _ _
set_option maxRecDepth 100000 in
theorem e_L_law_1260 {Q : mQo} {T : List mSh} {c s : Nat} {I : Nat → Nat → Int32} {L : Nat → Nat → Int64} {st : List Value} {a0 a1 a2 a3 : Option Value} : mWP tb_L_law Q 1260 [a0, a1, a2, a3] st ((T, c, s), I, L) = mWP tb_L_law Q 1261 [a0, a1, a2, a3] (.int 1 :: st) ((T, c, s), I, L) := mWP_eq mt_L_law _ _ _ _ _
set_option maxRecDepth 100000 in
theorem e_L_law_1261 {Q : mQo} {T : List mSh} {c s : Nat} {I : Nat → Nat → Int32} {L : Nat → Nat → Int64} {st : List Value} {a0 a1 a2 a3 : Option Value} {x y : Int32} : mWP tb_L_law Q 1261 [a0, a1, a2, a3] (.int y :: .int x :: st) ((T, c, s), I, L) = mWP tb_L_law Q 1262 [a0, a1, a2, a3] (.int (x + y) :: st) ((T, c, s), I, L) := mWP_eq mt_L_law _ _ _ _ _
set_option maxRecDepth 100000 in
theorem e_L_law_1262 {Q : mQo} {T : List mSh} {c s : Nat} {I : Nat → Nat → Int32} {L : Nat → Nat → Int64} {st : List Value} {a0 a1 a2 a3 : Option Value} {x : Nat} {y : Int32} : mWP tb_L_law Q 1262 [a0, a1, a2, a3] (.int y :: .ref x :: st) ((T, c, s), I, L) = (mTg (T, c, s) x = 0 ∧ vp_in y (mLn (T, c, s) x) ∧ mWP tb_L_law Q 1263 [a0, a1, a2, a3] (.int (I x y.toNatClampNeg) :: st) ((T, c, s), I, L)) := mWP_eq mt_L_law _ _ _ _ _
set_option maxRecDepth 100000 in
theorem e_L_law_1263 {Q : mQo} {T : List mSh} {c s : Nat} {I : Nat → Nat → Int32} {L : Nat → Nat → Int64} {st : List Value} {a1 a2 a3 : Option Value} {x : Nat} : mWP tb_L_law Q 1263 [some (.ref x), a1, a2, a3] st ((T, c, s), I, L) = mWP tb_L_law Q 1264 [some (.ref x), a1, a2, a3] (.ref x :: st) ((T, c, s), I, L) := mWP_eq mt_L_law _ _ _ _ _
set_option maxRecDepth 100000 in
theorem e_L_law_1263n {Q : mQo} {T : List mSh} {c s : Nat} {I : Nat → Nat → Int32} {L : Nat → Nat → Int64} {st : List Value} {a1 a2 a3 : Option Value} : mWP tb_L_law Q 1263 [some .null, a1, a2, a3] st ((T, c, s), I, L) = mWP tb_L_law Q 1264 [some .null, a1, a2, a3] (.null :: st) ((T, c, s), I, L) := mWP_eq mt_L_law _ _ _ _ _
set_option maxRecDepth 100000 in
theorem e_L_law_1264 {Q : mQo} {T : List mSh} {c s : Nat} {I : Nat → Nat → Int32} {L : Nat → Nat → Int64} {st : List Value} {a0 a1 a2 : Option Value} {x : Int32} : mWP tb_L_law Q 1264 [a0, a1, a2, some (.int x)] st ((T, c, s), I, L) = mWP tb_L_law Q 1265 [a0, a1, a2, some (.int x)] (.int x :: st) ((T, c, s), I, L) := mWP_eq mt_L_law _ _ _ _ _
set_option maxRecDepth 100000 in
theorem e_L_law_1265 {Q : mQo} {T : List mSh} {c s : Nat} {I : Nat → Nat → Int32} {L : Nat → Nat → Int64} {st : List Value} {a0 a1 a2 a3 : Option Value} : mWP tb_L_law Q 1265 [a0, a1, a2, a3] st ((T, c, s), I, L) = mWP tb_L_law Q 1266 [a0, a1, a2, a3] (.int 2 :: st) ((T, c, s), I, L) := mWP_eq mt_L_law _ _ _ _ _
set_option maxRecDepth 100000 in
theorem e_L_law_1266 {Q : mQo} {T : List mSh} {c s : Nat} {I : Nat → Nat → Int32} {L : Nat → Nat → Int64} {st : List Value} {a0 a1 a2 a3 : Option Value} {x y : Int32} : mWP tb_L_law Q 1266 [a0, a1, a2, a3] (.int y :: .int x :: st) ((T, c, s), I, L) = mWP tb_L_law Q 1267 [a0, a1, a2, a3] (.int (x + y) :: st) ((T, c, s), I, L) := mWP_eq mt_L_law _ _ _ _ _
set_option maxRecDepth 100000 in
theorem e_L_law_1267 {Q : mQo} {T : List mSh} {c s : Nat} {I : Nat → Nat → Int32} {L : Nat → Nat → Int64} {st : List Value} {a0 a1 a2 a3 : Option Value} {x : Nat} {y : Int32} : mWP tb_L_law Q 1267 [a0, a1, a2, a3] (.int y :: .ref x :: st) ((T, c, s), I, L) = (mTg (T, c, s) x = 0 ∧ vp_in y (mLn (T, c, s) x) ∧ mWP tb_L_law Q 1268 [a0, a1, a2, a3] (.int (I x y.toNatClampNeg) :: st) ((T, c, s), I, L)) := mWP_eq mt_L_law _ _ _ _ _
set_option maxRecDepth 100000 in
theorem e_L_law_1268 {Q : mQo} {T : List mSh} {c s : Nat} {I : Nat → Nat → Int32} {L : Nat → Nat → Int64} {st : List Value} {a1 a2 a3 : Option Value} {x : Nat} : mWP tb_L_law Q 1268 [some (.ref x), a1, a2, a3] st ((T, c, s), I, L) = mWP tb_L_law Q 1269 [some (.ref x), a1, a2, a3] (.ref x :: st) ((T, c, s), I, L) := mWP_eq mt_L_law _ _ _ _ _
set_option maxRecDepth 100000 in
theorem e_L_law_1268n {Q : mQo} {T : List mSh} {c s : Nat} {I : Nat → Nat → Int32} {L : Nat → Nat → Int64} {st : List Value} {a1 a2 a3 : Option Value} : mWP tb_L_law Q 1268 [some .null, a1, a2, a3] st ((T, c, s), I, L) = mWP tb_L_law Q 1269 [some .null, a1, a2, a3] (.null :: st) ((T, c, s), I, L) := mWP_eq mt_L_law _ _ _ _ _
set_option maxRecDepth 100000 in
theorem e_L_law_1269 {Q : mQo} {T : List mSh} {c s : Nat} {I : Nat → Nat → Int32} {L : Nat → Nat → Int64} {st : List Value} {a0 a1 a2 : Option Value} {x : Int32} : mWP tb_L_law Q 1269 [a0, a1, a2, some (.int x)] st ((T, c, s), I, L) = mWP tb_L_law Q 1270 [a0, a1, a2, some (.int x)] (.int x :: st) ((T, c, s), I, L) := mWP_eq mt_L_law _ _ _ _ _
set_option maxRecDepth 100000 in
theorem e_L_law_1270 {Q : mQo} {T : List mSh} {c s : Nat} {I : Nat → Nat → Int32} {L : Nat → Nat → Int64} {st : List Value} {a0 a1 a2 a3 : Option Value} : mWP tb_L_law Q 1270 [a0, a1, a2, a3] st ((T, c, s), I, L) = mWP tb_L_law Q 1271 [a0, a1, a2, a3] (.int 3 :: st) ((T, c, s), I, L) := mWP_eq mt_L_law _ _ _ _ _
set_option maxRecDepth 100000 in
theorem e_L_law_1271 {Q : mQo} {T : List mSh} {c s : Nat} {I : Nat → Nat → Int32} {L : Nat → Nat → Int64} {st : List Value} {a0 a1 a2 a3 : Option Value} {x y : Int32} : mWP tb_L_law Q 1271 [a0, a1, a2, a3] (.int y :: .int x :: st) ((T, c, s), I, L) = mWP tb_L_law Q 1272 [a0, a1, a2, a3] (.int (x + y) :: st) ((T, c, s), I, L) := mWP_eq mt_L_law _ _ _ _ _
set_option maxRecDepth 100000 in
theorem e_L_law_1272 {Q : mQo} {T : List mSh} {c s : Nat} {I : Nat → Nat → Int32} {L : Nat → Nat → Int64} {st : List Value} {a0 a1 a2 a3 : Option Value} {x : Nat} {y : Int32} : mWP tb_L_law Q 1272 [a0, a1, a2, a3] (.int y :: .ref x :: st) ((T, c, s), I, L) = (mTg (T, c, s) x = 0 ∧ vp_in y (mLn (T, c, s) x) ∧ mWP tb_L_law Q 1273 [a0, a1, a2, a3] (.int (I x y.toNatClampNeg) :: st) ((T, c, s), I, L)) := mWP_eq mt_L_law _ _ _ _ _
set_option maxRecDepth 100000 in
theorem e_L_law_1273 {Q : mQo} {T : List mSh} {c s : Nat} {I : Nat → Nat → Int32} {L : Nat → Nat → Int64} {st : List Value} {a0 a1 a2 a3 : Option Value} {v0 : Int32} {v1 : Int32} {v2 : Int32} {o : Nat} : mWP tb_L_law Q 1273 [a0, a1, a2, a3] (.int v2 :: .int v1 :: .int v0 :: .ref o :: st) ((T, c, s), I, L) = (mTg (T, c, s) o = 14 ∧ (st.map Value.category).sum ≤ 8 ∧ C_X11_pose [.ref o, .int v0, .int v1, .int v2] (mZr (T, c, s), I, L) (fun r h' => h'.1 = mZr (T, c, s) ∧ mWP tb_L_law Q 1276 [a0, a1, a2, a3] (r.toList ++ st) ((T, c, s), h'.2))) := (mWP_eq mt_L_law _ _ _ _ _).trans (eq_CV (Q := Q) 3 rfl)
set_option maxRecDepth 100000 in
theorem e_L_law_1276 {Q : mQo} {T : List mSh} {c s : Nat} {I : Nat → Nat → Int32} {L : Nat → Nat → Int64} {st : List Value} {a0 a1 a2 a3 : Option Value} {x y : Int64} : mWP tb_L_law Q 1276 [a0, a1, a2, a3] (.long y :: .long x :: st) ((T, c, s), I, L) = mWP tb_L_law Q 1277 [a0, a1, a2, a3] (.int (lg_cmp x y) :: st) ((T, c, s), I, L) := mWP_eq mt_L_law _ _ _ _ _
set_option maxRecDepth 100000 in
theorem e_L_law_1277 {Q : mQo} {T : List mSh} {c s : Nat} {I : Nat → Nat → Int32} {L : Nat → Nat → Int64} {st : List Value} {a0 a1 a2 a3 : Option Value} {x : Int32} : mWP tb_L_law Q 1277 [a0, a1, a2, a3] (.int x :: st) ((T, c, s), I, L) = ((x = 0 → mWP tb_L_law Q 1460 [a0, a1, a2, a3] st ((T, c, s), I, L)) ∧ (¬ (x = 0) → mWP tb_L_law Q 1280 [a0, a1, a2, a3] st ((T, c, s), I, L))) := mWP_eq mt_L_law _ _ _ _ _
set_option maxRecDepth 100000 in
theorem e_L_law_1280 {Q : mQo} {T : List mSh} {c s : Nat} {I : Nat → Nat → Int32} {L : Nat → Nat → Int64} {st : List Value} {a0 a1 a2 a3 : Option Value} : mWP tb_L_law Q 1280 [a0, a1, a2, a3] st ((T, c, s), I, L) = mWP tb_L_law Q 1281 [a0, a1, a2, a3] (.int 0 :: st) ((T, c, s), I, L) := mWP_eq mt_L_law _ _ _ _ _
set_option maxRecDepth 100000 in
theorem e_L_law_1281 {Q : mQo} {T : List mSh} {c s : Nat} {I : Nat → Nat → Int32} {L : Nat → Nat → Int64} {a0 a1 a2 a3 : Option Value} {x : Int32} : mWP tb_L_law Q 1281 [a0, a1, a2, a3] [.int x] ((T, c, s), I, L) = ((x = 0 ∨ x = 1) ∧ Q (some (.int x)) ((T, c, s), I, L)) := mWP_eq mt_L_law _ _ _ _ _
set_option maxRecDepth 100000 in
theorem e_L_law_1282 {Q : mQo} {T : List mSh} {c s : Nat} {I : Nat → Nat → Int32} {L : Nat → Nat → Int64} {st : List Value} {a0 a2 a3 : Option Value} {x : Nat} : mWP tb_L_law Q 1282 [a0, some (.ref x), a2, a3] st ((T, c, s), I, L) = mWP tb_L_law Q 1283 [a0, some (.ref x), a2, a3] (.ref x :: st) ((T, c, s), I, L) := mWP_eq mt_L_law _ _ _ _ _
set_option maxRecDepth 100000 in
theorem e_L_law_1282n {Q : mQo} {T : List mSh} {c s : Nat} {I : Nat → Nat → Int32} {L : Nat → Nat → Int64} {st : List Value} {a0 a2 a3 : Option Value} : mWP tb_L_law Q 1282 [a0, some .null, a2, a3] st ((T, c, s), I, L) = mWP tb_L_law Q 1283 [a0, some .null, a2, a3] (.null :: st) ((T, c, s), I, L) := mWP_eq mt_L_law _ _ _ _ _
set_option maxRecDepth 100000 in
theorem e_L_law_1283 {Q : mQo} {T : List mSh} {c s : Nat} {I : Nat → Nat → Int32} {L : Nat → Nat → Int64} {st : List Value} {a1 a2 a3 : Option Value} {x : Nat} : mWP tb_L_law Q 1283 [some (.ref x), a1, a2, a3] st ((T, c, s), I, L) = mWP tb_L_law Q 1284 [some (.ref x), a1, a2, a3] (.ref x :: st) ((T, c, s), I, L) := mWP_eq mt_L_law _ _ _ _ _
set_option maxRecDepth 100000 in
theorem e_L_law_1283n {Q : mQo} {T : List mSh} {c s : Nat} {I : Nat → Nat → Int32} {L : Nat → Nat → Int64} {st : List Value} {a1 a2 a3 : Option Value} : mWP tb_L_law Q 1283 [some .null, a1, a2, a3] st ((T, c, s), I, L) = mWP tb_L_law Q 1284 [some .null, a1, a2, a3] (.null :: st) ((T, c, s), I, L) := mWP_eq mt_L_law _ _ _ _ _
set_option maxRecDepth 100000 in
theorem e_L_law_1284 {Q : mQo} {T : List mSh} {c s : Nat} {I : Nat → Nat → Int32} {L : Nat → Nat → Int64} {st : List Value} {a0 a1 a2 : Option Value} {x : Int32} : mWP tb_L_law Q 1284 [a0, a1, a2, some (.int x)] st ((T, c, s), I, L) = mWP tb_L_law Q 1285 [a0, a1, a2, some (.int x)] (.int x :: st) ((T, c, s), I, L) := mWP_eq mt_L_law _ _ _ _ _
set_option maxRecDepth 100000 in
theorem e_L_law_1285 {Q : mQo} {T : List mSh} {c s : Nat} {I : Nat → Nat → Int32} {L : Nat → Nat → Int64} {st : List Value} {a0 a1 a2 a3 : Option Value} : mWP tb_L_law Q 1285 [a0, a1, a2, a3] st ((T, c, s), I, L) = mWP tb_L_law Q 1286 [a0, a1, a2, a3] (.int 1 :: st) ((T, c, s), I, L) := mWP_eq mt_L_law _ _ _ _ _
set_option maxRecDepth 100000 in
theorem e_L_law_1286 {Q : mQo} {T : List mSh} {c s : Nat} {I : Nat → Nat → Int32} {L : Nat → Nat → Int64} {st : List Value} {a0 a1 a2 a3 : Option Value} {x y : Int32} : mWP tb_L_law Q 1286 [a0, a1, a2, a3] (.int y :: .int x :: st) ((T, c, s), I, L) = mWP tb_L_law Q 1287 [a0, a1, a2, a3] (.int (x + y) :: st) ((T, c, s), I, L) := mWP_eq mt_L_law _ _ _ _ _
set_option maxRecDepth 100000 in
theorem e_L_law_1287 {Q : mQo} {T : List mSh} {c s : Nat} {I : Nat → Nat → Int32} {L : Nat → Nat → Int64} {st : List Value} {a0 a1 a2 a3 : Option Value} {x : Nat} {y : Int32} : mWP tb_L_law Q 1287 [a0, a1, a2, a3] (.int y :: .ref x :: st) ((T, c, s), I, L) = (mTg (T, c, s) x = 0 ∧ vp_in y (mLn (T, c, s) x) ∧ mWP tb_L_law Q 1288 [a0, a1, a2, a3] (.int (I x y.toNatClampNeg) :: st) ((T, c, s), I, L)) := mWP_eq mt_L_law _ _ _ _ _
set_option maxRecDepth 100000 in
theorem e_L_law_1288 {Q : mQo} {T : List mSh} {c s : Nat} {I : Nat → Nat → Int32} {L : Nat → Nat → Int64} {st : List Value} {a0 a1 a2 a3 : Option Value} {v0 : Int32} {o : Nat} : mWP tb_L_law Q 1288 [a0, a1, a2, a3] (.int v0 :: .ref o :: st) ((T, c, s), I, L) = (mTg (T, c, s) o = 13 ∧ (st.map Value.category).sum ≤ 8 ∧ C_X10_round [.ref o, .int v0] (mZr (T, c, s), I, L) (fun r h' => h'.1 = mZr (T, c, s) ∧ mWP tb_L_law Q 1291 [a0, a1, a2, a3] (r.toList ++ st) ((T, c, s), h'.2))) := (mWP_eq mt_L_law _ _ _ _ _).trans (eq_CV (Q := Q) 1 rfl)
set_option maxRecDepth 100000 in
theorem e_L_law_1291 {Q : mQo} {T : List mSh} {c s : Nat} {I : Nat → Nat → Int32} {L : Nat → Nat → Int64} {st : List Value} {a0 a1 a3 : Option Value} {x : Nat} : mWP tb_L_law Q 1291 [a0, a1, some (.ref x), a3] st ((T, c, s), I, L) = mWP tb_L_law Q 1292 [a0, a1, some (.ref x), a3] (.ref x :: st) ((T, c, s), I, L) := mWP_eq mt_L_law _ _ _ _ _
set_option maxRecDepth 100000 in
theorem e_L_law_1291n {Q : mQo} {T : List mSh} {c s : Nat} {I : Nat → Nat → Int32} {L : Nat → Nat → Int64} {st : List Value} {a0 a1 a3 : Option Value} : mWP tb_L_law Q 1291 [a0, a1, some .null, a3] st ((T, c, s), I, L) = mWP tb_L_law Q 1292 [a0, a1, some .null, a3] (.null :: st) ((T, c, s), I, L) := mWP_eq mt_L_law _ _ _ _ _
set_option maxRecDepth 100000 in
theorem e_L_law_1292 {Q : mQo} {T : List mSh} {c s : Nat} {I : Nat → Nat → Int32} {L : Nat → Nat → Int64} {st : List Value} {a1 a2 a3 : Option Value} {x : Nat} : mWP tb_L_law Q 1292 [some (.ref x), a1, a2, a3] st ((T, c, s), I, L) = mWP tb_L_law Q 1293 [some (.ref x), a1, a2, a3] (.ref x :: st) ((T, c, s), I, L) := mWP_eq mt_L_law _ _ _ _ _
set_option maxRecDepth 100000 in
theorem e_L_law_1292n {Q : mQo} {T : List mSh} {c s : Nat} {I : Nat → Nat → Int32} {L : Nat → Nat → Int64} {st : List Value} {a1 a2 a3 : Option Value} : mWP tb_L_law Q 1292 [some .null, a1, a2, a3] st ((T, c, s), I, L) = mWP tb_L_law Q 1293 [some .null, a1, a2, a3] (.null :: st) ((T, c, s), I, L) := mWP_eq mt_L_law _ _ _ _ _
set_option maxRecDepth 100000 in
theorem e_L_law_1293 {Q : mQo} {T : List mSh} {c s : Nat} {I : Nat → Nat → Int32} {L : Nat → Nat → Int64} {st : List Value} {a0 a1 a2 : Option Value} {x : Int32} : mWP tb_L_law Q 1293 [a0, a1, a2, some (.int x)] st ((T, c, s), I, L) = mWP tb_L_law Q 1294 [a0, a1, a2, some (.int x)] (.int x :: st) ((T, c, s), I, L) := mWP_eq mt_L_law _ _ _ _ _
set_option maxRecDepth 100000 in
theorem e_L_law_1294 {Q : mQo} {T : List mSh} {c s : Nat} {I : Nat → Nat → Int32} {L : Nat → Nat → Int64} {st : List Value} {a0 a1 a2 a3 : Option Value} : mWP tb_L_law Q 1294 [a0, a1, a2, a3] st ((T, c, s), I, L) = mWP tb_L_law Q 1295 [a0, a1, a2, a3] (.int 1 :: st) ((T, c, s), I, L) := mWP_eq mt_L_law _ _ _ _ _
set_option maxRecDepth 100000 in
theorem e_L_law_1295 {Q : mQo} {T : List mSh} {c s : Nat} {I : Nat → Nat → Int32} {L : Nat → Nat → Int64} {st : List Value} {a0 a1 a2 a3 : Option Value} {x y : Int32} : mWP tb_L_law Q 1295 [a0, a1, a2, a3] (.int y :: .int x :: st) ((T, c, s), I, L) = mWP tb_L_law Q 1296 [a0, a1, a2, a3] (.int (x + y) :: st) ((T, c, s), I, L) := mWP_eq mt_L_law _ _ _ _ _
set_option maxRecDepth 100000 in
theorem e_L_law_1296 {Q : mQo} {T : List mSh} {c s : Nat} {I : Nat → Nat → Int32} {L : Nat → Nat → Int64} {st : List Value} {a0 a1 a2 a3 : Option Value} {x : Nat} {y : Int32} : mWP tb_L_law Q 1296 [a0, a1, a2, a3] (.int y :: .ref x :: st) ((T, c, s), I, L) = (mTg (T, c, s) x = 0 ∧ vp_in y (mLn (T, c, s) x) ∧ mWP tb_L_law Q 1297 [a0, a1, a2, a3] (.int (I x y.toNatClampNeg) :: st) ((T, c, s), I, L)) := mWP_eq mt_L_law _ _ _ _ _
set_option maxRecDepth 100000 in
theorem e_L_law_1297 {Q : mQo} {T : List mSh} {c s : Nat} {I : Nat → Nat → Int32} {L : Nat → Nat → Int64} {st : List Value} {a0 a1 a2 a3 : Option Value} {v0 : Int32} {o : Nat} : mWP tb_L_law Q 1297 [a0, a1, a2, a3] (.int v0 :: .ref o :: st) ((T, c, s), I, L) = (mTg (T, c, s) o = 14 ∧ (st.map Value.category).sum ≤ 8 ∧ C_X11_round [.ref o, .int v0] (mZr (T, c, s), I, L) (fun r h' => h'.1 = mZr (T, c, s) ∧ mWP tb_L_law Q 1300 [a0, a1, a2, a3] (r.toList ++ st) ((T, c, s), h'.2))) := (mWP_eq mt_L_law _ _ _ _ _).trans (eq_CV (Q := Q) 1 rfl)
set_option maxRecDepth 100000 in
theorem e_L_law_1300 {Q : mQo} {T : List mSh} {c s : Nat} {I : Nat → Nat → Int32} {L : Nat → Nat → Int64} {st : List Value} {a0 a1 a2 a3 : Option Value} {x y : Int64} : mWP tb_L_law Q 1300 [a0, a1, a2, a3] (.long y :: .long x :: st) ((T, c, s), I, L) = mWP tb_L_law Q 1301 [a0, a1, a2, a3] (.int (lg_cmp x y) :: st) ((T, c, s), I, L) := mWP_eq mt_L_law _ _ _ _ _
set_option maxRecDepth 100000 in
theorem e_L_law_1301 {Q : mQo} {T : List mSh} {c s : Nat} {I : Nat → Nat → Int32} {L : Nat → Nat → Int64} {st : List Value} {a0 a1 a2 a3 : Option Value} {x : Int32} : mWP tb_L_law Q 1301 [a0, a1, a2, a3] (.int x :: st) ((T, c, s), I, L) = ((x = 0 → mWP tb_L_law Q 1460 [a0, a1, a2, a3] st ((T, c, s), I, L)) ∧ (¬ (x = 0) → mWP tb_L_law Q 1304 [a0, a1, a2, a3] st ((T, c, s), I, L))) := mWP_eq mt_L_law _ _ _ _ _
set_option maxRecDepth 100000 in
theorem e_L_law_1304 {Q : mQo} {T : List mSh} {c s : Nat} {I : Nat → Nat → Int32} {L : Nat → Nat → Int64} {st : List Value} {a0 a1 a2 a3 : Option Value} : mWP tb_L_law Q 1304 [a0, a1, a2, a3] st ((T, c, s), I, L) = mWP tb_L_law Q 1305 [a0, a1, a2, a3] (.int 0 :: st) ((T, c, s), I, L) := mWP_eq mt_L_law _ _ _ _ _
set_option maxRecDepth 100000 in
theorem e_L_law_1305 {Q : mQo} {T : List mSh} {c s : Nat} {I : Nat → Nat → Int32} {L : Nat → Nat → Int64} {a0 a1 a2 a3 : Option Value} {x : Int32} : mWP tb_L_law Q 1305 [a0, a1, a2, a3] [.int x] ((T, c, s), I, L) = ((x = 0 ∨ x = 1) ∧ Q (some (.int x)) ((T, c, s), I, L)) := mWP_eq mt_L_law _ _ _ _ _
set_option maxRecDepth 100000 in
theorem e_L_law_1306 {Q : mQo} {T : List mSh} {c s : Nat} {I : Nat → Nat → Int32} {L : Nat → Nat → Int64} {st : List Value} {a0 a2 a3 : Option Value} {x : Nat} : mWP tb_L_law Q 1306 [a0, some (.ref x), a2, a3] st ((T, c, s), I, L) = mWP tb_L_law Q 1307 [a0, some (.ref x), a2, a3] (.ref x :: st) ((T, c, s), I, L) := mWP_eq mt_L_law _ _ _ _ _
set_option maxRecDepth 100000 in
theorem e_L_law_1306n {Q : mQo} {T : List mSh} {c s : Nat} {I : Nat → Nat → Int32} {L : Nat → Nat → Int64} {st : List Value} {a0 a2 a3 : Option Value} : mWP tb_L_law Q 1306 [a0, some .null, a2, a3] st ((T, c, s), I, L) = mWP tb_L_law Q 1307 [a0, some .null, a2, a3] (.null :: st) ((T, c, s), I, L) := mWP_eq mt_L_law _ _ _ _ _
set_option maxRecDepth 100000 in
theorem e_L_law_1307 {Q : mQo} {T : List mSh} {c s : Nat} {I : Nat → Nat → Int32} {L : Nat → Nat → Int64} {st : List Value} {a1 a2 a3 : Option Value} {x : Nat} : mWP tb_L_law Q 1307 [some (.ref x), a1, a2, a3] st ((T, c, s), I, L) = mWP tb_L_law Q 1308 [some (.ref x), a1, a2, a3] (.ref x :: st) ((T, c, s), I, L) := mWP_eq mt_L_law _ _ _ _ _
set_option maxRecDepth 100000 in
theorem e_L_law_1307n {Q : mQo} {T : List mSh} {c s : Nat} {I : Nat → Nat → Int32} {L : Nat → Nat → Int64} {st : List Value} {a1 a2 a3 : Option Value} : mWP tb_L_law Q 1307 [some .null, a1, a2, a3] st ((T, c, s), I, L) = mWP tb_L_law Q 1308 [some .null, a1, a2, a3] (.null :: st) ((T, c, s), I, L) := mWP_eq mt_L_law _ _ _ _ _
set_option maxRecDepth 100000 in
theorem e_L_law_1308 {Q : mQo} {T : List mSh} {c s : Nat} {I : Nat → Nat → Int32} {L : Nat → Nat → Int64} {st : List Value} {a0 a1 a2 : Option Value} {x : Int32} : mWP tb_L_law Q 1308 [a0, a1, a2, some (.int x)] st ((T, c, s), I, L) = mWP tb_L_law Q 1309 [a0, a1, a2, some (.int x)] (.int x :: st) ((T, c, s), I, L) := mWP_eq mt_L_law _ _ _ _ _
set_option maxRecDepth 100000 in
theorem e_L_law_1309 {Q : mQo} {T : List mSh} {c s : Nat} {I : Nat → Nat → Int32} {L : Nat → Nat → Int64} {st : List Value} {a0 a1 a2 a3 : Option Value} : mWP tb_L_law Q 1309 [a0, a1, a2, a3] st ((T, c, s), I, L) = mWP tb_L_law Q 1310 [a0, a1, a2, a3] (.int 1 :: st) ((T, c, s), I, L) := mWP_eq mt_L_law _ _ _ _ _
set_option maxRecDepth 100000 in
theorem e_L_law_1310 {Q : mQo} {T : List mSh} {c s : Nat} {I : Nat → Nat → Int32} {L : Nat → Nat → Int64} {st : List Value} {a0 a1 a2 a3 : Option Value} {x y : Int32} : mWP tb_L_law Q 1310 [a0, a1, a2, a3] (.int y :: .int x :: st) ((T, c, s), I, L) = mWP tb_L_law Q 1311 [a0, a1, a2, a3] (.int (x + y) :: st) ((T, c, s), I, L) := mWP_eq mt_L_law _ _ _ _ _
set_option maxRecDepth 100000 in
theorem e_L_law_1311 {Q : mQo} {T : List mSh} {c s : Nat} {I : Nat → Nat → Int32} {L : Nat → Nat → Int64} {st : List Value} {a0 a1 a2 a3 : Option Value} {x : Nat} {y : Int32} : mWP tb_L_law Q 1311 [a0, a1, a2, a3] (.int y :: .ref x :: st) ((T, c, s), I, L) = (mTg (T, c, s) x = 0 ∧ vp_in y (mLn (T, c, s) x) ∧ mWP tb_L_law Q 1312 [a0, a1, a2, a3] (.int (I x y.toNatClampNeg) :: st) ((T, c, s), I, L)) := mWP_eq mt_L_law _ _ _ _ _
set_option maxRecDepth 100000 in
theorem e_L_law_1312 {Q : mQo} {T : List mSh} {c s : Nat} {I : Nat → Nat → Int32} {L : Nat → Nat → Int64} {st : List Value} {a1 a2 a3 : Option Value} {x : Nat} : mWP tb_L_law Q 1312 [some (.ref x), a1, a2, a3] st ((T, c, s), I, L) = mWP tb_L_law Q 1313 [some (.ref x), a1, a2, a3] (.ref x :: st) ((T, c, s), I, L) := mWP_eq mt_L_law _ _ _ _ _
set_option maxRecDepth 100000 in
theorem e_L_law_1312n {Q : mQo} {T : List mSh} {c s : Nat} {I : Nat → Nat → Int32} {L : Nat → Nat → Int64} {st : List Value} {a1 a2 a3 : Option Value} : mWP tb_L_law Q 1312 [some .null, a1, a2, a3] st ((T, c, s), I, L) = mWP tb_L_law Q 1313 [some .null, a1, a2, a3] (.null :: st) ((T, c, s), I, L) := mWP_eq mt_L_law _ _ _ _ _
set_option maxRecDepth 100000 in
theorem e_L_law_1313 {Q : mQo} {T : List mSh} {c s : Nat} {I : Nat → Nat → Int32} {L : Nat → Nat → Int64} {st : List Value} {a0 a1 a2 : Option Value} {x : Int32} : mWP tb_L_law Q 1313 [a0, a1, a2, some (.int x)] st ((T, c, s), I, L) = mWP tb_L_law Q 1314 [a0, a1, a2, some (.int x)] (.int x :: st) ((T, c, s), I, L) := mWP_eq mt_L_law _ _ _ _ _
set_option maxRecDepth 100000 in
theorem e_L_law_1314 {Q : mQo} {T : List mSh} {c s : Nat} {I : Nat → Nat → Int32} {L : Nat → Nat → Int64} {st : List Value} {a0 a1 a2 a3 : Option Value} : mWP tb_L_law Q 1314 [a0, a1, a2, a3] st ((T, c, s), I, L) = mWP tb_L_law Q 1315 [a0, a1, a2, a3] (.int 2 :: st) ((T, c, s), I, L) := mWP_eq mt_L_law _ _ _ _ _
set_option maxRecDepth 100000 in
theorem e_L_law_1315 {Q : mQo} {T : List mSh} {c s : Nat} {I : Nat → Nat → Int32} {L : Nat → Nat → Int64} {st : List Value} {a0 a1 a2 a3 : Option Value} {x y : Int32} : mWP tb_L_law Q 1315 [a0, a1, a2, a3] (.int y :: .int x :: st) ((T, c, s), I, L) = mWP tb_L_law Q 1316 [a0, a1, a2, a3] (.int (x + y) :: st) ((T, c, s), I, L) := mWP_eq mt_L_law _ _ _ _ _
set_option maxRecDepth 100000 in
theorem e_L_law_1316 {Q : mQo} {T : List mSh} {c s : Nat} {I : Nat → Nat → Int32} {L : Nat → Nat → Int64} {st : List Value} {a0 a1 a2 a3 : Option Value} {x : Nat} {y : Int32} : mWP tb_L_law Q 1316 [a0, a1, a2, a3] (.int y :: .ref x :: st) ((T, c, s), I, L) = (mTg (T, c, s) x = 0 ∧ vp_in y (mLn (T, c, s) x) ∧ mWP tb_L_law Q 1317 [a0, a1, a2, a3] (.int (I x y.toNatClampNeg) :: st) ((T, c, s), I, L)) := mWP_eq mt_L_law _ _ _ _ _
set_option maxRecDepth 100000 in
theorem e_L_law_1317 {Q : mQo} {T : List mSh} {c s : Nat} {I : Nat → Nat → Int32} {L : Nat → Nat → Int64} {st : List Value} {a1 a2 a3 : Option Value} {x : Nat} : mWP tb_L_law Q 1317 [some (.ref x), a1, a2, a3] st ((T, c, s), I, L) = mWP tb_L_law Q 1318 [some (.ref x), a1, a2, a3] (.ref x :: st) ((T, c, s), I, L) := mWP_eq mt_L_law _ _ _ _ _
set_option maxRecDepth 100000 in
theorem e_L_law_1317n {Q : mQo} {T : List mSh} {c s : Nat} {I : Nat → Nat → Int32} {L : Nat → Nat → Int64} {st : List Value} {a1 a2 a3 : Option Value} : mWP tb_L_law Q 1317 [some .null, a1, a2, a3] st ((T, c, s), I, L) = mWP tb_L_law Q 1318 [some .null, a1, a2, a3] (.null :: st) ((T, c, s), I, L) := mWP_eq mt_L_law _ _ _ _ _
set_option maxRecDepth 100000 in
theorem e_L_law_1318 {Q : mQo} {T : List mSh} {c s : Nat} {I : Nat → Nat → Int32} {L : Nat → Nat → Int64} {st : List Value} {a0 a1 a2 : Option Value} {x : Int32} : mWP tb_L_law Q 1318 [a0, a1, a2, some (.int x)] st ((T, c, s), I, L) = mWP tb_L_law Q 1319 [a0, a1, a2, some (.int x)] (.int x :: st) ((T, c, s), I, L) := mWP_eq mt_L_law _ _ _ _ _
set_option maxRecDepth 100000 in
theorem e_L_law_1319 {Q : mQo} {T : List mSh} {c s : Nat} {I : Nat → Nat → Int32} {L : Nat → Nat → Int64} {st : List Value} {a0 a1 a2 a3 : Option Value} : mWP tb_L_law Q 1319 [a0, a1, a2, a3] st ((T, c, s), I, L) = mWP tb_L_law Q 1320 [a0, a1, a2, a3] (.int 3 :: st) ((T, c, s), I, L) := mWP_eq mt_L_law _ _ _ _ _
set_option maxRecDepth 100000 in
theorem e_L_law_1320 {Q : mQo} {T : List mSh} {c s : Nat} {I : Nat → Nat → Int32} {L : Nat → Nat → Int64} {st : List Value} {a0 a1 a2 a3 : Option Value} {x y : Int32} : mWP tb_L_law Q 1320 [a0, a1, a2, a3] (.int y :: .int x :: st) ((T, c, s), I, L) = mWP tb_L_law Q 1321 [a0, a1, a2, a3] (.int (x + y) :: st) ((T, c, s), I, L) := mWP_eq mt_L_law _ _ _ _ _
set_option maxRecDepth 100000 in
theorem e_L_law_1321 {Q : mQo} {T : List mSh} {c s : Nat} {I : Nat → Nat → Int32} {L : Nat → Nat → Int64} {st : List Value} {a0 a1 a2 a3 : Option Value} {x : Nat} {y : Int32} : mWP tb_L_law Q 1321 [a0, a1, a2, a3] (.int y :: .ref x :: st) ((T, c, s), I, L) = (mTg (T, c, s) x = 0 ∧ vp_in y (mLn (T, c, s) x) ∧ mWP tb_L_law Q 1322 [a0, a1, a2, a3] (.int (I x y.toNatClampNeg) :: st) ((T, c, s), I, L)) := mWP_eq mt_L_law _ _ _ _ _
set_option maxRecDepth 100000 in
theorem e_L_law_1322 {Q : mQo} {T : List mSh} {c s : Nat} {I : Nat → Nat → Int32} {L : Nat → Nat → Int64} {st : List Value} {a1 a2 a3 : Option Value} {x : Nat} : mWP tb_L_law Q 1322 [some (.ref x), a1, a2, a3] st ((T, c, s), I, L) = mWP tb_L_law Q 1323 [some (.ref x), a1, a2, a3] (.ref x :: st) ((T, c, s), I, L) := mWP_eq mt_L_law _ _ _ _ _
set_option maxRecDepth 100000 in
theorem e_L_law_1322n {Q : mQo} {T : List mSh} {c s : Nat} {I : Nat → Nat → Int32} {L : Nat → Nat → Int64} {st : List Value} {a1 a2 a3 : Option Value} : mWP tb_L_law Q 1322 [some .null, a1, a2, a3] st ((T, c, s), I, L) = mWP tb_L_law Q 1323 [some .null, a1, a2, a3] (.null :: st) ((T, c, s), I, L) := mWP_eq mt_L_law _ _ _ _ _
set_option maxRecDepth 100000 in
theorem e_L_law_1323 {Q : mQo} {T : List mSh} {c s : Nat} {I : Nat → Nat → Int32} {L : Nat → Nat → Int64} {st : List Value} {a0 a1 a2 : Option Value} {x : Int32} : mWP tb_L_law Q 1323 [a0, a1, a2, some (.int x)] st ((T, c, s), I, L) = mWP tb_L_law Q 1324 [a0, a1, a2, some (.int x)] (.int x :: st) ((T, c, s), I, L) := mWP_eq mt_L_law _ _ _ _ _
set_option maxRecDepth 100000 in
theorem e_L_law_1324 {Q : mQo} {T : List mSh} {c s : Nat} {I : Nat → Nat → Int32} {L : Nat → Nat → Int64} {st : List Value} {a0 a1 a2 a3 : Option Value} : mWP tb_L_law Q 1324 [a0, a1, a2, a3] st ((T, c, s), I, L) = mWP tb_L_law Q 1325 [a0, a1, a2, a3] (.int 4 :: st) ((T, c, s), I, L) := mWP_eq mt_L_law _ _ _ _ _
set_option maxRecDepth 100000 in
theorem e_L_law_1325 {Q : mQo} {T : List mSh} {c s : Nat} {I : Nat → Nat → Int32} {L : Nat → Nat → Int64} {st : List Value} {a0 a1 a2 a3 : Option Value} {x y : Int32} : mWP tb_L_law Q 1325 [a0, a1, a2, a3] (.int y :: .int x :: st) ((T, c, s), I, L) = mWP tb_L_law Q 1326 [a0, a1, a2, a3] (.int (x + y) :: st) ((T, c, s), I, L) := mWP_eq mt_L_law _ _ _ _ _
set_option maxRecDepth 100000 in
theorem e_L_law_1326 {Q : mQo} {T : List mSh} {c s : Nat} {I : Nat → Nat → Int32} {L : Nat → Nat → Int64} {st : List Value} {a0 a1 a2 a3 : Option Value} {x : Nat} {y : Int32} : mWP tb_L_law Q 1326 [a0, a1, a2, a3] (.int y :: .ref x :: st) ((T, c, s), I, L) = (mTg (T, c, s) x = 0 ∧ vp_in y (mLn (T, c, s) x) ∧ mWP tb_L_law Q 1327 [a0, a1, a2, a3] (.int (I x y.toNatClampNeg) :: st) ((T, c, s), I, L)) := mWP_eq mt_L_law _ _ _ _ _
set_option maxRecDepth 100000 in
theorem e_L_law_1327 {Q : mQo} {T : List mSh} {c s : Nat} {I : Nat → Nat → Int32} {L : Nat → Nat → Int64} {st : List Value} {a0 a1 a2 a3 : Option Value} {v0 : Int32} {v1 : Int32} {v2 : Int32} {v3 : Int32} {o : Nat} : mWP tb_L_law Q 1327 [a0, a1, a2, a3] (.int v3 :: .int v2 :: .int v1 :: .int v0 :: .ref o :: st) ((T, c, s), I, L) = (mTg (T, c, s) o = 13 ∧ (st.map Value.category).sum ≤ 8 ∧ C_X10_reach [.ref o, .int v0, .int v1, .int v2, .int v3] (mZr (T, c, s), I, L) (fun r h' => h'.1 = mZr (T, c, s) ∧ mWP tb_L_law Q 1330 [a0, a1, a2, a3] (r.toList ++ st) ((T, c, s), h'.2))) := (mWP_eq mt_L_law _ _ _ _ _).trans (eq_CV (Q := Q) 4 rfl)
set_option maxRecDepth 100000 in
theorem e_L_law_1330 {Q : mQo} {T : List mSh} {c s : Nat} {I : Nat → Nat → Int32} {L : Nat → Nat → Int64} {st : List Value} {a0 a1 a3 : Option Value} {x : Nat} : mWP tb_L_law Q 1330 [a0, a1, some (.ref x), a3] st ((T, c, s), I, L) = mWP tb_L_law Q 1331 [a0, a1, some (.ref x), a3] (.ref x :: st) ((T, c, s), I, L) := mWP_eq mt_L_law _ _ _ _ _
set_option maxRecDepth 100000 in
theorem e_L_law_1330n {Q : mQo} {T : List mSh} {c s : Nat} {I : Nat → Nat → Int32} {L : Nat → Nat → Int64} {st : List Value} {a0 a1 a3 : Option Value} : mWP tb_L_law Q 1330 [a0, a1, some .null, a3] st ((T, c, s), I, L) = mWP tb_L_law Q 1331 [a0, a1, some .null, a3] (.null :: st) ((T, c, s), I, L) := mWP_eq mt_L_law _ _ _ _ _
set_option maxRecDepth 100000 in
theorem e_L_law_1331 {Q : mQo} {T : List mSh} {c s : Nat} {I : Nat → Nat → Int32} {L : Nat → Nat → Int64} {st : List Value} {a1 a2 a3 : Option Value} {x : Nat} : mWP tb_L_law Q 1331 [some (.ref x), a1, a2, a3] st ((T, c, s), I, L) = mWP tb_L_law Q 1332 [some (.ref x), a1, a2, a3] (.ref x :: st) ((T, c, s), I, L) := mWP_eq mt_L_law _ _ _ _ _
set_option maxRecDepth 100000 in
theorem e_L_law_1331n {Q : mQo} {T : List mSh} {c s : Nat} {I : Nat → Nat → Int32} {L : Nat → Nat → Int64} {st : List Value} {a1 a2 a3 : Option Value} : mWP tb_L_law Q 1331 [some .null, a1, a2, a3] st ((T, c, s), I, L) = mWP tb_L_law Q 1332 [some .null, a1, a2, a3] (.null :: st) ((T, c, s), I, L) := mWP_eq mt_L_law _ _ _ _ _
set_option maxRecDepth 100000 in
theorem e_L_law_1332 {Q : mQo} {T : List mSh} {c s : Nat} {I : Nat → Nat → Int32} {L : Nat → Nat → Int64} {st : List Value} {a0 a1 a2 : Option Value} {x : Int32} : mWP tb_L_law Q 1332 [a0, a1, a2, some (.int x)] st ((T, c, s), I, L) = mWP tb_L_law Q 1333 [a0, a1, a2, some (.int x)] (.int x :: st) ((T, c, s), I, L) := mWP_eq mt_L_law _ _ _ _ _
set_option maxRecDepth 100000 in
theorem e_L_law_1333 {Q : mQo} {T : List mSh} {c s : Nat} {I : Nat → Nat → Int32} {L : Nat → Nat → Int64} {st : List Value} {a0 a1 a2 a3 : Option Value} : mWP tb_L_law Q 1333 [a0, a1, a2, a3] st ((T, c, s), I, L) = mWP tb_L_law Q 1334 [a0, a1, a2, a3] (.int 1 :: st) ((T, c, s), I, L) := mWP_eq mt_L_law _ _ _ _ _
set_option maxRecDepth 100000 in
theorem e_L_law_1334 {Q : mQo} {T : List mSh} {c s : Nat} {I : Nat → Nat → Int32} {L : Nat → Nat → Int64} {st : List Value} {a0 a1 a2 a3 : Option Value} {x y : Int32} : mWP tb_L_law Q 1334 [a0, a1, a2, a3] (.int y :: .int x :: st) ((T, c, s), I, L) = mWP tb_L_law Q 1335 [a0, a1, a2, a3] (.int (x + y) :: st) ((T, c, s), I, L) := mWP_eq mt_L_law _ _ _ _ _
set_option maxRecDepth 100000 in
theorem e_L_law_1335 {Q : mQo} {T : List mSh} {c s : Nat} {I : Nat → Nat → Int32} {L : Nat → Nat → Int64} {st : List Value} {a0 a1 a2 a3 : Option Value} {x : Nat} {y : Int32} : mWP tb_L_law Q 1335 [a0, a1, a2, a3] (.int y :: .ref x :: st) ((T, c, s), I, L) = (mTg (T, c, s) x = 0 ∧ vp_in y (mLn (T, c, s) x) ∧ mWP tb_L_law Q 1336 [a0, a1, a2, a3] (.int (I x y.toNatClampNeg) :: st) ((T, c, s), I, L)) := mWP_eq mt_L_law _ _ _ _ _
set_option maxRecDepth 100000 in
theorem e_L_law_1336 {Q : mQo} {T : List mSh} {c s : Nat} {I : Nat → Nat → Int32} {L : Nat → Nat → Int64} {st : List Value} {a1 a2 a3 : Option Value} {x : Nat} : mWP tb_L_law Q 1336 [some (.ref x), a1, a2, a3] st ((T, c, s), I, L) = mWP tb_L_law Q 1337 [some (.ref x), a1, a2, a3] (.ref x :: st) ((T, c, s), I, L) := mWP_eq mt_L_law _ _ _ _ _
set_option maxRecDepth 100000 in
theorem e_L_law_1336n {Q : mQo} {T : List mSh} {c s : Nat} {I : Nat → Nat → Int32} {L : Nat → Nat → Int64} {st : List Value} {a1 a2 a3 : Option Value} : mWP tb_L_law Q 1336 [some .null, a1, a2, a3] st ((T, c, s), I, L) = mWP tb_L_law Q 1337 [some .null, a1, a2, a3] (.null :: st) ((T, c, s), I, L) := mWP_eq mt_L_law _ _ _ _ _
set_option maxRecDepth 100000 in
theorem e_L_law_1337 {Q : mQo} {T : List mSh} {c s : Nat} {I : Nat → Nat → Int32} {L : Nat → Nat → Int64} {st : List Value} {a0 a1 a2 : Option Value} {x : Int32} : mWP tb_L_law Q 1337 [a0, a1, a2, some (.int x)] st ((T, c, s), I, L) = mWP tb_L_law Q 1338 [a0, a1, a2, some (.int x)] (.int x :: st) ((T, c, s), I, L) := mWP_eq mt_L_law _ _ _ _ _
set_option maxRecDepth 100000 in
theorem e_L_law_1338 {Q : mQo} {T : List mSh} {c s : Nat} {I : Nat → Nat → Int32} {L : Nat → Nat → Int64} {st : List Value} {a0 a1 a2 a3 : Option Value} : mWP tb_L_law Q 1338 [a0, a1, a2, a3] st ((T, c, s), I, L) = mWP tb_L_law Q 1339 [a0, a1, a2, a3] (.int 2 :: st) ((T, c, s), I, L) := mWP_eq mt_L_law _ _ _ _ _
set_option maxRecDepth 100000 in
theorem e_L_law_1339 {Q : mQo} {T : List mSh} {c s : Nat} {I : Nat → Nat → Int32} {L : Nat → Nat → Int64} {st : List Value} {a0 a1 a2 a3 : Option Value} {x y : Int32} : mWP tb_L_law Q 1339 [a0, a1, a2, a3] (.int y :: .int x :: st) ((T, c, s), I, L) = mWP tb_L_law Q 1340 [a0, a1, a2, a3] (.int (x + y) :: st) ((T, c, s), I, L) := mWP_eq mt_L_law _ _ _ _ _
set_option maxRecDepth 100000 in
theorem e_L_law_1340 {Q : mQo} {T : List mSh} {c s : Nat} {I : Nat → Nat → Int32} {L : Nat → Nat → Int64} {st : List Value} {a0 a1 a2 a3 : Option Value} {x : Nat} {y : Int32} : mWP tb_L_law Q 1340 [a0, a1, a2, a3] (.int y :: .ref x :: st) ((T, c, s), I, L) = (mTg (T, c, s) x = 0 ∧ vp_in y (mLn (T, c, s) x) ∧ mWP tb_L_law Q 1341 [a0, a1, a2, a3] (.int (I x y.toNatClampNeg) :: st) ((T, c, s), I, L)) := mWP_eq mt_L_law _ _ _ _ _
set_option maxRecDepth 100000 in
theorem e_L_law_1341 {Q : mQo} {T : List mSh} {c s : Nat} {I : Nat → Nat → Int32} {L : Nat → Nat → Int64} {st : List Value} {a1 a2 a3 : Option Value} {x : Nat} : mWP tb_L_law Q 1341 [some (.ref x), a1, a2, a3] st ((T, c, s), I, L) = mWP tb_L_law Q 1342 [some (.ref x), a1, a2, a3] (.ref x :: st) ((T, c, s), I, L) := mWP_eq mt_L_law _ _ _ _ _
set_option maxRecDepth 100000 in
theorem e_L_law_1341n {Q : mQo} {T : List mSh} {c s : Nat} {I : Nat → Nat → Int32} {L : Nat → Nat → Int64} {st : List Value} {a1 a2 a3 : Option Value} : mWP tb_L_law Q 1341 [some .null, a1, a2, a3] st ((T, c, s), I, L) = mWP tb_L_law Q 1342 [some .null, a1, a2, a3] (.null :: st) ((T, c, s), I, L) := mWP_eq mt_L_law _ _ _ _ _
set_option maxRecDepth 100000 in
theorem e_L_law_1342 {Q : mQo} {T : List mSh} {c s : Nat} {I : Nat → Nat → Int32} {L : Nat → Nat → Int64} {st : List Value} {a0 a1 a2 : Option Value} {x : Int32} : mWP tb_L_law Q 1342 [a0, a1, a2, some (.int x)] st ((T, c, s), I, L) = mWP tb_L_law Q 1343 [a0, a1, a2, some (.int x)] (.int x :: st) ((T, c, s), I, L) := mWP_eq mt_L_law _ _ _ _ _
set_option maxRecDepth 100000 in
theorem e_L_law_1343 {Q : mQo} {T : List mSh} {c s : Nat} {I : Nat → Nat → Int32} {L : Nat → Nat → Int64} {st : List Value} {a0 a1 a2 a3 : Option Value} : mWP tb_L_law Q 1343 [a0, a1, a2, a3] st ((T, c, s), I, L) = mWP tb_L_law Q 1344 [a0, a1, a2, a3] (.int 3 :: st) ((T, c, s), I, L) := mWP_eq mt_L_law _ _ _ _ _
set_option maxRecDepth 100000 in
theorem e_L_law_1344 {Q : mQo} {T : List mSh} {c s : Nat} {I : Nat → Nat → Int32} {L : Nat → Nat → Int64} {st : List Value} {a0 a1 a2 a3 : Option Value} {x y : Int32} : mWP tb_L_law Q 1344 [a0, a1, a2, a3] (.int y :: .int x :: st) ((T, c, s), I, L) = mWP tb_L_law Q 1345 [a0, a1, a2, a3] (.int (x + y) :: st) ((T, c, s), I, L) := mWP_eq mt_L_law _ _ _ _ _
set_option maxRecDepth 100000 in
theorem e_L_law_1345 {Q : mQo} {T : List mSh} {c s : Nat} {I : Nat → Nat → Int32} {L : Nat → Nat → Int64} {st : List Value} {a0 a1 a2 a3 : Option Value} {x : Nat} {y : Int32} : mWP tb_L_law Q 1345 [a0, a1, a2, a3] (.int y :: .ref x :: st) ((T, c, s), I, L) = (mTg (T, c, s) x = 0 ∧ vp_in y (mLn (T, c, s) x) ∧ mWP tb_L_law Q 1346 [a0, a1, a2, a3] (.int (I x y.toNatClampNeg) :: st) ((T, c, s), I, L)) := mWP_eq mt_L_law _ _ _ _ _
set_option maxRecDepth 100000 in
theorem e_L_law_1346 {Q : mQo} {T : List mSh} {c s : Nat} {I : Nat → Nat → Int32} {L : Nat → Nat → Int64} {st : List Value} {a1 a2 a3 : Option Value} {x : Nat} : mWP tb_L_law Q 1346 [some (.ref x), a1, a2, a3] st ((T, c, s), I, L) = mWP tb_L_law Q 1347 [some (.ref x), a1, a2, a3] (.ref x :: st) ((T, c, s), I, L) := mWP_eq mt_L_law _ _ _ _ _
set_option maxRecDepth 100000 in
theorem e_L_law_1346n {Q : mQo} {T : List mSh} {c s : Nat} {I : Nat → Nat → Int32} {L : Nat → Nat → Int64} {st : List Value} {a1 a2 a3 : Option Value} : mWP tb_L_law Q 1346 [some .null, a1, a2, a3] st ((T, c, s), I, L) = mWP tb_L_law Q 1347 [some .null, a1, a2, a3] (.null :: st) ((T, c, s), I, L) := mWP_eq mt_L_law _ _ _ _ _
set_option maxRecDepth 100000 in
theorem e_L_law_1347 {Q : mQo} {T : List mSh} {c s : Nat} {I : Nat → Nat → Int32} {L : Nat → Nat → Int64} {st : List Value} {a0 a1 a2 : Option Value} {x : Int32} : mWP tb_L_law Q 1347 [a0, a1, a2, some (.int x)] st ((T, c, s), I, L) = mWP tb_L_law Q 1348 [a0, a1, a2, some (.int x)] (.int x :: st) ((T, c, s), I, L) := mWP_eq mt_L_law _ _ _ _ _
set_option maxRecDepth 100000 in
theorem e_L_law_1348 {Q : mQo} {T : List mSh} {c s : Nat} {I : Nat → Nat → Int32} {L : Nat → Nat → Int64} {st : List Value} {a0 a1 a2 a3 : Option Value} : mWP tb_L_law Q 1348 [a0, a1, a2, a3] st ((T, c, s), I, L) = mWP tb_L_law Q 1349 [a0, a1, a2, a3] (.int 4 :: st) ((T, c, s), I, L) := mWP_eq mt_L_law _ _ _ _ _
set_option maxRecDepth 100000 in
theorem e_L_law_1349 {Q : mQo} {T : List mSh} {c s : Nat} {I : Nat → Nat → Int32} {L : Nat → Nat → Int64} {st : List Value} {a0 a1 a2 a3 : Option Value} {x y : Int32} : mWP tb_L_law Q 1349 [a0, a1, a2, a3] (.int y :: .int x :: st) ((T, c, s), I, L) = mWP tb_L_law Q 1350 [a0, a1, a2, a3] (.int (x + y) :: st) ((T, c, s), I, L) := mWP_eq mt_L_law _ _ _ _ _
set_option maxRecDepth 100000 in
theorem e_L_law_1350 {Q : mQo} {T : List mSh} {c s : Nat} {I : Nat → Nat → Int32} {L : Nat → Nat → Int64} {st : List Value} {a0 a1 a2 a3 : Option Value} {x : Nat} {y : Int32} : mWP tb_L_law Q 1350 [a0, a1, a2, a3] (.int y :: .ref x :: st) ((T, c, s), I, L) = (mTg (T, c, s) x = 0 ∧ vp_in y (mLn (T, c, s) x) ∧ mWP tb_L_law Q 1351 [a0, a1, a2, a3] (.int (I x y.toNatClampNeg) :: st) ((T, c, s), I, L)) := mWP_eq mt_L_law _ _ _ _ _
set_option maxRecDepth 100000 in
theorem e_L_law_1351 {Q : mQo} {T : List mSh} {c s : Nat} {I : Nat → Nat → Int32} {L : Nat → Nat → Int64} {st : List Value} {a0 a1 a2 a3 : Option Value} {v0 : Int32} {v1 : Int32} {v2 : Int32} {v3 : Int32} {o : Nat} : mWP tb_L_law Q 1351 [a0, a1, a2, a3] (.int v3 :: .int v2 :: .int v1 :: .int v0 :: .ref o :: st) ((T, c, s), I, L) = (mTg (T, c, s) o = 14 ∧ (st.map Value.category).sum ≤ 8 ∧ C_X11_reach [.ref o, .int v0, .int v1, .int v2, .int v3] (mZr (T, c, s), I, L) (fun r h' => h'.1 = mZr (T, c, s) ∧ mWP tb_L_law Q 1354 [a0, a1, a2, a3] (r.toList ++ st) ((T, c, s), h'.2))) := (mWP_eq mt_L_law _ _ _ _ _).trans (eq_CV (Q := Q) 4 rfl)
set_option maxRecDepth 100000 in
theorem e_L_law_1354 {Q : mQo} {T : List mSh} {c s : Nat} {I : Nat → Nat → Int32} {L : Nat → Nat → Int64} {st : List Value} {a0 a1 a2 a3 : Option Value} {x y : Int64} : mWP tb_L_law Q 1354 [a0, a1, a2, a3] (.long y :: .long x :: st) ((T, c, s), I, L) = mWP tb_L_law Q 1355 [a0, a1, a2, a3] (.int (lg_cmp x y) :: st) ((T, c, s), I, L) := mWP_eq mt_L_law _ _ _ _ _
set_option maxRecDepth 100000 in
theorem e_L_law_1355 {Q : mQo} {T : List mSh} {c s : Nat} {I : Nat → Nat → Int32} {L : Nat → Nat → Int64} {st : List Value} {a0 a1 a2 a3 : Option Value} {x : Int32} : mWP tb_L_law Q 1355 [a0, a1, a2, a3] (.int x :: st) ((T, c, s), I, L) = ((x = 0 → mWP tb_L_law Q 1460 [a0, a1, a2, a3] st ((T, c, s), I, L)) ∧ (¬ (x = 0) → mWP tb_L_law Q 1358 [a0, a1, a2, a3] st ((T, c, s), I, L))) := mWP_eq mt_L_law _ _ _ _ _
set_option maxRecDepth 100000 in
theorem e_L_law_1358 {Q : mQo} {T : List mSh} {c s : Nat} {I : Nat → Nat → Int32} {L : Nat → Nat → Int64} {st : List Value} {a0 a1 a2 a3 : Option Value} : mWP tb_L_law Q 1358 [a0, a1, a2, a3] st ((T, c, s), I, L) = mWP tb_L_law Q 1359 [a0, a1, a2, a3] (.int 0 :: st) ((T, c, s), I, L) := mWP_eq mt_L_law _ _ _ _ _
set_option maxRecDepth 100000 in
theorem e_L_law_1359 {Q : mQo} {T : List mSh} {c s : Nat} {I : Nat → Nat → Int32} {L : Nat → Nat → Int64} {a0 a1 a2 a3 : Option Value} {x : Int32} : mWP tb_L_law Q 1359 [a0, a1, a2, a3] [.int x] ((T, c, s), I, L) = ((x = 0 ∨ x = 1) ∧ Q (some (.int x)) ((T, c, s), I, L)) := mWP_eq mt_L_law _ _ _ _ _
set_option maxRecDepth 100000 in
theorem e_L_law_1360 {Q : mQo} {T : List mSh} {c s : Nat} {I : Nat → Nat → Int32} {L : Nat → Nat → Int64} {st : List Value} {a0 a2 a3 : Option Value} {x : Nat} : mWP tb_L_law Q 1360 [a0, some (.ref x), a2, a3] st ((T, c, s), I, L) = mWP tb_L_law Q 1361 [a0, some (.ref x), a2, a3] (.ref x :: st) ((T, c, s), I, L) := mWP_eq mt_L_law _ _ _ _ _
set_option maxRecDepth 100000 in
theorem e_L_law_1360n {Q : mQo} {T : List mSh} {c s : Nat} {I : Nat → Nat → Int32} {L : Nat → Nat → Int64} {st : List Value} {a0 a2 a3 : Option Value} : mWP tb_L_law Q 1360 [a0, some .null, a2, a3] st ((T, c, s), I, L) = mWP tb_L_law Q 1361 [a0, some .null, a2, a3] (.null :: st) ((T, c, s), I, L) := mWP_eq mt_L_law _ _ _ _ _
set_option maxRecDepth 100000 in
theorem e_L_law_1361 {Q : mQo} {T : List mSh} {c s : Nat} {I : Nat → Nat → Int32} {L : Nat → Nat → Int64} {st : List Value} {a1 a2 a3 : Option Value} {x : Nat} : mWP tb_L_law Q 1361 [some (.ref x), a1, a2, a3] st ((T, c, s), I, L) = mWP tb_L_law Q 1362 [some (.ref x), a1, a2, a3] (.ref x :: st) ((T, c, s), I, L) := mWP_eq mt_L_law _ _ _ _ _
set_option maxRecDepth 100000 in
theorem e_L_law_1361n {Q : mQo} {T : List mSh} {c s : Nat} {I : Nat → Nat → Int32} {L : Nat → Nat → Int64} {st : List Value} {a1 a2 a3 : Option Value} : mWP tb_L_law Q 1361 [some .null, a1, a2, a3] st ((T, c, s), I, L) = mWP tb_L_law Q 1362 [some .null, a1, a2, a3] (.null :: st) ((T, c, s), I, L) := mWP_eq mt_L_law _ _ _ _ _
set_option maxRecDepth 100000 in
theorem e_L_law_1362 {Q : mQo} {T : List mSh} {c s : Nat} {I : Nat → Nat → Int32} {L : Nat → Nat → Int64} {st : List Value} {a0 a1 a2 : Option Value} {x : Int32} : mWP tb_L_law Q 1362 [a0, a1, a2, some (.int x)] st ((T, c, s), I, L) = mWP tb_L_law Q 1363 [a0, a1, a2, some (.int x)] (.int x :: st) ((T, c, s), I, L) := mWP_eq mt_L_law _ _ _ _ _
set_option maxRecDepth 100000 in
theorem e_L_law_1363 {Q : mQo} {T : List mSh} {c s : Nat} {I : Nat → Nat → Int32} {L : Nat → Nat → Int64} {st : List Value} {a0 a1 a2 a3 : Option Value} : mWP tb_L_law Q 1363 [a0, a1, a2, a3] st ((T, c, s), I, L) = mWP tb_L_law Q 1364 [a0, a1, a2, a3] (.int 1 :: st) ((T, c, s), I, L) := mWP_eq mt_L_law _ _ _ _ _
set_option maxRecDepth 100000 in
theorem e_L_law_1364 {Q : mQo} {T : List mSh} {c s : Nat} {I : Nat → Nat → Int32} {L : Nat → Nat → Int64} {st : List Value} {a0 a1 a2 a3 : Option Value} {x y : Int32} : mWP tb_L_law Q 1364 [a0, a1, a2, a3] (.int y :: .int x :: st) ((T, c, s), I, L) = mWP tb_L_law Q 1365 [a0, a1, a2, a3] (.int (x + y) :: st) ((T, c, s), I, L) := mWP_eq mt_L_law _ _ _ _ _
set_option maxRecDepth 100000 in
theorem e_L_law_1365 {Q : mQo} {T : List mSh} {c s : Nat} {I : Nat → Nat → Int32} {L : Nat → Nat → Int64} {st : List Value} {a0 a1 a2 a3 : Option Value} {x : Nat} {y : Int32} : mWP tb_L_law Q 1365 [a0, a1, a2, a3] (.int y :: .ref x :: st) ((T, c, s), I, L) = (mTg (T, c, s) x = 0 ∧ vp_in y (mLn (T, c, s) x) ∧ mWP tb_L_law Q 1366 [a0, a1, a2, a3] (.int (I x y.toNatClampNeg) :: st) ((T, c, s), I, L)) := mWP_eq mt_L_law _ _ _ _ _
set_option maxRecDepth 100000 in
theorem e_L_law_1366 {Q : mQo} {T : List mSh} {c s : Nat} {I : Nat → Nat → Int32} {L : Nat → Nat → Int64} {st : List Value} {a0 a1 a2 a3 : Option Value} {v0 : Int32} {o : Nat} : mWP tb_L_law Q 1366 [a0, a1, a2, a3] (.int v0 :: .ref o :: st) ((T, c, s), I, L) = (mTg (T, c, s) o = 13 ∧ (st.map Value.category).sum ≤ 8 ∧ C_X10_tangle [.ref o, .int v0] (mZr (T, c, s), I, L) (fun r h' => h'.1 = mZr (T, c, s) ∧ mWP tb_L_law Q 1369 [a0, a1, a2, a3] (r.toList ++ st) ((T, c, s), h'.2))) := (mWP_eq mt_L_law _ _ _ _ _).trans (eq_CV (Q := Q) 1 rfl)
set_option maxRecDepth 100000 in
theorem e_L_law_1369 {Q : mQo} {T : List mSh} {c s : Nat} {I : Nat → Nat → Int32} {L : Nat → Nat → Int64} {st : List Value} {a0 a1 a3 : Option Value} {x : Nat} : mWP tb_L_law Q 1369 [a0, a1, some (.ref x), a3] st ((T, c, s), I, L) = mWP tb_L_law Q 1370 [a0, a1, some (.ref x), a3] (.ref x :: st) ((T, c, s), I, L) := mWP_eq mt_L_law _ _ _ _ _
set_option maxRecDepth 100000 in
theorem e_L_law_1369n {Q : mQo} {T : List mSh} {c s : Nat} {I : Nat → Nat → Int32} {L : Nat → Nat → Int64} {st : List Value} {a0 a1 a3 : Option Value} : mWP tb_L_law Q 1369 [a0, a1, some .null, a3] st ((T, c, s), I, L) = mWP tb_L_law Q 1370 [a0, a1, some .null, a3] (.null :: st) ((T, c, s), I, L) := mWP_eq mt_L_law _ _ _ _ _
set_option maxRecDepth 100000 in
theorem e_L_law_1370 {Q : mQo} {T : List mSh} {c s : Nat} {I : Nat → Nat → Int32} {L : Nat → Nat → Int64} {st : List Value} {a1 a2 a3 : Option Value} {x : Nat} : mWP tb_L_law Q 1370 [some (.ref x), a1, a2, a3] st ((T, c, s), I, L) = mWP tb_L_law Q 1371 [some (.ref x), a1, a2, a3] (.ref x :: st) ((T, c, s), I, L) := mWP_eq mt_L_law _ _ _ _ _
set_option maxRecDepth 100000 in
theorem e_L_law_1370n {Q : mQo} {T : List mSh} {c s : Nat} {I : Nat → Nat → Int32} {L : Nat → Nat → Int64} {st : List Value} {a1 a2 a3 : Option Value} : mWP tb_L_law Q 1370 [some .null, a1, a2, a3] st ((T, c, s), I, L) = mWP tb_L_law Q 1371 [some .null, a1, a2, a3] (.null :: st) ((T, c, s), I, L) := mWP_eq mt_L_law _ _ _ _ _
set_option maxRecDepth 100000 in
theorem e_L_law_1371 {Q : mQo} {T : List mSh} {c s : Nat} {I : Nat → Nat → Int32} {L : Nat → Nat → Int64} {st : List Value} {a0 a1 a2 : Option Value} {x : Int32} : mWP tb_L_law Q 1371 [a0, a1, a2, some (.int x)] st ((T, c, s), I, L) = mWP tb_L_law Q 1372 [a0, a1, a2, some (.int x)] (.int x :: st) ((T, c, s), I, L) := mWP_eq mt_L_law _ _ _ _ _
set_option maxRecDepth 100000 in
theorem e_L_law_1372 {Q : mQo} {T : List mSh} {c s : Nat} {I : Nat → Nat → Int32} {L : Nat → Nat → Int64} {st : List Value} {a0 a1 a2 a3 : Option Value} : mWP tb_L_law Q 1372 [a0, a1, a2, a3] st ((T, c, s), I, L) = mWP tb_L_law Q 1373 [a0, a1, a2, a3] (.int 1 :: st) ((T, c, s), I, L) := mWP_eq mt_L_law _ _ _ _ _
set_option maxRecDepth 100000 in
theorem e_L_law_1373 {Q : mQo} {T : List mSh} {c s : Nat} {I : Nat → Nat → Int32} {L : Nat → Nat → Int64} {st : List Value} {a0 a1 a2 a3 : Option Value} {x y : Int32} : mWP tb_L_law Q 1373 [a0, a1, a2, a3] (.int y :: .int x :: st) ((T, c, s), I, L) = mWP tb_L_law Q 1374 [a0, a1, a2, a3] (.int (x + y) :: st) ((T, c, s), I, L) := mWP_eq mt_L_law _ _ _ _ _
set_option maxRecDepth 100000 in
theorem e_L_law_1374 {Q : mQo} {T : List mSh} {c s : Nat} {I : Nat → Nat → Int32} {L : Nat → Nat → Int64} {st : List Value} {a0 a1 a2 a3 : Option Value} {x : Nat} {y : Int32} : mWP tb_L_law Q 1374 [a0, a1, a2, a3] (.int y :: .ref x :: st) ((T, c, s), I, L) = (mTg (T, c, s) x = 0 ∧ vp_in y (mLn (T, c, s) x) ∧ mWP tb_L_law Q 1375 [a0, a1, a2, a3] (.int (I x y.toNatClampNeg) :: st) ((T, c, s), I, L)) := mWP_eq mt_L_law _ _ _ _ _
set_option maxRecDepth 100000 in
theorem e_L_law_1375 {Q : mQo} {T : List mSh} {c s : Nat} {I : Nat → Nat → Int32} {L : Nat → Nat → Int64} {st : List Value} {a0 a1 a2 a3 : Option Value} {v0 : Int32} {o : Nat} : mWP tb_L_law Q 1375 [a0, a1, a2, a3] (.int v0 :: .ref o :: st) ((T, c, s), I, L) = (mTg (T, c, s) o = 14 ∧ (st.map Value.category).sum ≤ 8 ∧ C_X11_tangle [.ref o, .int v0] (mZr (T, c, s), I, L) (fun r h' => h'.1 = mZr (T, c, s) ∧ mWP tb_L_law Q 1378 [a0, a1, a2, a3] (r.toList ++ st) ((T, c, s), h'.2))) := (mWP_eq mt_L_law _ _ _ _ _).trans (eq_CV (Q := Q) 1 rfl)
set_option maxRecDepth 100000 in
theorem e_L_law_1378 {Q : mQo} {T : List mSh} {c s : Nat} {I : Nat → Nat → Int32} {L : Nat → Nat → Int64} {st : List Value} {a0 a1 a2 a3 : Option Value} {x y : Int64} : mWP tb_L_law Q 1378 [a0, a1, a2, a3] (.long y :: .long x :: st) ((T, c, s), I, L) = mWP tb_L_law Q 1379 [a0, a1, a2, a3] (.int (lg_cmp x y) :: st) ((T, c, s), I, L) := mWP_eq mt_L_law _ _ _ _ _
set_option maxRecDepth 100000 in
theorem e_L_law_1379 {Q : mQo} {T : List mSh} {c s : Nat} {I : Nat → Nat → Int32} {L : Nat → Nat → Int64} {st : List Value} {a0 a1 a2 a3 : Option Value} {x : Int32} : mWP tb_L_law Q 1379 [a0, a1, a2, a3] (.int x :: st) ((T, c, s), I, L) = ((x = 0 → mWP tb_L_law Q 1460 [a0, a1, a2, a3] st ((T, c, s), I, L)) ∧ (¬ (x = 0) → mWP tb_L_law Q 1382 [a0, a1, a2, a3] st ((T, c, s), I, L))) := mWP_eq mt_L_law _ _ _ _ _
set_option maxRecDepth 100000 in
theorem e_L_law_1382 {Q : mQo} {T : List mSh} {c s : Nat} {I : Nat → Nat → Int32} {L : Nat → Nat → Int64} {st : List Value} {a0 a1 a2 a3 : Option Value} : mWP tb_L_law Q 1382 [a0, a1, a2, a3] st ((T, c, s), I, L) = mWP tb_L_law Q 1383 [a0, a1, a2, a3] (.int 0 :: st) ((T, c, s), I, L) := mWP_eq mt_L_law _ _ _ _ _
set_option maxRecDepth 100000 in
theorem e_L_law_1383 {Q : mQo} {T : List mSh} {c s : Nat} {I : Nat → Nat → Int32} {L : Nat → Nat → Int64} {a0 a1 a2 a3 : Option Value} {x : Int32} : mWP tb_L_law Q 1383 [a0, a1, a2, a3] [.int x] ((T, c, s), I, L) = ((x = 0 ∨ x = 1) ∧ Q (some (.int x)) ((T, c, s), I, L)) := mWP_eq mt_L_law _ _ _ _ _
set_option maxRecDepth 100000 in
theorem e_L_law_1384 {Q : mQo} {T : List mSh} {c s : Nat} {I : Nat → Nat → Int32} {L : Nat → Nat → Int64} {st : List Value} {a0 a2 a3 : Option Value} {x : Nat} : mWP tb_L_law Q 1384 [a0, some (.ref x), a2, a3] st ((T, c, s), I, L) = mWP tb_L_law Q 1385 [a0, some (.ref x), a2, a3] (.ref x :: st) ((T, c, s), I, L) := mWP_eq mt_L_law _ _ _ _ _
set_option maxRecDepth 100000 in
theorem e_L_law_1384n {Q : mQo} {T : List mSh} {c s : Nat} {I : Nat → Nat → Int32} {L : Nat → Nat → Int64} {st : List Value} {a0 a2 a3 : Option Value} : mWP tb_L_law Q 1384 [a0, some .null, a2, a3] st ((T, c, s), I, L) = mWP tb_L_law Q 1385 [a0, some .null, a2, a3] (.null :: st) ((T, c, s), I, L) := mWP_eq mt_L_law _ _ _ _ _
set_option maxRecDepth 100000 in
theorem e_L_law_1385 {Q : mQo} {T : List mSh} {c s : Nat} {I : Nat → Nat → Int32} {L : Nat → Nat → Int64} {st : List Value} {a0 a1 a2 a3 : Option Value} {o : Nat} : mWP tb_L_law Q 1385 [a0, a1, a2, a3] (.ref o :: st) ((T, c, s), I, L) = (mTg (T, c, s) o = 13 ∧ (st.map Value.category).sum ≤ 8 ∧ C_X10_meet [.ref o] (mZr (T, c, s), I, L) (fun r h' => h'.1 = mZr (T, c, s) ∧ mWP tb_L_law Q 1388 [a0, a1, a2, a3] (r.toList ++ st) ((T, c, s), h'.2))) := (mWP_eq mt_L_law _ _ _ _ _).trans (eq_CV (Q := Q) 0 rfl)
set_option maxRecDepth 100000 in
theorem e_L_law_1388 {Q : mQo} {T : List mSh} {c s : Nat} {I : Nat → Nat → Int32} {L : Nat → Nat → Int64} {st : List Value} {a0 a1 a3 : Option Value} {x : Nat} : mWP tb_L_law Q 1388 [a0, a1, some (.ref x), a3] st ((T, c, s), I, L) = mWP tb_L_law Q 1389 [a0, a1, some (.ref x), a3] (.ref x :: st) ((T, c, s), I, L) := mWP_eq mt_L_law _ _ _ _ _
set_option maxRecDepth 100000 in
theorem e_L_law_1388n {Q : mQo} {T : List mSh} {c s : Nat} {I : Nat → Nat → Int32} {L : Nat → Nat → Int64} {st : List Value} {a0 a1 a3 : Option Value} : mWP tb_L_law Q 1388 [a0, a1, some .null, a3] st ((T, c, s), I, L) = mWP tb_L_law Q 1389 [a0, a1, some .null, a3] (.null :: st) ((T, c, s), I, L) := mWP_eq mt_L_law _ _ _ _ _
set_option maxRecDepth 100000 in
theorem e_L_law_1389 {Q : mQo} {T : List mSh} {c s : Nat} {I : Nat → Nat → Int32} {L : Nat → Nat → Int64} {st : List Value} {a0 a1 a2 a3 : Option Value} {o : Nat} : mWP tb_L_law Q 1389 [a0, a1, a2, a3] (.ref o :: st) ((T, c, s), I, L) = (mTg (T, c, s) o = 14 ∧ (st.map Value.category).sum ≤ 8 ∧ C_X11_meet [.ref o] (mZr (T, c, s), I, L) (fun r h' => h'.1 = mZr (T, c, s) ∧ mWP tb_L_law Q 1392 [a0, a1, a2, a3] (r.toList ++ st) ((T, c, s), h'.2))) := (mWP_eq mt_L_law _ _ _ _ _).trans (eq_CV (Q := Q) 0 rfl)
set_option maxRecDepth 100000 in
theorem e_L_law_1392 {Q : mQo} {T : List mSh} {c s : Nat} {I : Nat → Nat → Int32} {L : Nat → Nat → Int64} {st : List Value} {a0 a1 a2 a3 : Option Value} {x y : Int64} : mWP tb_L_law Q 1392 [a0, a1, a2, a3] (.long y :: .long x :: st) ((T, c, s), I, L) = mWP tb_L_law Q 1393 [a0, a1, a2, a3] (.int (lg_cmp x y) :: st) ((T, c, s), I, L) := mWP_eq mt_L_law _ _ _ _ _
set_option maxRecDepth 100000 in
theorem e_L_law_1393 {Q : mQo} {T : List mSh} {c s : Nat} {I : Nat → Nat → Int32} {L : Nat → Nat → Int64} {st : List Value} {a0 a1 a2 a3 : Option Value} {x : Int32} : mWP tb_L_law Q 1393 [a0, a1, a2, a3] (.int x :: st) ((T, c, s), I, L) = ((x = 0 → mWP tb_L_law Q 1460 [a0, a1, a2, a3] st ((T, c, s), I, L)) ∧ (¬ (x = 0) → mWP tb_L_law Q 1396 [a0, a1, a2, a3] st ((T, c, s), I, L))) := mWP_eq mt_L_law _ _ _ _ _
set_option maxRecDepth 100000 in
theorem e_L_law_1396 {Q : mQo} {T : List mSh} {c s : Nat} {I : Nat → Nat → Int32} {L : Nat → Nat → Int64} {st : List Value} {a0 a1 a2 a3 : Option Value} : mWP tb_L_law Q 1396 [a0, a1, a2, a3] st ((T, c, s), I, L) = mWP tb_L_law Q 1397 [a0, a1, a2, a3] (.int 0 :: st) ((T, c, s), I, L) := mWP_eq mt_L_law _ _ _ _ _
set_option maxRecDepth 100000 in
theorem e_L_law_1397 {Q : mQo} {T : List mSh} {c s : Nat} {I : Nat → Nat → Int32} {L : Nat → Nat → Int64} {a0 a1 a2 a3 : Option Value} {x : Int32} : mWP tb_L_law Q 1397 [a0, a1, a2, a3] [.int x] ((T, c, s), I, L) = ((x = 0 ∨ x = 1) ∧ Q (some (.int x)) ((T, c, s), I, L)) := mWP_eq mt_L_law _ _ _ _ _
set_option maxRecDepth 100000 in
theorem e_L_law_1398 {Q : mQo} {T : List mSh} {c s : Nat} {I : Nat → Nat → Int32} {L : Nat → Nat → Int64} {st : List Value} {a0 a2 a3 : Option Value} {x : Nat} : mWP tb_L_law Q 1398 [a0, some (.ref x), a2, a3] st ((T, c, s), I, L) = mWP tb_L_law Q 1399 [a0, some (.ref x), a2, a3] (.ref x :: st) ((T, c, s), I, L) := mWP_eq mt_L_law _ _ _ _ _
set_option maxRecDepth 100000 in
theorem e_L_law_1398n {Q : mQo} {T : List mSh} {c s : Nat} {I : Nat → Nat → Int32} {L : Nat → Nat → Int64} {st : List Value} {a0 a2 a3 : Option Value} : mWP tb_L_law Q 1398 [a0, some .null, a2, a3] st ((T, c, s), I, L) = mWP tb_L_law Q 1399 [a0, some .null, a2, a3] (.null :: st) ((T, c, s), I, L) := mWP_eq mt_L_law _ _ _ _ _
set_option maxRecDepth 100000 in
theorem e_L_law_1399 {Q : mQo} {T : List mSh} {c s : Nat} {I : Nat → Nat → Int32} {L : Nat → Nat → Int64} {st : List Value} {a1 a2 a3 : Option Value} {x : Nat} : mWP tb_L_law Q 1399 [some (.ref x), a1, a2, a3] st ((T, c, s), I, L) = mWP tb_L_law Q 1400 [some (.ref x), a1, a2, a3] (.ref x :: st) ((T, c, s), I, L) := mWP_eq mt_L_law _ _ _ _ _
set_option maxRecDepth 100000 in
theorem e_L_law_1399n {Q : mQo} {T : List mSh} {c s : Nat} {I : Nat → Nat → Int32} {L : Nat → Nat → Int64} {st : List Value} {a1 a2 a3 : Option Value} : mWP tb_L_law Q 1399 [some .null, a1, a2, a3] st ((T, c, s), I, L) = mWP tb_L_law Q 1400 [some .null, a1, a2, a3] (.null :: st) ((T, c, s), I, L) := mWP_eq mt_L_law _ _ _ _ _
set_option maxRecDepth 100000 in
theorem e_L_law_1400 {Q : mQo} {T : List mSh} {c s : Nat} {I : Nat → Nat → Int32} {L : Nat → Nat → Int64} {st : List Value} {a0 a1 a2 : Option Value} {x : Int32} : mWP tb_L_law Q 1400 [a0, a1, a2, some (.int x)] st ((T, c, s), I, L) = mWP tb_L_law Q 1401 [a0, a1, a2, some (.int x)] (.int x :: st) ((T, c, s), I, L) := mWP_eq mt_L_law _ _ _ _ _
set_option maxRecDepth 100000 in
theorem e_L_law_1401 {Q : mQo} {T : List mSh} {c s : Nat} {I : Nat → Nat → Int32} {L : Nat → Nat → Int64} {st : List Value} {a0 a1 a2 a3 : Option Value} : mWP tb_L_law Q 1401 [a0, a1, a2, a3] st ((T, c, s), I, L) = mWP tb_L_law Q 1402 [a0, a1, a2, a3] (.int 1 :: st) ((T, c, s), I, L) := mWP_eq mt_L_law _ _ _ _ _
set_option maxRecDepth 100000 in
theorem e_L_law_1402 {Q : mQo} {T : List mSh} {c s : Nat} {I : Nat → Nat → Int32} {L : Nat → Nat → Int64} {st : List Value} {a0 a1 a2 a3 : Option Value} {x y : Int32} : mWP tb_L_law Q 1402 [a0, a1, a2, a3] (.int y :: .int x :: st) ((T, c, s), I, L) = mWP tb_L_law Q 1403 [a0, a1, a2, a3] (.int (x + y) :: st) ((T, c, s), I, L) := mWP_eq mt_L_law _ _ _ _ _
set_option maxRecDepth 100000 in
theorem e_L_law_1403 {Q : mQo} {T : List mSh} {c s : Nat} {I : Nat → Nat → Int32} {L : Nat → Nat → Int64} {st : List Value} {a0 a1 a2 a3 : Option Value} {x : Nat} {y : Int32} : mWP tb_L_law Q 1403 [a0, a1, a2, a3] (.int y :: .ref x :: st) ((T, c, s), I, L) = (mTg (T, c, s) x = 0 ∧ vp_in y (mLn (T, c, s) x) ∧ mWP tb_L_law Q 1404 [a0, a1, a2, a3] (.int (I x y.toNatClampNeg) :: st) ((T, c, s), I, L)) := mWP_eq mt_L_law _ _ _ _ _
set_option maxRecDepth 100000 in
theorem e_L_law_1404 {Q : mQo} {T : List mSh} {c s : Nat} {I : Nat → Nat → Int32} {L : Nat → Nat → Int64} {st : List Value} {a0 a1 a2 a3 : Option Value} {v0 : Int32} {o : Nat} : mWP tb_L_law Q 1404 [a0, a1, a2, a3] (.int v0 :: .ref o :: st) ((T, c, s), I, L) = (mTg (T, c, s) o = 13 ∧ (st.map Value.category).sum ≤ 8 ∧ C_X10_mirror [.ref o, .int v0] (mZr (T, c, s), I, L) (fun r h' => h'.1 = mZr (T, c, s) ∧ mWP tb_L_law Q 1407 [a0, a1, a2, a3] (r.toList ++ st) ((T, c, s), h'.2))) := (mWP_eq mt_L_law _ _ _ _ _).trans (eq_CV (Q := Q) 1 rfl)
set_option maxRecDepth 100000 in
theorem e_L_law_1407 {Q : mQo} {T : List mSh} {c s : Nat} {I : Nat → Nat → Int32} {L : Nat → Nat → Int64} {st : List Value} {a0 a1 a3 : Option Value} {x : Nat} : mWP tb_L_law Q 1407 [a0, a1, some (.ref x), a3] st ((T, c, s), I, L) = mWP tb_L_law Q 1408 [a0, a1, some (.ref x), a3] (.ref x :: st) ((T, c, s), I, L) := mWP_eq mt_L_law _ _ _ _ _
set_option maxRecDepth 100000 in
theorem e_L_law_1407n {Q : mQo} {T : List mSh} {c s : Nat} {I : Nat → Nat → Int32} {L : Nat → Nat → Int64} {st : List Value} {a0 a1 a3 : Option Value} : mWP tb_L_law Q 1407 [a0, a1, some .null, a3] st ((T, c, s), I, L) = mWP tb_L_law Q 1408 [a0, a1, some .null, a3] (.null :: st) ((T, c, s), I, L) := mWP_eq mt_L_law _ _ _ _ _
set_option maxRecDepth 100000 in
theorem e_L_law_1408 {Q : mQo} {T : List mSh} {c s : Nat} {I : Nat → Nat → Int32} {L : Nat → Nat → Int64} {st : List Value} {a1 a2 a3 : Option Value} {x : Nat} : mWP tb_L_law Q 1408 [some (.ref x), a1, a2, a3] st ((T, c, s), I, L) = mWP tb_L_law Q 1409 [some (.ref x), a1, a2, a3] (.ref x :: st) ((T, c, s), I, L) := mWP_eq mt_L_law _ _ _ _ _
set_option maxRecDepth 100000 in
theorem e_L_law_1408n {Q : mQo} {T : List mSh} {c s : Nat} {I : Nat → Nat → Int32} {L : Nat → Nat → Int64} {st : List Value} {a1 a2 a3 : Option Value} : mWP tb_L_law Q 1408 [some .null, a1, a2, a3] st ((T, c, s), I, L) = mWP tb_L_law Q 1409 [some .null, a1, a2, a3] (.null :: st) ((T, c, s), I, L) := mWP_eq mt_L_law _ _ _ _ _
set_option maxRecDepth 100000 in
theorem e_L_law_1409 {Q : mQo} {T : List mSh} {c s : Nat} {I : Nat → Nat → Int32} {L : Nat → Nat → Int64} {st : List Value} {a0 a1 a2 : Option Value} {x : Int32} : mWP tb_L_law Q 1409 [a0, a1, a2, some (.int x)] st ((T, c, s), I, L) = mWP tb_L_law Q 1410 [a0, a1, a2, some (.int x)] (.int x :: st) ((T, c, s), I, L) := mWP_eq mt_L_law _ _ _ _ _
set_option maxRecDepth 100000 in
theorem e_L_law_1410 {Q : mQo} {T : List mSh} {c s : Nat} {I : Nat → Nat → Int32} {L : Nat → Nat → Int64} {st : List Value} {a0 a1 a2 a3 : Option Value} : mWP tb_L_law Q 1410 [a0, a1, a2, a3] st ((T, c, s), I, L) = mWP tb_L_law Q 1411 [a0, a1, a2, a3] (.int 1 :: st) ((T, c, s), I, L) := mWP_eq mt_L_law _ _ _ _ _
set_option maxRecDepth 100000 in
theorem e_L_law_1411 {Q : mQo} {T : List mSh} {c s : Nat} {I : Nat → Nat → Int32} {L : Nat → Nat → Int64} {st : List Value} {a0 a1 a2 a3 : Option Value} {x y : Int32} : mWP tb_L_law Q 1411 [a0, a1, a2, a3] (.int y :: .int x :: st) ((T, c, s), I, L) = mWP tb_L_law Q 1412 [a0, a1, a2, a3] (.int (x + y) :: st) ((T, c, s), I, L) := mWP_eq mt_L_law _ _ _ _ _
set_option maxRecDepth 100000 in
theorem e_L_law_1412 {Q : mQo} {T : List mSh} {c s : Nat} {I : Nat → Nat → Int32} {L : Nat → Nat → Int64} {st : List Value} {a0 a1 a2 a3 : Option Value} {x : Nat} {y : Int32} : mWP tb_L_law Q 1412 [a0, a1, a2, a3] (.int y :: .ref x :: st) ((T, c, s), I, L) = (mTg (T, c, s) x = 0 ∧ vp_in y (mLn (T, c, s) x) ∧ mWP tb_L_law Q 1413 [a0, a1, a2, a3] (.int (I x y.toNatClampNeg) :: st) ((T, c, s), I, L)) := mWP_eq mt_L_law _ _ _ _ _
set_option maxRecDepth 100000 in
theorem e_L_law_1413 {Q : mQo} {T : List mSh} {c s : Nat} {I : Nat → Nat → Int32} {L : Nat → Nat → Int64} {st : List Value} {a0 a1 a2 a3 : Option Value} {v0 : Int32} {o : Nat} : mWP tb_L_law Q 1413 [a0, a1, a2, a3] (.int v0 :: .ref o :: st) ((T, c, s), I, L) = (mTg (T, c, s) o = 14 ∧ (st.map Value.category).sum ≤ 8 ∧ C_X11_mirror [.ref o, .int v0] (mZr (T, c, s), I, L) (fun r h' => h'.1 = mZr (T, c, s) ∧ mWP tb_L_law Q 1416 [a0, a1, a2, a3] (r.toList ++ st) ((T, c, s), h'.2))) := (mWP_eq mt_L_law _ _ _ _ _).trans (eq_CV (Q := Q) 1 rfl)
set_option maxRecDepth 100000 in
theorem e_L_law_1416 {Q : mQo} {T : List mSh} {c s : Nat} {I : Nat → Nat → Int32} {L : Nat → Nat → Int64} {st : List Value} {a0 a1 a2 a3 : Option Value} {x y : Int64} : mWP tb_L_law Q 1416 [a0, a1, a2, a3] (.long y :: .long x :: st) ((T, c, s), I, L) = mWP tb_L_law Q 1417 [a0, a1, a2, a3] (.int (lg_cmp x y) :: st) ((T, c, s), I, L) := mWP_eq mt_L_law _ _ _ _ _
set_option maxRecDepth 100000 in
theorem e_L_law_1417 {Q : mQo} {T : List mSh} {c s : Nat} {I : Nat → Nat → Int32} {L : Nat → Nat → Int64} {st : List Value} {a0 a1 a2 a3 : Option Value} {x : Int32} : mWP tb_L_law Q 1417 [a0, a1, a2, a3] (.int x :: st) ((T, c, s), I, L) = ((x = 0 → mWP tb_L_law Q 1460 [a0, a1, a2, a3] st ((T, c, s), I, L)) ∧ (¬ (x = 0) → mWP tb_L_law Q 1420 [a0, a1, a2, a3] st ((T, c, s), I, L))) := mWP_eq mt_L_law _ _ _ _ _
set_option maxRecDepth 100000 in
theorem e_L_law_1420 {Q : mQo} {T : List mSh} {c s : Nat} {I : Nat → Nat → Int32} {L : Nat → Nat → Int64} {st : List Value} {a0 a1 a2 a3 : Option Value} : mWP tb_L_law Q 1420 [a0, a1, a2, a3] st ((T, c, s), I, L) = mWP tb_L_law Q 1421 [a0, a1, a2, a3] (.int 0 :: st) ((T, c, s), I, L) := mWP_eq mt_L_law _ _ _ _ _
set_option maxRecDepth 100000 in
theorem e_L_law_1421 {Q : mQo} {T : List mSh} {c s : Nat} {I : Nat → Nat → Int32} {L : Nat → Nat → Int64} {a0 a1 a2 a3 : Option Value} {x : Int32} : mWP tb_L_law Q 1421 [a0, a1, a2, a3] [.int x] ((T, c, s), I, L) = ((x = 0 ∨ x = 1) ∧ Q (some (.int x)) ((T, c, s), I, L)) := mWP_eq mt_L_law _ _ _ _ _
set_option maxRecDepth 100000 in
theorem e_L_law_1422 {Q : mQo} {T : List mSh} {c s : Nat} {I : Nat → Nat → Int32} {L : Nat → Nat → Int64} {st : List Value} {a0 a2 a3 : Option Value} {x : Nat} : mWP tb_L_law Q 1422 [a0, some (.ref x), a2, a3] st ((T, c, s), I, L) = mWP tb_L_law Q 1423 [a0, some (.ref x), a2, a3] (.ref x :: st) ((T, c, s), I, L) := mWP_eq mt_L_law _ _ _ _ _
set_option maxRecDepth 100000 in
theorem e_L_law_1422n {Q : mQo} {T : List mSh} {c s : Nat} {I : Nat → Nat → Int32} {L : Nat → Nat → Int64} {st : List Value} {a0 a2 a3 : Option Value} : mWP tb_L_law Q 1422 [a0, some .null, a2, a3] st ((T, c, s), I, L) = mWP tb_L_law Q 1423 [a0, some .null, a2, a3] (.null :: st) ((T, c, s), I, L) := mWP_eq mt_L_law _ _ _ _ _
set_option maxRecDepth 100000 in
theorem e_L_law_1423 {Q : mQo} {T : List mSh} {c s : Nat} {I : Nat → Nat → Int32} {L : Nat → Nat → Int64} {st : List Value} {a0 a1 a2 a3 : Option Value} {o : Nat} : mWP tb_L_law Q 1423 [a0, a1, a2, a3] (.ref o :: st) ((T, c, s), I, L) = (mTg (T, c, s) o = 13 ∧ (st.map Value.category).sum ≤ 8 ∧ C_X10_undo [.ref o] (mZr (T, c, s), I, L) (fun r h' => h'.1 = mZr (T, c, s) ∧ mWP tb_L_law Q 1426 [a0, a1, a2, a3] (r.toList ++ st) ((T, c, s), h'.2))) := (mWP_eq mt_L_law _ _ _ _ _).trans (eq_CV (Q := Q) 0 rfl)
set_option maxRecDepth 100000 in
theorem e_L_law_1426 {Q : mQo} {T : List mSh} {c s : Nat} {I : Nat → Nat → Int32} {L : Nat → Nat → Int64} {st : List Value} {a0 a1 a3 : Option Value} {x : Nat} : mWP tb_L_law Q 1426 [a0, a1, some (.ref x), a3] st ((T, c, s), I, L) = mWP tb_L_law Q 1427 [a0, a1, some (.ref x), a3] (.ref x :: st) ((T, c, s), I, L) := mWP_eq mt_L_law _ _ _ _ _
set_option maxRecDepth 100000 in
theorem e_L_law_1426n {Q : mQo} {T : List mSh} {c s : Nat} {I : Nat → Nat → Int32} {L : Nat → Nat → Int64} {st : List Value} {a0 a1 a3 : Option Value} : mWP tb_L_law Q 1426 [a0, a1, some .null, a3] st ((T, c, s), I, L) = mWP tb_L_law Q 1427 [a0, a1, some .null, a3] (.null :: st) ((T, c, s), I, L) := mWP_eq mt_L_law _ _ _ _ _
set_option maxRecDepth 100000 in
theorem e_L_law_1427 {Q : mQo} {T : List mSh} {c s : Nat} {I : Nat → Nat → Int32} {L : Nat → Nat → Int64} {st : List Value} {a0 a1 a2 a3 : Option Value} {o : Nat} : mWP tb_L_law Q 1427 [a0, a1, a2, a3] (.ref o :: st) ((T, c, s), I, L) = (mTg (T, c, s) o = 14 ∧ (st.map Value.category).sum ≤ 8 ∧ C_X11_undo [.ref o] (mZr (T, c, s), I, L) (fun r h' => h'.1 = mZr (T, c, s) ∧ mWP tb_L_law Q 1430 [a0, a1, a2, a3] (r.toList ++ st) ((T, c, s), h'.2))) := (mWP_eq mt_L_law _ _ _ _ _).trans (eq_CV (Q := Q) 0 rfl)
set_option maxRecDepth 100000 in
theorem e_L_law_1430 {Q : mQo} {T : List mSh} {c s : Nat} {I : Nat → Nat → Int32} {L : Nat → Nat → Int64} {st : List Value} {a0 a1 a2 a3 : Option Value} {x y : Int64} : mWP tb_L_law Q 1430 [a0, a1, a2, a3] (.long y :: .long x :: st) ((T, c, s), I, L) = mWP tb_L_law Q 1431 [a0, a1, a2, a3] (.int (lg_cmp x y) :: st) ((T, c, s), I, L) := mWP_eq mt_L_law _ _ _ _ _
set_option maxRecDepth 100000 in
theorem e_L_law_1431 {Q : mQo} {T : List mSh} {c s : Nat} {I : Nat → Nat → Int32} {L : Nat → Nat → Int64} {st : List Value} {a0 a1 a2 a3 : Option Value} {x : Int32} : mWP tb_L_law Q 1431 [a0, a1, a2, a3] (.int x :: st) ((T, c, s), I, L) = ((x = 0 → mWP tb_L_law Q 1460 [a0, a1, a2, a3] st ((T, c, s), I, L)) ∧ (¬ (x = 0) → mWP tb_L_law Q 1434 [a0, a1, a2, a3] st ((T, c, s), I, L))) := mWP_eq mt_L_law _ _ _ _ _
set_option maxRecDepth 100000 in
theorem e_L_law_1434 {Q : mQo} {T : List mSh} {c s : Nat} {I : Nat → Nat → Int32} {L : Nat → Nat → Int64} {st : List Value} {a0 a1 a2 a3 : Option Value} : mWP tb_L_law Q 1434 [a0, a1, a2, a3] st ((T, c, s), I, L) = mWP tb_L_law Q 1435 [a0, a1, a2, a3] (.int 0 :: st) ((T, c, s), I, L) := mWP_eq mt_L_law _ _ _ _ _
set_option maxRecDepth 100000 in
theorem e_L_law_1435 {Q : mQo} {T : List mSh} {c s : Nat} {I : Nat → Nat → Int32} {L : Nat → Nat → Int64} {a0 a1 a2 a3 : Option Value} {x : Int32} : mWP tb_L_law Q 1435 [a0, a1, a2, a3] [.int x] ((T, c, s), I, L) = ((x = 0 ∨ x = 1) ∧ Q (some (.int x)) ((T, c, s), I, L)) := mWP_eq mt_L_law _ _ _ _ _
set_option maxRecDepth 100000 in
theorem e_L_law_1436 {Q : mQo} {T : List mSh} {c s : Nat} {I : Nat → Nat → Int32} {L : Nat → Nat → Int64} {st : List Value} {a0 a2 a3 : Option Value} {x : Nat} : mWP tb_L_law Q 1436 [a0, some (.ref x), a2, a3] st ((T, c, s), I, L) = mWP tb_L_law Q 1437 [a0, some (.ref x), a2, a3] (.ref x :: st) ((T, c, s), I, L) := mWP_eq mt_L_law _ _ _ _ _
set_option maxRecDepth 100000 in
theorem e_L_law_1436n {Q : mQo} {T : List mSh} {c s : Nat} {I : Nat → Nat → Int32} {L : Nat → Nat → Int64} {st : List Value} {a0 a2 a3 : Option Value} : mWP tb_L_law Q 1436 [a0, some .null, a2, a3] st ((T, c, s), I, L) = mWP tb_L_law Q 1437 [a0, some .null, a2, a3] (.null :: st) ((T, c, s), I, L) := mWP_eq mt_L_law _ _ _ _ _
set_option maxRecDepth 100000 in
theorem e_L_law_1437 {Q : mQo} {T : List mSh} {c s : Nat} {I : Nat → Nat → Int32} {L : Nat → Nat → Int64} {st : List Value} {a1 a2 a3 : Option Value} {x : Nat} : mWP tb_L_law Q 1437 [some (.ref x), a1, a2, a3] st ((T, c, s), I, L) = mWP tb_L_law Q 1438 [some (.ref x), a1, a2, a3] (.ref x :: st) ((T, c, s), I, L) := mWP_eq mt_L_law _ _ _ _ _
set_option maxRecDepth 100000 in
theorem e_L_law_1437n {Q : mQo} {T : List mSh} {c s : Nat} {I : Nat → Nat → Int32} {L : Nat → Nat → Int64} {st : List Value} {a1 a2 a3 : Option Value} : mWP tb_L_law Q 1437 [some .null, a1, a2, a3] st ((T, c, s), I, L) = mWP tb_L_law Q 1438 [some .null, a1, a2, a3] (.null :: st) ((T, c, s), I, L) := mWP_eq mt_L_law _ _ _ _ _
set_option maxRecDepth 100000 in
theorem e_L_law_1438 {Q : mQo} {T : List mSh} {c s : Nat} {I : Nat → Nat → Int32} {L : Nat → Nat → Int64} {st : List Value} {a0 a1 a2 : Option Value} {x : Int32} : mWP tb_L_law Q 1438 [a0, a1, a2, some (.int x)] st ((T, c, s), I, L) = mWP tb_L_law Q 1439 [a0, a1, a2, some (.int x)] (.int x :: st) ((T, c, s), I, L) := mWP_eq mt_L_law _ _ _ _ _
set_option maxRecDepth 100000 in
theorem e_L_law_1439 {Q : mQo} {T : List mSh} {c s : Nat} {I : Nat → Nat → Int32} {L : Nat → Nat → Int64} {st : List Value} {a0 a1 a2 a3 : Option Value} : mWP tb_L_law Q 1439 [a0, a1, a2, a3] st ((T, c, s), I, L) = mWP tb_L_law Q 1440 [a0, a1, a2, a3] (.int 1 :: st) ((T, c, s), I, L) := mWP_eq mt_L_law _ _ _ _ _
set_option maxRecDepth 100000 in
theorem e_L_law_1440 {Q : mQo} {T : List mSh} {c s : Nat} {I : Nat → Nat → Int32} {L : Nat → Nat → Int64} {st : List Value} {a0 a1 a2 a3 : Option Value} {x y : Int32} : mWP tb_L_law Q 1440 [a0, a1, a2, a3] (.int y :: .int x :: st) ((T, c, s), I, L) = mWP tb_L_law Q 1441 [a0, a1, a2, a3] (.int (x + y) :: st) ((T, c, s), I, L) := mWP_eq mt_L_law _ _ _ _ _
set_option maxRecDepth 100000 in
theorem e_L_law_1441 {Q : mQo} {T : List mSh} {c s : Nat} {I : Nat → Nat → Int32} {L : Nat → Nat → Int64} {st : List Value} {a0 a1 a2 a3 : Option Value} {x : Nat} {y : Int32} : mWP tb_L_law Q 1441 [a0, a1, a2, a3] (.int y :: .ref x :: st) ((T, c, s), I, L) = (mTg (T, c, s) x = 0 ∧ vp_in y (mLn (T, c, s) x) ∧ mWP tb_L_law Q 1442 [a0, a1, a2, a3] (.int (I x y.toNatClampNeg) :: st) ((T, c, s), I, L)) := mWP_eq mt_L_law _ _ _ _ _
set_option maxRecDepth 100000 in
theorem e_L_law_1442 {Q : mQo} {T : List mSh} {c s : Nat} {I : Nat → Nat → Int32} {L : Nat → Nat → Int64} {st : List Value} {a0 a1 a2 a3 : Option Value} {v0 : Int32} {o : Nat} : mWP tb_L_law Q 1442 [a0, a1, a2, a3] (.int v0 :: .ref o :: st) ((T, c, s), I, L) = (mTg (T, c, s) o = 13 ∧ (st.map Value.category).sum ≤ 8 ∧ C_X10_count [.ref o, .int v0] (mZr (T, c, s), I, L) (fun r h' => h'.1 = mZr (T, c, s) ∧ mWP tb_L_law Q 1445 [a0, a1, a2, a3] (r.toList ++ st) ((T, c, s), h'.2))) := (mWP_eq mt_L_law _ _ _ _ _).trans (eq_CV (Q := Q) 1 rfl)
set_option maxRecDepth 100000 in
theorem e_L_law_1445 {Q : mQo} {T : List mSh} {c s : Nat} {I : Nat → Nat → Int32} {L : Nat → Nat → Int64} {st : List Value} {a0 a1 a3 : Option Value} {x : Nat} : mWP tb_L_law Q 1445 [a0, a1, some (.ref x), a3] st ((T, c, s), I, L) = mWP tb_L_law Q 1446 [a0, a1, some (.ref x), a3] (.ref x :: st) ((T, c, s), I, L) := mWP_eq mt_L_law _ _ _ _ _
set_option maxRecDepth 100000 in
theorem e_L_law_1445n {Q : mQo} {T : List mSh} {c s : Nat} {I : Nat → Nat → Int32} {L : Nat → Nat → Int64} {st : List Value} {a0 a1 a3 : Option Value} : mWP tb_L_law Q 1445 [a0, a1, some .null, a3] st ((T, c, s), I, L) = mWP tb_L_law Q 1446 [a0, a1, some .null, a3] (.null :: st) ((T, c, s), I, L) := mWP_eq mt_L_law _ _ _ _ _
set_option maxRecDepth 100000 in
theorem e_L_law_1446 {Q : mQo} {T : List mSh} {c s : Nat} {I : Nat → Nat → Int32} {L : Nat → Nat → Int64} {st : List Value} {a1 a2 a3 : Option Value} {x : Nat} : mWP tb_L_law Q 1446 [some (.ref x), a1, a2, a3] st ((T, c, s), I, L) = mWP tb_L_law Q 1447 [some (.ref x), a1, a2, a3] (.ref x :: st) ((T, c, s), I, L) := mWP_eq mt_L_law _ _ _ _ _
set_option maxRecDepth 100000 in
theorem e_L_law_1446n {Q : mQo} {T : List mSh} {c s : Nat} {I : Nat → Nat → Int32} {L : Nat → Nat → Int64} {st : List Value} {a1 a2 a3 : Option Value} : mWP tb_L_law Q 1446 [some .null, a1, a2, a3] st ((T, c, s), I, L) = mWP tb_L_law Q 1447 [some .null, a1, a2, a3] (.null :: st) ((T, c, s), I, L) := mWP_eq mt_L_law _ _ _ _ _
set_option maxRecDepth 100000 in
theorem e_L_law_1447 {Q : mQo} {T : List mSh} {c s : Nat} {I : Nat → Nat → Int32} {L : Nat → Nat → Int64} {st : List Value} {a0 a1 a2 : Option Value} {x : Int32} : mWP tb_L_law Q 1447 [a0, a1, a2, some (.int x)] st ((T, c, s), I, L) = mWP tb_L_law Q 1448 [a0, a1, a2, some (.int x)] (.int x :: st) ((T, c, s), I, L) := mWP_eq mt_L_law _ _ _ _ _
set_option maxRecDepth 100000 in
theorem e_L_law_1448 {Q : mQo} {T : List mSh} {c s : Nat} {I : Nat → Nat → Int32} {L : Nat → Nat → Int64} {st : List Value} {a0 a1 a2 a3 : Option Value} : mWP tb_L_law Q 1448 [a0, a1, a2, a3] st ((T, c, s), I, L) = mWP tb_L_law Q 1449 [a0, a1, a2, a3] (.int 1 :: st) ((T, c, s), I, L) := mWP_eq mt_L_law _ _ _ _ _
set_option maxRecDepth 100000 in
theorem e_L_law_1449 {Q : mQo} {T : List mSh} {c s : Nat} {I : Nat → Nat → Int32} {L : Nat → Nat → Int64} {st : List Value} {a0 a1 a2 a3 : Option Value} {x y : Int32} : mWP tb_L_law Q 1449 [a0, a1, a2, a3] (.int y :: .int x :: st) ((T, c, s), I, L) = mWP tb_L_law Q 1450 [a0, a1, a2, a3] (.int (x + y) :: st) ((T, c, s), I, L) := mWP_eq mt_L_law _ _ _ _ _
set_option maxRecDepth 100000 in
theorem e_L_law_1450 {Q : mQo} {T : List mSh} {c s : Nat} {I : Nat → Nat → Int32} {L : Nat → Nat → Int64} {st : List Value} {a0 a1 a2 a3 : Option Value} {x : Nat} {y : Int32} : mWP tb_L_law Q 1450 [a0, a1, a2, a3] (.int y :: .ref x :: st) ((T, c, s), I, L) = (mTg (T, c, s) x = 0 ∧ vp_in y (mLn (T, c, s) x) ∧ mWP tb_L_law Q 1451 [a0, a1, a2, a3] (.int (I x y.toNatClampNeg) :: st) ((T, c, s), I, L)) := mWP_eq mt_L_law _ _ _ _ _
set_option maxRecDepth 100000 in
theorem e_L_law_1451 {Q : mQo} {T : List mSh} {c s : Nat} {I : Nat → Nat → Int32} {L : Nat → Nat → Int64} {st : List Value} {a0 a1 a2 a3 : Option Value} {v0 : Int32} {o : Nat} : mWP tb_L_law Q 1451 [a0, a1, a2, a3] (.int v0 :: .ref o :: st) ((T, c, s), I, L) = (mTg (T, c, s) o = 14 ∧ (st.map Value.category).sum ≤ 8 ∧ C_X11_count [.ref o, .int v0] (mZr (T, c, s), I, L) (fun r h' => h'.1 = mZr (T, c, s) ∧ mWP tb_L_law Q 1454 [a0, a1, a2, a3] (r.toList ++ st) ((T, c, s), h'.2))) := (mWP_eq mt_L_law _ _ _ _ _).trans (eq_CV (Q := Q) 1 rfl)
set_option maxRecDepth 100000 in
theorem e_L_law_1454 {Q : mQo} {T : List mSh} {c s : Nat} {I : Nat → Nat → Int32} {L : Nat → Nat → Int64} {st : List Value} {a0 a1 a2 a3 : Option Value} {x y : Int64} : mWP tb_L_law Q 1454 [a0, a1, a2, a3] (.long y :: .long x :: st) ((T, c, s), I, L) = mWP tb_L_law Q 1455 [a0, a1, a2, a3] (.int (lg_cmp x y) :: st) ((T, c, s), I, L) := mWP_eq mt_L_law _ _ _ _ _
set_option maxRecDepth 100000 in
theorem e_L_law_1455 {Q : mQo} {T : List mSh} {c s : Nat} {I : Nat → Nat → Int32} {L : Nat → Nat → Int64} {st : List Value} {a0 a1 a2 a3 : Option Value} {x : Int32} : mWP tb_L_law Q 1455 [a0, a1, a2, a3] (.int x :: st) ((T, c, s), I, L) = ((x = 0 → mWP tb_L_law Q 1460 [a0, a1, a2, a3] st ((T, c, s), I, L)) ∧ (¬ (x = 0) → mWP tb_L_law Q 1458 [a0, a1, a2, a3] st ((T, c, s), I, L))) := mWP_eq mt_L_law _ _ _ _ _
set_option maxRecDepth 100000 in
theorem e_L_law_1458 {Q : mQo} {T : List mSh} {c s : Nat} {I : Nat → Nat → Int32} {L : Nat → Nat → Int64} {st : List Value} {a0 a1 a2 a3 : Option Value} : mWP tb_L_law Q 1458 [a0, a1, a2, a3] st ((T, c, s), I, L) = mWP tb_L_law Q 1459 [a0, a1, a2, a3] (.int 0 :: st) ((T, c, s), I, L) := mWP_eq mt_L_law _ _ _ _ _
set_option maxRecDepth 100000 in
theorem e_L_law_1459 {Q : mQo} {T : List mSh} {c s : Nat} {I : Nat → Nat → Int32} {L : Nat → Nat → Int64} {a0 a1 a2 a3 : Option Value} {x : Int32} : mWP tb_L_law Q 1459 [a0, a1, a2, a3] [.int x] ((T, c, s), I, L) = ((x = 0 ∨ x = 1) ∧ Q (some (.int x)) ((T, c, s), I, L)) := mWP_eq mt_L_law _ _ _ _ _
set_option maxRecDepth 100000 in
theorem e_L_law_1460 {Q : mQo} {T : List mSh} {c s : Nat} {I : Nat → Nat → Int32} {L : Nat → Nat → Int64} {st : List Value} {a0 a1 a2 : Option Value} {x : Int32} : mWP tb_L_law Q 1460 [a0, a1, a2, some (.int x)] st ((T, c, s), I, L) = mWP tb_L_law Q 1463 [a0, a1, mNl a2, some (.int (x + 6))] st ((T, c, s), I, L) := mWP_eq mt_L_law _ _ _ _ _
set_option maxRecDepth 100000 in
theorem e_L_law_1463 {Q : mQo} {T : List mSh} {c s : Nat} {I : Nat → Nat → Int32} {L : Nat → Nat → Int64} {st : List Value} {a0 a1 a2 a3 : Option Value} : mWP tb_L_law Q 1463 [a0, a1, a2, a3] st ((T, c, s), I, L) = mWP tb_L_law Q 18 [a0, a1, a2, a3] st ((T, c, s), I, L) := mWP_eq mt_L_law _ _ _ _ _
set_option maxRecDepth 100000 in
theorem e_L_law_1466 {Q : mQo} {T : List mSh} {c s : Nat} {I : Nat → Nat → Int32} {L : Nat → Nat → Int64} {st : List Value} {a0 a1 a2 a3 : Option Value} : mWP tb_L_law Q 1466 [a0, a1, a2, a3] st ((T, c, s), I, L) = mWP tb_L_law Q 1467 [a0, a1, a2, a3] (.int 1 :: st) ((T, c, s), I, L) := mWP_eq mt_L_law _ _ _ _ _
set_option maxRecDepth 100000 in
theorem e_L_law_1467 {Q : mQo} {T : List mSh} {c s : Nat} {I : Nat → Nat → Int32} {L : Nat → Nat → Int64} {a0 a1 a2 a3 : Option Value} {x : Int32} : mWP tb_L_law Q 1467 [a0, a1, a2, a3] [.int x] ((T, c, s), I, L) = ((x = 0 ∨ x = 1) ∧ Q (some (.int x)) ((T, c, s), I, L)) := mWP_eq mt_L_law _ _ _ _ _
