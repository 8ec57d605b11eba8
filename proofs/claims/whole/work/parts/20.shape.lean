/-! the shapes behind both constructors: 2 the stage, 3 and 27 its puppets, 51 the history (54 + 48 k, 78 + 48 k), 294, 304 figures, 314 the settler (315 its figure), 325, 326 lines, 327, 328 rows, 329 the reference (330 .. 339) -/
def mT1_0 (n : Nat) : List mSh := [(0, n, []), (0, 64, []), (13, 11, [some 3, some 27, some 51, some 294, some 304, some 314, some 325, some 326, some 327, some 328, none]), (10, 6, [some 4, some 9, some 12, some 15, some 22, none]), (8, 7, [some 5, some 6, some 7, some 8, none, none, none]), (0, 6, []), (0, 6, []), (0, 6, []), (0, 6, []), (12, 3, [some 10, some 11, none]), (0, 6, []), (0, 6, []), (3, 5, [some 13, some 14, none, none, none]), (0, 6, []), (0, 6, []), (7, 7, [some 16, some 17, some 18, some 19, some 20, some 21, none]), (0, 12, []), (0, 12, []), (0, 12, []), (0, 12, []), (0, 12, []), (0, 12, []), (5, 6, [some 23, some 24, some 25, some 26, none, none]), (0, 12, []), (0, 12, []), (0, 12, []), (0, 72, []), (10, 6, [some 28, some 33, some 36, some 39, some 46, none]), (8, 7, [some 29, some 30, some 31, some 32, none, none, none]), (0, 6, []), (0, 6, []), (0, 6, []), (0, 6, []), (12, 3, [some 34, some 35, none]), (0, 6, []), (0, 6, []), (3, 5, [some 37, some 38, none, none, none]), (0, 6, []), (0, 6, []), (7, 7, [some 40, some 41, some 42, some 43, some 44, some 45, none])]
def mT1_1 : List mSh := [(0, 12, []), (0, 12, []), (0, 12, []), (0, 12, []), (0, 12, []), (0, 12, []), (5, 6, [some 47, some 48, some 49, some 50, none, none]), (0, 12, []), (0, 12, []), (0, 12, []), (0, 72, []), (6, 4, [some 52, some 53, none, none]), (2, 5, [some 54, some 102, some 150, some 198, some 246]), (2, 5, [some 78, some 126, some 174, some 222, some 270]), (10, 6, [some 55, some 60, some 63, some 66, some 73, none]), (8, 7, [some 56, some 57, some 58, some 59, none, none, none]), (0, 6, []), (0, 6, []), (0, 6, []), (0, 6, []), (12, 3, [some 61, some 62, none]), (0, 6, []), (0, 6, []), (3, 5, [some 64, some 65, none, none, none]), (0, 6, []), (0, 6, []), (7, 7, [some 67, some 68, some 69, some 70, some 71, some 72, none]), (0, 12, []), (0, 12, []), (0, 12, []), (0, 12, []), (0, 12, []), (0, 12, []), (5, 6, [some 74, some 75, some 76, some 77, none, none]), (0, 12, []), (0, 12, []), (0, 12, []), (0, 72, []), (10, 6, [some 79, some 84, some 87, some 90, some 97, none]), (8, 7, [some 80, some 81, some 82, some 83, none, none, none])]
def mT1_2 : List mSh := [(0, 6, []), (0, 6, []), (0, 6, []), (0, 6, []), (12, 3, [some 85, some 86, none]), (0, 6, []), (0, 6, []), (3, 5, [some 88, some 89, none, none, none]), (0, 6, []), (0, 6, []), (7, 7, [some 91, some 92, some 93, some 94, some 95, some 96, none]), (0, 12, []), (0, 12, []), (0, 12, []), (0, 12, []), (0, 12, []), (0, 12, []), (5, 6, [some 98, some 99, some 100, some 101, none, none]), (0, 12, []), (0, 12, []), (0, 12, []), (0, 72, []), (10, 6, [some 103, some 108, some 111, some 114, some 121, none]), (8, 7, [some 104, some 105, some 106, some 107, none, none, none]), (0, 6, []), (0, 6, []), (0, 6, []), (0, 6, []), (12, 3, [some 109, some 110, none]), (0, 6, []), (0, 6, []), (3, 5, [some 112, some 113, none, none, none]), (0, 6, []), (0, 6, []), (7, 7, [some 115, some 116, some 117, some 118, some 119, some 120, none]), (0, 12, []), (0, 12, []), (0, 12, []), (0, 12, []), (0, 12, [])]
def mT1_3 : List mSh := [(0, 12, []), (5, 6, [some 122, some 123, some 124, some 125, none, none]), (0, 12, []), (0, 12, []), (0, 12, []), (0, 72, []), (10, 6, [some 127, some 132, some 135, some 138, some 145, none]), (8, 7, [some 128, some 129, some 130, some 131, none, none, none]), (0, 6, []), (0, 6, []), (0, 6, []), (0, 6, []), (12, 3, [some 133, some 134, none]), (0, 6, []), (0, 6, []), (3, 5, [some 136, some 137, none, none, none]), (0, 6, []), (0, 6, []), (7, 7, [some 139, some 140, some 141, some 142, some 143, some 144, none]), (0, 12, []), (0, 12, []), (0, 12, []), (0, 12, []), (0, 12, []), (0, 12, []), (5, 6, [some 146, some 147, some 148, some 149, none, none]), (0, 12, []), (0, 12, []), (0, 12, []), (0, 72, []), (10, 6, [some 151, some 156, some 159, some 162, some 169, none]), (8, 7, [some 152, some 153, some 154, some 155, none, none, none]), (0, 6, []), (0, 6, []), (0, 6, []), (0, 6, []), (12, 3, [some 157, some 158, none]), (0, 6, []), (0, 6, []), (3, 5, [some 160, some 161, none, none, none])]
def mT1_4 : List mSh := [(0, 6, []), (0, 6, []), (7, 7, [some 163, some 164, some 165, some 166, some 167, some 168, none]), (0, 12, []), (0, 12, []), (0, 12, []), (0, 12, []), (0, 12, []), (0, 12, []), (5, 6, [some 170, some 171, some 172, some 173, none, none]), (0, 12, []), (0, 12, []), (0, 12, []), (0, 72, []), (10, 6, [some 175, some 180, some 183, some 186, some 193, none]), (8, 7, [some 176, some 177, some 178, some 179, none, none, none]), (0, 6, []), (0, 6, []), (0, 6, []), (0, 6, []), (12, 3, [some 181, some 182, none]), (0, 6, []), (0, 6, []), (3, 5, [some 184, some 185, none, none, none]), (0, 6, []), (0, 6, []), (7, 7, [some 187, some 188, some 189, some 190, some 191, some 192, none]), (0, 12, []), (0, 12, []), (0, 12, []), (0, 12, []), (0, 12, []), (0, 12, []), (5, 6, [some 194, some 195, some 196, some 197, none, none]), (0, 12, []), (0, 12, []), (0, 12, []), (0, 72, []), (10, 6, [some 199, some 204, some 207, some 210, some 217, none]), (8, 7, [some 200, some 201, some 202, some 203, none, none, none])]
def mT1_5 : List mSh := [(0, 6, []), (0, 6, []), (0, 6, []), (0, 6, []), (12, 3, [some 205, some 206, none]), (0, 6, []), (0, 6, []), (3, 5, [some 208, some 209, none, none, none]), (0, 6, []), (0, 6, []), (7, 7, [some 211, some 212, some 213, some 214, some 215, some 216, none]), (0, 12, []), (0, 12, []), (0, 12, []), (0, 12, []), (0, 12, []), (0, 12, []), (5, 6, [some 218, some 219, some 220, some 221, none, none]), (0, 12, []), (0, 12, []), (0, 12, []), (0, 72, []), (10, 6, [some 223, some 228, some 231, some 234, some 241, none]), (8, 7, [some 224, some 225, some 226, some 227, none, none, none]), (0, 6, []), (0, 6, []), (0, 6, []), (0, 6, []), (12, 3, [some 229, some 230, none]), (0, 6, []), (0, 6, []), (3, 5, [some 232, some 233, none, none, none]), (0, 6, []), (0, 6, []), (7, 7, [some 235, some 236, some 237, some 238, some 239, some 240, none]), (0, 12, []), (0, 12, []), (0, 12, []), (0, 12, []), (0, 12, [])]
def mT1_6 : List mSh := [(0, 12, []), (5, 6, [some 242, some 243, some 244, some 245, none, none]), (0, 12, []), (0, 12, []), (0, 12, []), (0, 72, []), (10, 6, [some 247, some 252, some 255, some 258, some 265, none]), (8, 7, [some 248, some 249, some 250, some 251, none, none, none]), (0, 6, []), (0, 6, []), (0, 6, []), (0, 6, []), (12, 3, [some 253, some 254, none]), (0, 6, []), (0, 6, []), (3, 5, [some 256, some 257, none, none, none]), (0, 6, []), (0, 6, []), (7, 7, [some 259, some 260, some 261, some 262, some 263, some 264, none]), (0, 12, []), (0, 12, []), (0, 12, []), (0, 12, []), (0, 12, []), (0, 12, []), (5, 6, [some 266, some 267, some 268, some 269, none, none]), (0, 12, []), (0, 12, []), (0, 12, []), (0, 72, []), (10, 6, [some 271, some 276, some 279, some 282, some 289, none]), (8, 7, [some 272, some 273, some 274, some 275, none, none, none]), (0, 6, []), (0, 6, []), (0, 6, []), (0, 6, []), (12, 3, [some 277, some 278, none]), (0, 6, []), (0, 6, []), (3, 5, [some 280, some 281, none, none, none])]
def mT1_7 : List mSh := [(0, 6, []), (0, 6, []), (7, 7, [some 283, some 284, some 285, some 286, some 287, some 288, none]), (0, 12, []), (0, 12, []), (0, 12, []), (0, 12, []), (0, 12, []), (0, 12, []), (5, 6, [some 290, some 291, some 292, some 293, none, none]), (0, 12, []), (0, 12, []), (0, 12, []), (0, 72, []), (4, 11, [some 295, some 296, some 297, some 298, some 299, some 300, some 301, some 302, some 303, none, none]), (0, 6, []), (0, 6, []), (0, 6, []), (0, 6, []), (0, 6, []), (0, 6, []), (0, 6, []), (0, 6, []), (0, 6, []), (4, 11, [some 305, some 306, some 307, some 308, some 309, some 310, some 311, some 312, some 313, none, none]), (0, 6, []), (0, 6, []), (0, 6, []), (0, 6, []), (0, 6, []), (0, 6, []), (0, 6, []), (0, 6, []), (0, 6, []), (11, 1, [some 315]), (4, 11, [some 316, some 317, some 318, some 319, some 320, some 321, some 322, some 323, some 324, none, none]), (0, 6, []), (0, 6, []), (0, 6, []), (0, 6, [])]
def mT1_8 : List mSh := [(0, 6, []), (0, 6, []), (0, 6, []), (0, 6, []), (0, 6, []), (9, 4, [none, none, none, none]), (9, 4, [none, none, none, none]), (0, 6, []), (0, 6, []), (14, 22, [some 330, some 331, none, none, some 332, some 333, some 334, some 335, some 336, some 337, none, none, some 338, some 339, none, none, none, none, none, none, none, none]), (0, 478, []), (0, 2390, []), (0, 64, []), (1, 6, []), (1, 6, []), (1, 6, []), (1, 6, []), (0, 6, []), (0, 6, []), (0, 6, [])]
def mT1 (n : Nat) : List mSh := mT1_0 n ++ (mT1_1 ++ (mT1_2 ++ (mT1_3 ++ (mT1_4 ++ (mT1_5 ++ (mT1_6 ++ (mT1_7 ++ (mT1_8))))))))
def tt (n : Nat) : mTT := (mT1 n, 0, 0)
theorem tt_z {n : Nat} : mZr (tt n) = tt n := rfl
theorem tg_0 {n : Nat} : mTg (tt n) 0 = 0 := rfl
theorem ln_0 {n : Nat} : mLn (tt n) 0 = n := rfl
theorem tg_1 {n : Nat} : mTg (tt n) 1 = 0 := rfl
theorem ln_1 {n : Nat} : mLn (tt n) 1 = 64 := rfl
theorem tg_2 {n : Nat} : mTg (tt n) 2 = 13 := rfl
theorem rf_2_0 {n : Nat} : mRf (tt n) 2 0 = some 3 := rfl
theorem rf_2_1 {n : Nat} : mRf (tt n) 2 1 = some 27 := rfl
theorem rf_2_2 {n : Nat} : mRf (tt n) 2 2 = some 51 := rfl
theorem rf_2_3 {n : Nat} : mRf (tt n) 2 3 = some 294 := rfl
theorem rf_2_4 {n : Nat} : mRf (tt n) 2 4 = some 304 := rfl
theorem rf_2_5 {n : Nat} : mRf (tt n) 2 5 = some 314 := rfl
theorem rf_2_6 {n : Nat} : mRf (tt n) 2 6 = some 325 := rfl
theorem rf_2_7 {n : Nat} : mRf (tt n) 2 7 = some 326 := rfl
theorem rf_2_8 {n : Nat} : mRf (tt n) 2 8 = some 327 := rfl
theorem rf_2_9 {n : Nat} : mRf (tt n) 2 9 = some 328 := rfl
theorem tg_3 {n : Nat} : mTg (tt n) 3 = 10 := rfl
theorem rf_3_0 {n : Nat} : mRf (tt n) 3 0 = some 4 := rfl
theorem rf_3_1 {n : Nat} : mRf (tt n) 3 1 = some 9 := rfl
theorem rf_3_2 {n : Nat} : mRf (tt n) 3 2 = some 12 := rfl
theorem rf_3_3 {n : Nat} : mRf (tt n) 3 3 = some 15 := rfl
theorem rf_3_4 {n : Nat} : mRf (tt n) 3 4 = some 22 := rfl
theorem tg_4 {n : Nat} : mTg (tt n) 4 = 8 := rfl
theorem rf_4_0 {n : Nat} : mRf (tt n) 4 0 = some 5 := rfl
theorem rf_4_1 {n : Nat} : mRf (tt n) 4 1 = some 6 := rfl
theorem rf_4_2 {n : Nat} : mRf (tt n) 4 2 = some 7 := rfl
theorem rf_4_3 {n : Nat} : mRf (tt n) 4 3 = some 8 := rfl
theorem tg_5 {n : Nat} : mTg (tt n) 5 = 0 := rfl
theorem ln_5 {n : Nat} : mLn (tt n) 5 = 6 := rfl
theorem tg_6 {n : Nat} : mTg (tt n) 6 = 0 := rfl
theorem ln_6 {n : Nat} : mLn (tt n) 6 = 6 := rfl
theorem tg_7 {n : Nat} : mTg (tt n) 7 = 0 := rfl
theorem ln_7 {n : Nat} : mLn (tt n) 7 = 6 := rfl
theorem tg_8 {n : Nat} : mTg (tt n) 8 = 0 := rfl
theorem ln_8 {n : Nat} : mLn (tt n) 8 = 6 := rfl
theorem tg_9 {n : Nat} : mTg (tt n) 9 = 12 := rfl
theorem rf_9_0 {n : Nat} : mRf (tt n) 9 0 = some 10 := rfl
theorem rf_9_1 {n : Nat} : mRf (tt n) 9 1 = some 11 := rfl
theorem tg_10 {n : Nat} : mTg (tt n) 10 = 0 := rfl
theorem ln_10 {n : Nat} : mLn (tt n) 10 = 6 := rfl
theorem tg_11 {n : Nat} : mTg (tt n) 11 = 0 := rfl
theorem ln_11 {n : Nat} : mLn (tt n) 11 = 6 := rfl
theorem tg_12 {n : Nat} : mTg (tt n) 12 = 3 := rfl
theorem rf_12_0 {n : Nat} : mRf (tt n) 12 0 = some 13 := rfl
theorem rf_12_1 {n : Nat} : mRf (tt n) 12 1 = some 14 := rfl
theorem tg_13 {n : Nat} : mTg (tt n) 13 = 0 := rfl
theorem ln_13 {n : Nat} : mLn (tt n) 13 = 6 := rfl
theorem tg_14 {n : Nat} : mTg (tt n) 14 = 0 := rfl
theorem ln_14 {n : Nat} : mLn (tt n) 14 = 6 := rfl
theorem tg_15 {n : Nat} : mTg (tt n) 15 = 7 := rfl
theorem rf_15_0 {n : Nat} : mRf (tt n) 15 0 = some 16 := rfl
theorem rf_15_1 {n : Nat} : mRf (tt n) 15 1 = some 17 := rfl
theorem rf_15_2 {n : Nat} : mRf (tt n) 15 2 = some 18 := rfl
theorem rf_15_3 {n : Nat} : mRf (tt n) 15 3 = some 19 := rfl
theorem rf_15_4 {n : Nat} : mRf (tt n) 15 4 = some 20 := rfl
theorem rf_15_5 {n : Nat} : mRf (tt n) 15 5 = some 21 := rfl
theorem tg_16 {n : Nat} : mTg (tt n) 16 = 0 := rfl
theorem ln_16 {n : Nat} : mLn (tt n) 16 = 12 := rfl
theorem tg_17 {n : Nat} : mTg (tt n) 17 = 0 := rfl
theorem ln_17 {n : Nat} : mLn (tt n) 17 = 12 := rfl
theorem tg_18 {n : Nat} : mTg (tt n) 18 = 0 := rfl
theorem ln_18 {n : Nat} : mLn (tt n) 18 = 12 := rfl
theorem tg_19 {n : Nat} : mTg (tt n) 19 = 0 := rfl
theorem ln_19 {n : Nat} : mLn (tt n) 19 = 12 := rfl
theorem tg_20 {n : Nat} : mTg (tt n) 20 = 0 := rfl
theorem ln_20 {n : Nat} : mLn (tt n) 20 = 12 := rfl
theorem tg_21 {n : Nat} : mTg (tt n) 21 = 0 := rfl
theorem ln_21 {n : Nat} : mLn (tt n) 21 = 12 := rfl
theorem tg_22 {n : Nat} : mTg (tt n) 22 = 5 := rfl
theorem rf_22_0 {n : Nat} : mRf (tt n) 22 0 = some 23 := rfl
theorem rf_22_1 {n : Nat} : mRf (tt n) 22 1 = some 24 := rfl
theorem rf_22_2 {n : Nat} : mRf (tt n) 22 2 = some 25 := rfl
theorem rf_22_3 {n : Nat} : mRf (tt n) 22 3 = some 26 := rfl
theorem tg_23 {n : Nat} : mTg (tt n) 23 = 0 := rfl
theorem ln_23 {n : Nat} : mLn (tt n) 23 = 12 := rfl
theorem tg_24 {n : Nat} : mTg (tt n) 24 = 0 := rfl
theorem ln_24 {n : Nat} : mLn (tt n) 24 = 12 := rfl
theorem tg_25 {n : Nat} : mTg (tt n) 25 = 0 := rfl
theorem ln_25 {n : Nat} : mLn (tt n) 25 = 12 := rfl
theorem tg_26 {n : Nat} : mTg (tt n) 26 = 0 := rfl
theorem ln_26 {n : Nat} : mLn (tt n) 26 = 72 := rfl
theorem tg_27 {n : Nat} : mTg (tt n) 27 = 10 := rfl
theorem rf_27_0 {n : Nat} : mRf (tt n) 27 0 = some 28 := rfl
theorem rf_27_1 {n : Nat} : mRf (tt n) 27 1 = some 33 := rfl
theorem rf_27_2 {n : Nat} : mRf (tt n) 27 2 = some 36 := rfl
theorem rf_27_3 {n : Nat} : mRf (tt n) 27 3 = some 39 := rfl
theorem rf_27_4 {n : Nat} : mRf (tt n) 27 4 = some 46 := rfl
theorem tg_28 {n : Nat} : mTg (tt n) 28 = 8 := rfl
theorem rf_28_0 {n : Nat} : mRf (tt n) 28 0 = some 29 := rfl
theorem rf_28_1 {n : Nat} : mRf (tt n) 28 1 = some 30 := rfl
theorem rf_28_2 {n : Nat} : mRf (tt n) 28 2 = some 31 := rfl
theorem rf_28_3 {n : Nat} : mRf (tt n) 28 3 = some 32 := rfl
theorem tg_29 {n : Nat} : mTg (tt n) 29 = 0 := rfl
theorem ln_29 {n : Nat} : mLn (tt n) 29 = 6 := rfl
theorem tg_30 {n : Nat} : mTg (tt n) 30 = 0 := rfl
theorem ln_30 {n : Nat} : mLn (tt n) 30 = 6 := rfl
theorem tg_31 {n : Nat} : mTg (tt n) 31 = 0 := rfl
theorem ln_31 {n : Nat} : mLn (tt n) 31 = 6 := rfl
theorem tg_32 {n : Nat} : mTg (tt n) 32 = 0 := rfl
theorem ln_32 {n : Nat} : mLn (tt n) 32 = 6 := rfl
theorem tg_33 {n : Nat} : mTg (tt n) 33 = 12 := rfl
theorem rf_33_0 {n : Nat} : mRf (tt n) 33 0 = some 34 := rfl
theorem rf_33_1 {n : Nat} : mRf (tt n) 33 1 = some 35 := rfl
theorem tg_34 {n : Nat} : mTg (tt n) 34 = 0 := rfl
theorem ln_34 {n : Nat} : mLn (tt n) 34 = 6 := rfl
theorem tg_35 {n : Nat} : mTg (tt n) 35 = 0 := rfl
theorem ln_35 {n : Nat} : mLn (tt n) 35 = 6 := rfl
theorem tg_36 {n : Nat} : mTg (tt n) 36 = 3 := rfl
theorem rf_36_0 {n : Nat} : mRf (tt n) 36 0 = some 37 := rfl
theorem rf_36_1 {n : Nat} : mRf (tt n) 36 1 = some 38 := rfl
theorem tg_37 {n : Nat} : mTg (tt n) 37 = 0 := rfl
theorem ln_37 {n : Nat} : mLn (tt n) 37 = 6 := rfl
theorem tg_38 {n : Nat} : mTg (tt n) 38 = 0 := rfl
theorem ln_38 {n : Nat} : mLn (tt n) 38 = 6 := rfl
theorem tg_39 {n : Nat} : mTg (tt n) 39 = 7 := rfl
theorem rf_39_0 {n : Nat} : mRf (tt n) 39 0 = some 40 := rfl
theorem rf_39_1 {n : Nat} : mRf (tt n) 39 1 = some 41 := rfl
theorem rf_39_2 {n : Nat} : mRf (tt n) 39 2 = some 42 := rfl
theorem rf_39_3 {n : Nat} : mRf (tt n) 39 3 = some 43 := rfl
theorem rf_39_4 {n : Nat} : mRf (tt n) 39 4 = some 44 := rfl
theorem rf_39_5 {n : Nat} : mRf (tt n) 39 5 = some 45 := rfl
theorem tg_40 {n : Nat} : mTg (tt n) 40 = 0 := rfl
theorem ln_40 {n : Nat} : mLn (tt n) 40 = 12 := rfl
theorem tg_41 {n : Nat} : mTg (tt n) 41 = 0 := rfl
theorem ln_41 {n : Nat} : mLn (tt n) 41 = 12 := rfl
theorem tg_42 {n : Nat} : mTg (tt n) 42 = 0 := rfl
theorem ln_42 {n : Nat} : mLn (tt n) 42 = 12 := rfl
theorem tg_43 {n : Nat} : mTg (tt n) 43 = 0 := rfl
theorem ln_43 {n : Nat} : mLn (tt n) 43 = 12 := rfl
theorem tg_44 {n : Nat} : mTg (tt n) 44 = 0 := rfl
theorem ln_44 {n : Nat} : mLn (tt n) 44 = 12 := rfl
theorem tg_45 {n : Nat} : mTg (tt n) 45 = 0 := rfl
theorem ln_45 {n : Nat} : mLn (tt n) 45 = 12 := rfl
theorem tg_46 {n : Nat} : mTg (tt n) 46 = 5 := rfl
theorem rf_46_0 {n : Nat} : mRf (tt n) 46 0 = some 47 := rfl
theorem rf_46_1 {n : Nat} : mRf (tt n) 46 1 = some 48 := rfl
theorem rf_46_2 {n : Nat} : mRf (tt n) 46 2 = some 49 := rfl
theorem rf_46_3 {n : Nat} : mRf (tt n) 46 3 = some 50 := rfl
theorem tg_47 {n : Nat} : mTg (tt n) 47 = 0 := rfl
theorem ln_47 {n : Nat} : mLn (tt n) 47 = 12 := rfl
theorem tg_48 {n : Nat} : mTg (tt n) 48 = 0 := rfl
theorem ln_48 {n : Nat} : mLn (tt n) 48 = 12 := rfl
theorem tg_49 {n : Nat} : mTg (tt n) 49 = 0 := rfl
theorem ln_49 {n : Nat} : mLn (tt n) 49 = 12 := rfl
theorem tg_50 {n : Nat} : mTg (tt n) 50 = 0 := rfl
theorem ln_50 {n : Nat} : mLn (tt n) 50 = 72 := rfl
theorem tg_51 {n : Nat} : mTg (tt n) 51 = 6 := rfl
theorem rf_51_0 {n : Nat} : mRf (tt n) 51 0 = some 52 := rfl
theorem rf_51_1 {n : Nat} : mRf (tt n) 51 1 = some 53 := rfl
theorem tg_52 {n : Nat} : mTg (tt n) 52 = 2 := rfl
theorem ln_52 {n : Nat} : mLn (tt n) 52 = 5 := rfl
theorem tg_53 {n : Nat} : mTg (tt n) 53 = 2 := rfl
theorem ln_53 {n : Nat} : mLn (tt n) 53 = 5 := rfl
theorem tg_54 {n : Nat} : mTg (tt n) 54 = 10 := rfl
theorem rf_54_0 {n : Nat} : mRf (tt n) 54 0 = some 55 := rfl
theorem rf_54_1 {n : Nat} : mRf (tt n) 54 1 = some 60 := rfl
theorem rf_54_2 {n : Nat} : mRf (tt n) 54 2 = some 63 := rfl
theorem rf_54_3 {n : Nat} : mRf (tt n) 54 3 = some 66 := rfl
theorem rf_54_4 {n : Nat} : mRf (tt n) 54 4 = some 73 := rfl
theorem tg_55 {n : Nat} : mTg (tt n) 55 = 8 := rfl
theorem rf_55_0 {n : Nat} : mRf (tt n) 55 0 = some 56 := rfl
theorem rf_55_1 {n : Nat} : mRf (tt n) 55 1 = some 57 := rfl
theorem rf_55_2 {n : Nat} : mRf (tt n) 55 2 = some 58 := rfl
theorem rf_55_3 {n : Nat} : mRf (tt n) 55 3 = some 59 := rfl
theorem tg_56 {n : Nat} : mTg (tt n) 56 = 0 := rfl
theorem ln_56 {n : Nat} : mLn (tt n) 56 = 6 := rfl
theorem tg_57 {n : Nat} : mTg (tt n) 57 = 0 := rfl
theorem ln_57 {n : Nat} : mLn (tt n) 57 = 6 := rfl
theorem tg_58 {n : Nat} : mTg (tt n) 58 = 0 := rfl
theorem ln_58 {n : Nat} : mLn (tt n) 58 = 6 := rfl
theorem tg_59 {n : Nat} : mTg (tt n) 59 = 0 := rfl
theorem ln_59 {n : Nat} : mLn (tt n) 59 = 6 := rfl
theorem tg_60 {n : Nat} : mTg (tt n) 60 = 12 := rfl
theorem rf_60_0 {n : Nat} : mRf (tt n) 60 0 = some 61 := rfl
theorem rf_60_1 {n : Nat} : mRf (tt n) 60 1 = some 62 := rfl
theorem tg_61 {n : Nat} : mTg (tt n) 61 = 0 := rfl
theorem ln_61 {n : Nat} : mLn (tt n) 61 = 6 := rfl
theorem tg_62 {n : Nat} : mTg (tt n) 62 = 0 := rfl
theorem ln_62 {n : Nat} : mLn (tt n) 62 = 6 := rfl
theorem tg_63 {n : Nat} : mTg (tt n) 63 = 3 := rfl
theorem rf_63_0 {n : Nat} : mRf (tt n) 63 0 = some 64 := rfl
theorem rf_63_1 {n : Nat} : mRf (tt n) 63 1 = some 65 := rfl
theorem tg_64 {n : Nat} : mTg (tt n) 64 = 0 := rfl
theorem ln_64 {n : Nat} : mLn (tt n) 64 = 6 := rfl
theorem tg_65 {n : Nat} : mTg (tt n) 65 = 0 := rfl
theorem ln_65 {n : Nat} : mLn (tt n) 65 = 6 := rfl
theorem tg_66 {n : Nat} : mTg (tt n) 66 = 7 := rfl
theorem rf_66_0 {n : Nat} : mRf (tt n) 66 0 = some 67 := rfl
theorem rf_66_1 {n : Nat} : mRf (tt n) 66 1 = some 68 := rfl
theorem rf_66_2 {n : Nat} : mRf (tt n) 66 2 = some 69 := rfl
theorem rf_66_3 {n : Nat} : mRf (tt n) 66 3 = some 70 := rfl
theorem rf_66_4 {n : Nat} : mRf (tt n) 66 4 = some 71 := rfl
theorem rf_66_5 {n : Nat} : mRf (tt n) 66 5 = some 72 := rfl
theorem tg_67 {n : Nat} : mTg (tt n) 67 = 0 := rfl
theorem ln_67 {n : Nat} : mLn (tt n) 67 = 12 := rfl
theorem tg_68 {n : Nat} : mTg (tt n) 68 = 0 := rfl
theorem ln_68 {n : Nat} : mLn (tt n) 68 = 12 := rfl
theorem tg_69 {n : Nat} : mTg (tt n) 69 = 0 := rfl
theorem ln_69 {n : Nat} : mLn (tt n) 69 = 12 := rfl
theorem tg_70 {n : Nat} : mTg (tt n) 70 = 0 := rfl
theorem ln_70 {n : Nat} : mLn (tt n) 70 = 12 := rfl
theorem tg_71 {n : Nat} : mTg (tt n) 71 = 0 := rfl
theorem ln_71 {n : Nat} : mLn (tt n) 71 = 12 := rfl
theorem tg_72 {n : Nat} : mTg (tt n) 72 = 0 := rfl
theorem ln_72 {n : Nat} : mLn (tt n) 72 = 12 := rfl
theorem tg_73 {n : Nat} : mTg (tt n) 73 = 5 := rfl
theorem rf_73_0 {n : Nat} : mRf (tt n) 73 0 = some 74 := rfl
theorem rf_73_1 {n : Nat} : mRf (tt n) 73 1 = some 75 := rfl
theorem rf_73_2 {n : Nat} : mRf (tt n) 73 2 = some 76 := rfl
theorem rf_73_3 {n : Nat} : mRf (tt n) 73 3 = some 77 := rfl
theorem tg_74 {n : Nat} : mTg (tt n) 74 = 0 := rfl
theorem ln_74 {n : Nat} : mLn (tt n) 74 = 12 := rfl
theorem tg_75 {n : Nat} : mTg (tt n) 75 = 0 := rfl
theorem ln_75 {n : Nat} : mLn (tt n) 75 = 12 := rfl
theorem tg_76 {n : Nat} : mTg (tt n) 76 = 0 := rfl
theorem ln_76 {n : Nat} : mLn (tt n) 76 = 12 := rfl
theorem tg_77 {n : Nat} : mTg (tt n) 77 = 0 := rfl
theorem ln_77 {n : Nat} : mLn (tt n) 77 = 72 := rfl
theorem tg_78 {n : Nat} : mTg (tt n) 78 = 10 := rfl
theorem rf_78_0 {n : Nat} : mRf (tt n) 78 0 = some 79 := rfl
theorem rf_78_1 {n : Nat} : mRf (tt n) 78 1 = some 84 := rfl
theorem rf_78_2 {n : Nat} : mRf (tt n) 78 2 = some 87 := rfl
theorem rf_78_3 {n : Nat} : mRf (tt n) 78 3 = some 90 := rfl
theorem rf_78_4 {n : Nat} : mRf (tt n) 78 4 = some 97 := rfl
theorem tg_79 {n : Nat} : mTg (tt n) 79 = 8 := rfl
theorem rf_79_0 {n : Nat} : mRf (tt n) 79 0 = some 80 := rfl
theorem rf_79_1 {n : Nat} : mRf (tt n) 79 1 = some 81 := rfl
theorem rf_79_2 {n : Nat} : mRf (tt n) 79 2 = some 82 := rfl
theorem rf_79_3 {n : Nat} : mRf (tt n) 79 3 = some 83 := rfl
theorem tg_80 {n : Nat} : mTg (tt n) 80 = 0 := rfl
theorem ln_80 {n : Nat} : mLn (tt n) 80 = 6 := rfl
theorem tg_81 {n : Nat} : mTg (tt n) 81 = 0 := rfl
theorem ln_81 {n : Nat} : mLn (tt n) 81 = 6 := rfl
theorem tg_82 {n : Nat} : mTg (tt n) 82 = 0 := rfl
theorem ln_82 {n : Nat} : mLn (tt n) 82 = 6 := rfl
theorem tg_83 {n : Nat} : mTg (tt n) 83 = 0 := rfl
theorem ln_83 {n : Nat} : mLn (tt n) 83 = 6 := rfl
theorem tg_84 {n : Nat} : mTg (tt n) 84 = 12 := rfl
theorem rf_84_0 {n : Nat} : mRf (tt n) 84 0 = some 85 := rfl
theorem rf_84_1 {n : Nat} : mRf (tt n) 84 1 = some 86 := rfl
theorem tg_85 {n : Nat} : mTg (tt n) 85 = 0 := rfl
theorem ln_85 {n : Nat} : mLn (tt n) 85 = 6 := rfl
theorem tg_86 {n : Nat} : mTg (tt n) 86 = 0 := rfl
theorem ln_86 {n : Nat} : mLn (tt n) 86 = 6 := rfl
theorem tg_87 {n : Nat} : mTg (tt n) 87 = 3 := rfl
theorem rf_87_0 {n : Nat} : mRf (tt n) 87 0 = some 88 := rfl
theorem rf_87_1 {n : Nat} : mRf (tt n) 87 1 = some 89 := rfl
theorem tg_88 {n : Nat} : mTg (tt n) 88 = 0 := rfl
theorem ln_88 {n : Nat} : mLn (tt n) 88 = 6 := rfl
theorem tg_89 {n : Nat} : mTg (tt n) 89 = 0 := rfl
theorem ln_89 {n : Nat} : mLn (tt n) 89 = 6 := rfl
theorem tg_90 {n : Nat} : mTg (tt n) 90 = 7 := rfl
theorem rf_90_0 {n : Nat} : mRf (tt n) 90 0 = some 91 := rfl
theorem rf_90_1 {n : Nat} : mRf (tt n) 90 1 = some 92 := rfl
theorem rf_90_2 {n : Nat} : mRf (tt n) 90 2 = some 93 := rfl
theorem rf_90_3 {n : Nat} : mRf (tt n) 90 3 = some 94 := rfl
theorem rf_90_4 {n : Nat} : mRf (tt n) 90 4 = some 95 := rfl
theorem rf_90_5 {n : Nat} : mRf (tt n) 90 5 = some 96 := rfl
theorem tg_91 {n : Nat} : mTg (tt n) 91 = 0 := rfl
theorem ln_91 {n : Nat} : mLn (tt n) 91 = 12 := rfl
theorem tg_92 {n : Nat} : mTg (tt n) 92 = 0 := rfl
theorem ln_92 {n : Nat} : mLn (tt n) 92 = 12 := rfl
theorem tg_93 {n : Nat} : mTg (tt n) 93 = 0 := rfl
theorem ln_93 {n : Nat} : mLn (tt n) 93 = 12 := rfl
theorem tg_94 {n : Nat} : mTg (tt n) 94 = 0 := rfl
theorem ln_94 {n : Nat} : mLn (tt n) 94 = 12 := rfl
theorem tg_95 {n : Nat} : mTg (tt n) 95 = 0 := rfl
theorem ln_95 {n : Nat} : mLn (tt n) 95 = 12 := rfl
theorem tg_96 {n : Nat} : mTg (tt n) 96 = 0 := rfl
theorem ln_96 {n : Nat} : mLn (tt n) 96 = 12 := rfl
theorem tg_97 {n : Nat} : mTg (tt n) 97 = 5 := rfl
theorem rf_97_0 {n : Nat} : mRf (tt n) 97 0 = some 98 := rfl
theorem rf_97_1 {n : Nat} : mRf (tt n) 97 1 = some 99 := rfl
theorem rf_97_2 {n : Nat} : mRf (tt n) 97 2 = some 100 := rfl
theorem rf_97_3 {n : Nat} : mRf (tt n) 97 3 = some 101 := rfl
theorem tg_98 {n : Nat} : mTg (tt n) 98 = 0 := rfl
theorem ln_98 {n : Nat} : mLn (tt n) 98 = 12 := rfl
theorem tg_99 {n : Nat} : mTg (tt n) 99 = 0 := rfl
theorem ln_99 {n : Nat} : mLn (tt n) 99 = 12 := rfl
theorem tg_100 {n : Nat} : mTg (tt n) 100 = 0 := rfl
theorem ln_100 {n : Nat} : mLn (tt n) 100 = 12 := rfl
theorem tg_101 {n : Nat} : mTg (tt n) 101 = 0 := rfl
theorem ln_101 {n : Nat} : mLn (tt n) 101 = 72 := rfl
theorem tg_102 {n : Nat} : mTg (tt n) 102 = 10 := rfl
theorem rf_102_0 {n : Nat} : mRf (tt n) 102 0 = some 103 := rfl
theorem rf_102_1 {n : Nat} : mRf (tt n) 102 1 = some 108 := rfl
theorem rf_102_2 {n : Nat} : mRf (tt n) 102 2 = some 111 := rfl
theorem rf_102_3 {n : Nat} : mRf (tt n) 102 3 = some 114 := rfl
theorem rf_102_4 {n : Nat} : mRf (tt n) 102 4 = some 121 := rfl
theorem tg_103 {n : Nat} : mTg (tt n) 103 = 8 := rfl
theorem rf_103_0 {n : Nat} : mRf (tt n) 103 0 = some 104 := rfl
theorem rf_103_1 {n : Nat} : mRf (tt n) 103 1 = some 105 := rfl
theorem rf_103_2 {n : Nat} : mRf (tt n) 103 2 = some 106 := rfl
theorem rf_103_3 {n : Nat} : mRf (tt n) 103 3 = some 107 := rfl
theorem tg_104 {n : Nat} : mTg (tt n) 104 = 0 := rfl
theorem ln_104 {n : Nat} : mLn (tt n) 104 = 6 := rfl
theorem tg_105 {n : Nat} : mTg (tt n) 105 = 0 := rfl
theorem ln_105 {n : Nat} : mLn (tt n) 105 = 6 := rfl
theorem tg_106 {n : Nat} : mTg (tt n) 106 = 0 := rfl
theorem ln_106 {n : Nat} : mLn (tt n) 106 = 6 := rfl
theorem tg_107 {n : Nat} : mTg (tt n) 107 = 0 := rfl
theorem ln_107 {n : Nat} : mLn (tt n) 107 = 6 := rfl
theorem tg_108 {n : Nat} : mTg (tt n) 108 = 12 := rfl
theorem rf_108_0 {n : Nat} : mRf (tt n) 108 0 = some 109 := rfl
theorem rf_108_1 {n : Nat} : mRf (tt n) 108 1 = some 110 := rfl
theorem tg_109 {n : Nat} : mTg (tt n) 109 = 0 := rfl
theorem ln_109 {n : Nat} : mLn (tt n) 109 = 6 := rfl
theorem tg_110 {n : Nat} : mTg (tt n) 110 = 0 := rfl
theorem ln_110 {n : Nat} : mLn (tt n) 110 = 6 := rfl
theorem tg_111 {n : Nat} : mTg (tt n) 111 = 3 := rfl
theorem rf_111_0 {n : Nat} : mRf (tt n) 111 0 = some 112 := rfl
theorem rf_111_1 {n : Nat} : mRf (tt n) 111 1 = some 113 := rfl
theorem tg_112 {n : Nat} : mTg (tt n) 112 = 0 := rfl
theorem ln_112 {n : Nat} : mLn (tt n) 112 = 6 := rfl
theorem tg_113 {n : Nat} : mTg (tt n) 113 = 0 := rfl
theorem ln_113 {n : Nat} : mLn (tt n) 113 = 6 := rfl
theorem tg_114 {n : Nat} : mTg (tt n) 114 = 7 := rfl
theorem rf_114_0 {n : Nat} : mRf (tt n) 114 0 = some 115 := rfl
theorem rf_114_1 {n : Nat} : mRf (tt n) 114 1 = some 116 := rfl
theorem rf_114_2 {n : Nat} : mRf (tt n) 114 2 = some 117 := rfl
theorem rf_114_3 {n : Nat} : mRf (tt n) 114 3 = some 118 := rfl
theorem rf_114_4 {n : Nat} : mRf (tt n) 114 4 = some 119 := rfl
theorem rf_114_5 {n : Nat} : mRf (tt n) 114 5 = some 120 := rfl
theorem tg_115 {n : Nat} : mTg (tt n) 115 = 0 := rfl
theorem ln_115 {n : Nat} : mLn (tt n) 115 = 12 := rfl
theorem tg_116 {n : Nat} : mTg (tt n) 116 = 0 := rfl
theorem ln_116 {n : Nat} : mLn (tt n) 116 = 12 := rfl
theorem tg_117 {n : Nat} : mTg (tt n) 117 = 0 := rfl
theorem ln_117 {n : Nat} : mLn (tt n) 117 = 12 := rfl
theorem tg_118 {n : Nat} : mTg (tt n) 118 = 0 := rfl
theorem ln_118 {n : Nat} : mLn (tt n) 118 = 12 := rfl
theorem tg_119 {n : Nat} : mTg (tt n) 119 = 0 := rfl
theorem ln_119 {n : Nat} : mLn (tt n) 119 = 12 := rfl
theorem tg_120 {n : Nat} : mTg (tt n) 120 = 0 := rfl
theorem ln_120 {n : Nat} : mLn (tt n) 120 = 12 := rfl
theorem tg_121 {n : Nat} : mTg (tt n) 121 = 5 := rfl
theorem rf_121_0 {n : Nat} : mRf (tt n) 121 0 = some 122 := rfl
theorem rf_121_1 {n : Nat} : mRf (tt n) 121 1 = some 123 := rfl
theorem rf_121_2 {n : Nat} : mRf (tt n) 121 2 = some 124 := rfl
theorem rf_121_3 {n : Nat} : mRf (tt n) 121 3 = some 125 := rfl
theorem tg_122 {n : Nat} : mTg (tt n) 122 = 0 := rfl
theorem ln_122 {n : Nat} : mLn (tt n) 122 = 12 := rfl
theorem tg_123 {n : Nat} : mTg (tt n) 123 = 0 := rfl
theorem ln_123 {n : Nat} : mLn (tt n) 123 = 12 := rfl
theorem tg_124 {n : Nat} : mTg (tt n) 124 = 0 := rfl
theorem ln_124 {n : Nat} : mLn (tt n) 124 = 12 := rfl
theorem tg_125 {n : Nat} : mTg (tt n) 125 = 0 := rfl
theorem ln_125 {n : Nat} : mLn (tt n) 125 = 72 := rfl
theorem tg_126 {n : Nat} : mTg (tt n) 126 = 10 := rfl
theorem rf_126_0 {n : Nat} : mRf (tt n) 126 0 = some 127 := rfl
theorem rf_126_1 {n : Nat} : mRf (tt n) 126 1 = some 132 := rfl
theorem rf_126_2 {n : Nat} : mRf (tt n) 126 2 = some 135 := rfl
theorem rf_126_3 {n : Nat} : mRf (tt n) 126 3 = some 138 := rfl
theorem rf_126_4 {n : Nat} : mRf (tt n) 126 4 = some 145 := rfl
theorem tg_127 {n : Nat} : mTg (tt n) 127 = 8 := rfl
theorem rf_127_0 {n : Nat} : mRf (tt n) 127 0 = some 128 := rfl
theorem rf_127_1 {n : Nat} : mRf (tt n) 127 1 = some 129 := rfl
theorem rf_127_2 {n : Nat} : mRf (tt n) 127 2 = some 130 := rfl
theorem rf_127_3 {n : Nat} : mRf (tt n) 127 3 = some 131 := rfl
theorem tg_128 {n : Nat} : mTg (tt n) 128 = 0 := rfl
theorem ln_128 {n : Nat} : mLn (tt n) 128 = 6 := rfl
theorem tg_129 {n : Nat} : mTg (tt n) 129 = 0 := rfl
theorem ln_129 {n : Nat} : mLn (tt n) 129 = 6 := rfl
theorem tg_130 {n : Nat} : mTg (tt n) 130 = 0 := rfl
theorem ln_130 {n : Nat} : mLn (tt n) 130 = 6 := rfl
theorem tg_131 {n : Nat} : mTg (tt n) 131 = 0 := rfl
theorem ln_131 {n : Nat} : mLn (tt n) 131 = 6 := rfl
theorem tg_132 {n : Nat} : mTg (tt n) 132 = 12 := rfl
theorem rf_132_0 {n : Nat} : mRf (tt n) 132 0 = some 133 := rfl
theorem rf_132_1 {n : Nat} : mRf (tt n) 132 1 = some 134 := rfl
theorem tg_133 {n : Nat} : mTg (tt n) 133 = 0 := rfl
theorem ln_133 {n : Nat} : mLn (tt n) 133 = 6 := rfl
theorem tg_134 {n : Nat} : mTg (tt n) 134 = 0 := rfl
theorem ln_134 {n : Nat} : mLn (tt n) 134 = 6 := rfl
theorem tg_135 {n : Nat} : mTg (tt n) 135 = 3 := rfl
theorem rf_135_0 {n : Nat} : mRf (tt n) 135 0 = some 136 := rfl
theorem rf_135_1 {n : Nat} : mRf (tt n) 135 1 = some 137 := rfl
theorem tg_136 {n : Nat} : mTg (tt n) 136 = 0 := rfl
theorem ln_136 {n : Nat} : mLn (tt n) 136 = 6 := rfl
theorem tg_137 {n : Nat} : mTg (tt n) 137 = 0 := rfl
theorem ln_137 {n : Nat} : mLn (tt n) 137 = 6 := rfl
theorem tg_138 {n : Nat} : mTg (tt n) 138 = 7 := rfl
theorem rf_138_0 {n : Nat} : mRf (tt n) 138 0 = some 139 := rfl
theorem rf_138_1 {n : Nat} : mRf (tt n) 138 1 = some 140 := rfl
theorem rf_138_2 {n : Nat} : mRf (tt n) 138 2 = some 141 := rfl
theorem rf_138_3 {n : Nat} : mRf (tt n) 138 3 = some 142 := rfl
theorem rf_138_4 {n : Nat} : mRf (tt n) 138 4 = some 143 := rfl
theorem rf_138_5 {n : Nat} : mRf (tt n) 138 5 = some 144 := rfl
theorem tg_139 {n : Nat} : mTg (tt n) 139 = 0 := rfl
theorem ln_139 {n : Nat} : mLn (tt n) 139 = 12 := rfl
theorem tg_140 {n : Nat} : mTg (tt n) 140 = 0 := rfl
theorem ln_140 {n : Nat} : mLn (tt n) 140 = 12 := rfl
theorem tg_141 {n : Nat} : mTg (tt n) 141 = 0 := rfl
theorem ln_141 {n : Nat} : mLn (tt n) 141 = 12 := rfl
theorem tg_142 {n : Nat} : mTg (tt n) 142 = 0 := rfl
theorem ln_142 {n : Nat} : mLn (tt n) 142 = 12 := rfl
theorem tg_143 {n : Nat} : mTg (tt n) 143 = 0 := rfl
theorem ln_143 {n : Nat} : mLn (tt n) 143 = 12 := rfl
theorem tg_144 {n : Nat} : mTg (tt n) 144 = 0 := rfl
theorem ln_144 {n : Nat} : mLn (tt n) 144 = 12 := rfl
theorem tg_145 {n : Nat} : mTg (tt n) 145 = 5 := rfl
theorem rf_145_0 {n : Nat} : mRf (tt n) 145 0 = some 146 := rfl
theorem rf_145_1 {n : Nat} : mRf (tt n) 145 1 = some 147 := rfl
theorem rf_145_2 {n : Nat} : mRf (tt n) 145 2 = some 148 := rfl
theorem rf_145_3 {n : Nat} : mRf (tt n) 145 3 = some 149 := rfl
theorem tg_146 {n : Nat} : mTg (tt n) 146 = 0 := rfl
theorem ln_146 {n : Nat} : mLn (tt n) 146 = 12 := rfl
theorem tg_147 {n : Nat} : mTg (tt n) 147 = 0 := rfl
theorem ln_147 {n : Nat} : mLn (tt n) 147 = 12 := rfl
theorem tg_148 {n : Nat} : mTg (tt n) 148 = 0 := rfl
theorem ln_148 {n : Nat} : mLn (tt n) 148 = 12 := rfl
theorem tg_149 {n : Nat} : mTg (tt n) 149 = 0 := rfl
theorem ln_149 {n : Nat} : mLn (tt n) 149 = 72 := rfl
theorem tg_150 {n : Nat} : mTg (tt n) 150 = 10 := rfl
theorem rf_150_0 {n : Nat} : mRf (tt n) 150 0 = some 151 := rfl
theorem rf_150_1 {n : Nat} : mRf (tt n) 150 1 = some 156 := rfl
theorem rf_150_2 {n : Nat} : mRf (tt n) 150 2 = some 159 := rfl
theorem rf_150_3 {n : Nat} : mRf (tt n) 150 3 = some 162 := rfl
theorem rf_150_4 {n : Nat} : mRf (tt n) 150 4 = some 169 := rfl
theorem tg_151 {n : Nat} : mTg (tt n) 151 = 8 := rfl
theorem rf_151_0 {n : Nat} : mRf (tt n) 151 0 = some 152 := rfl
theorem rf_151_1 {n : Nat} : mRf (tt n) 151 1 = some 153 := rfl
theorem rf_151_2 {n : Nat} : mRf (tt n) 151 2 = some 154 := rfl
theorem rf_151_3 {n : Nat} : mRf (tt n) 151 3 = some 155 := rfl
theorem tg_152 {n : Nat} : mTg (tt n) 152 = 0 := rfl
theorem ln_152 {n : Nat} : mLn (tt n) 152 = 6 := rfl
theorem tg_153 {n : Nat} : mTg (tt n) 153 = 0 := rfl
theorem ln_153 {n : Nat} : mLn (tt n) 153 = 6 := rfl
theorem tg_154 {n : Nat} : mTg (tt n) 154 = 0 := rfl
theorem ln_154 {n : Nat} : mLn (tt n) 154 = 6 := rfl
theorem tg_155 {n : Nat} : mTg (tt n) 155 = 0 := rfl
theorem ln_155 {n : Nat} : mLn (tt n) 155 = 6 := rfl
theorem tg_156 {n : Nat} : mTg (tt n) 156 = 12 := rfl
theorem rf_156_0 {n : Nat} : mRf (tt n) 156 0 = some 157 := rfl
theorem rf_156_1 {n : Nat} : mRf (tt n) 156 1 = some 158 := rfl
theorem tg_157 {n : Nat} : mTg (tt n) 157 = 0 := rfl
theorem ln_157 {n : Nat} : mLn (tt n) 157 = 6 := rfl
theorem tg_158 {n : Nat} : mTg (tt n) 158 = 0 := rfl
theorem ln_158 {n : Nat} : mLn (tt n) 158 = 6 := rfl
theorem tg_159 {n : Nat} : mTg (tt n) 159 = 3 := rfl
theorem rf_159_0 {n : Nat} : mRf (tt n) 159 0 = some 160 := rfl
theorem rf_159_1 {n : Nat} : mRf (tt n) 159 1 = some 161 := rfl
theorem tg_160 {n : Nat} : mTg (tt n) 160 = 0 := rfl
theorem ln_160 {n : Nat} : mLn (tt n) 160 = 6 := rfl
theorem tg_161 {n : Nat} : mTg (tt n) 161 = 0 := rfl
theorem ln_161 {n : Nat} : mLn (tt n) 161 = 6 := rfl
theorem tg_162 {n : Nat} : mTg (tt n) 162 = 7 := rfl
theorem rf_162_0 {n : Nat} : mRf (tt n) 162 0 = some 163 := rfl
theorem rf_162_1 {n : Nat} : mRf (tt n) 162 1 = some 164 := rfl
theorem rf_162_2 {n : Nat} : mRf (tt n) 162 2 = some 165 := rfl
theorem rf_162_3 {n : Nat} : mRf (tt n) 162 3 = some 166 := rfl
theorem rf_162_4 {n : Nat} : mRf (tt n) 162 4 = some 167 := rfl
theorem rf_162_5 {n : Nat} : mRf (tt n) 162 5 = some 168 := rfl
theorem tg_163 {n : Nat} : mTg (tt n) 163 = 0 := rfl
theorem ln_163 {n : Nat} : mLn (tt n) 163 = 12 := rfl
theorem tg_164 {n : Nat} : mTg (tt n) 164 = 0 := rfl
theorem ln_164 {n : Nat} : mLn (tt n) 164 = 12 := rfl
theorem tg_165 {n : Nat} : mTg (tt n) 165 = 0 := rfl
theorem ln_165 {n : Nat} : mLn (tt n) 165 = 12 := rfl
theorem tg_166 {n : Nat} : mTg (tt n) 166 = 0 := rfl
theorem ln_166 {n : Nat} : mLn (tt n) 166 = 12 := rfl
theorem tg_167 {n : Nat} : mTg (tt n) 167 = 0 := rfl
theorem ln_167 {n : Nat} : mLn (tt n) 167 = 12 := rfl
theorem tg_168 {n : Nat} : mTg (tt n) 168 = 0 := rfl
theorem ln_168 {n : Nat} : mLn (tt n) 168 = 12 := rfl
theorem tg_169 {n : Nat} : mTg (tt n) 169 = 5 := rfl
theorem rf_169_0 {n : Nat} : mRf (tt n) 169 0 = some 170 := rfl
theorem rf_169_1 {n : Nat} : mRf (tt n) 169 1 = some 171 := rfl
theorem rf_169_2 {n : Nat} : mRf (tt n) 169 2 = some 172 := rfl
theorem rf_169_3 {n : Nat} : mRf (tt n) 169 3 = some 173 := rfl
theorem tg_170 {n : Nat} : mTg (tt n) 170 = 0 := rfl
theorem ln_170 {n : Nat} : mLn (tt n) 170 = 12 := rfl
theorem tg_171 {n : Nat} : mTg (tt n) 171 = 0 := rfl
theorem ln_171 {n : Nat} : mLn (tt n) 171 = 12 := rfl
theorem tg_172 {n : Nat} : mTg (tt n) 172 = 0 := rfl
theorem ln_172 {n : Nat} : mLn (tt n) 172 = 12 := rfl
theorem tg_173 {n : Nat} : mTg (tt n) 173 = 0 := rfl
theorem ln_173 {n : Nat} : mLn (tt n) 173 = 72 := rfl
theorem tg_174 {n : Nat} : mTg (tt n) 174 = 10 := rfl
theorem rf_174_0 {n : Nat} : mRf (tt n) 174 0 = some 175 := rfl
theorem rf_174_1 {n : Nat} : mRf (tt n) 174 1 = some 180 := rfl
theorem rf_174_2 {n : Nat} : mRf (tt n) 174 2 = some 183 := rfl
theorem rf_174_3 {n : Nat} : mRf (tt n) 174 3 = some 186 := rfl
theorem rf_174_4 {n : Nat} : mRf (tt n) 174 4 = some 193 := rfl
theorem tg_175 {n : Nat} : mTg (tt n) 175 = 8 := rfl
theorem rf_175_0 {n : Nat} : mRf (tt n) 175 0 = some 176 := rfl
theorem rf_175_1 {n : Nat} : mRf (tt n) 175 1 = some 177 := rfl
theorem rf_175_2 {n : Nat} : mRf (tt n) 175 2 = some 178 := rfl
theorem rf_175_3 {n : Nat} : mRf (tt n) 175 3 = some 179 := rfl
theorem tg_176 {n : Nat} : mTg (tt n) 176 = 0 := rfl
theorem ln_176 {n : Nat} : mLn (tt n) 176 = 6 := rfl
theorem tg_177 {n : Nat} : mTg (tt n) 177 = 0 := rfl
theorem ln_177 {n : Nat} : mLn (tt n) 177 = 6 := rfl
theorem tg_178 {n : Nat} : mTg (tt n) 178 = 0 := rfl
theorem ln_178 {n : Nat} : mLn (tt n) 178 = 6 := rfl
theorem tg_179 {n : Nat} : mTg (tt n) 179 = 0 := rfl
theorem ln_179 {n : Nat} : mLn (tt n) 179 = 6 := rfl
theorem tg_180 {n : Nat} : mTg (tt n) 180 = 12 := rfl
theorem rf_180_0 {n : Nat} : mRf (tt n) 180 0 = some 181 := rfl
theorem rf_180_1 {n : Nat} : mRf (tt n) 180 1 = some 182 := rfl
theorem tg_181 {n : Nat} : mTg (tt n) 181 = 0 := rfl
theorem ln_181 {n : Nat} : mLn (tt n) 181 = 6 := rfl
theorem tg_182 {n : Nat} : mTg (tt n) 182 = 0 := rfl
theorem ln_182 {n : Nat} : mLn (tt n) 182 = 6 := rfl
theorem tg_183 {n : Nat} : mTg (tt n) 183 = 3 := rfl
theorem rf_183_0 {n : Nat} : mRf (tt n) 183 0 = some 184 := rfl
theorem rf_183_1 {n : Nat} : mRf (tt n) 183 1 = some 185 := rfl
theorem tg_184 {n : Nat} : mTg (tt n) 184 = 0 := rfl
theorem ln_184 {n : Nat} : mLn (tt n) 184 = 6 := rfl
theorem tg_185 {n : Nat} : mTg (tt n) 185 = 0 := rfl
theorem ln_185 {n : Nat} : mLn (tt n) 185 = 6 := rfl
theorem tg_186 {n : Nat} : mTg (tt n) 186 = 7 := rfl
theorem rf_186_0 {n : Nat} : mRf (tt n) 186 0 = some 187 := rfl
theorem rf_186_1 {n : Nat} : mRf (tt n) 186 1 = some 188 := rfl
theorem rf_186_2 {n : Nat} : mRf (tt n) 186 2 = some 189 := rfl
theorem rf_186_3 {n : Nat} : mRf (tt n) 186 3 = some 190 := rfl
theorem rf_186_4 {n : Nat} : mRf (tt n) 186 4 = some 191 := rfl
theorem rf_186_5 {n : Nat} : mRf (tt n) 186 5 = some 192 := rfl
theorem tg_187 {n : Nat} : mTg (tt n) 187 = 0 := rfl
theorem ln_187 {n : Nat} : mLn (tt n) 187 = 12 := rfl
theorem tg_188 {n : Nat} : mTg (tt n) 188 = 0 := rfl
theorem ln_188 {n : Nat} : mLn (tt n) 188 = 12 := rfl
theorem tg_189 {n : Nat} : mTg (tt n) 189 = 0 := rfl
theorem ln_189 {n : Nat} : mLn (tt n) 189 = 12 := rfl
theorem tg_190 {n : Nat} : mTg (tt n) 190 = 0 := rfl
theorem ln_190 {n : Nat} : mLn (tt n) 190 = 12 := rfl
theorem tg_191 {n : Nat} : mTg (tt n) 191 = 0 := rfl
theorem ln_191 {n : Nat} : mLn (tt n) 191 = 12 := rfl
theorem tg_192 {n : Nat} : mTg (tt n) 192 = 0 := rfl
theorem ln_192 {n : Nat} : mLn (tt n) 192 = 12 := rfl
theorem tg_193 {n : Nat} : mTg (tt n) 193 = 5 := rfl
theorem rf_193_0 {n : Nat} : mRf (tt n) 193 0 = some 194 := rfl
theorem rf_193_1 {n : Nat} : mRf (tt n) 193 1 = some 195 := rfl
theorem rf_193_2 {n : Nat} : mRf (tt n) 193 2 = some 196 := rfl
theorem rf_193_3 {n : Nat} : mRf (tt n) 193 3 = some 197 := rfl
theorem tg_194 {n : Nat} : mTg (tt n) 194 = 0 := rfl
theorem ln_194 {n : Nat} : mLn (tt n) 194 = 12 := rfl
theorem tg_195 {n : Nat} : mTg (tt n) 195 = 0 := rfl
theorem ln_195 {n : Nat} : mLn (tt n) 195 = 12 := rfl
theorem tg_196 {n : Nat} : mTg (tt n) 196 = 0 := rfl
theorem ln_196 {n : Nat} : mLn (tt n) 196 = 12 := rfl
theorem tg_197 {n : Nat} : mTg (tt n) 197 = 0 := rfl
theorem ln_197 {n : Nat} : mLn (tt n) 197 = 72 := rfl
theorem tg_198 {n : Nat} : mTg (tt n) 198 = 10 := rfl
theorem rf_198_0 {n : Nat} : mRf (tt n) 198 0 = some 199 := rfl
theorem rf_198_1 {n : Nat} : mRf (tt n) 198 1 = some 204 := rfl
theorem rf_198_2 {n : Nat} : mRf (tt n) 198 2 = some 207 := rfl
theorem rf_198_3 {n : Nat} : mRf (tt n) 198 3 = some 210 := rfl
theorem rf_198_4 {n : Nat} : mRf (tt n) 198 4 = some 217 := rfl
theorem tg_199 {n : Nat} : mTg (tt n) 199 = 8 := rfl
theorem rf_199_0 {n : Nat} : mRf (tt n) 199 0 = some 200 := rfl
theorem rf_199_1 {n : Nat} : mRf (tt n) 199 1 = some 201 := rfl
theorem rf_199_2 {n : Nat} : mRf (tt n) 199 2 = some 202 := rfl
theorem rf_199_3 {n : Nat} : mRf (tt n) 199 3 = some 203 := rfl
theorem tg_200 {n : Nat} : mTg (tt n) 200 = 0 := rfl
theorem ln_200 {n : Nat} : mLn (tt n) 200 = 6 := rfl
theorem tg_201 {n : Nat} : mTg (tt n) 201 = 0 := rfl
theorem ln_201 {n : Nat} : mLn (tt n) 201 = 6 := rfl
theorem tg_202 {n : Nat} : mTg (tt n) 202 = 0 := rfl
theorem ln_202 {n : Nat} : mLn (tt n) 202 = 6 := rfl
theorem tg_203 {n : Nat} : mTg (tt n) 203 = 0 := rfl
theorem ln_203 {n : Nat} : mLn (tt n) 203 = 6 := rfl
theorem tg_204 {n : Nat} : mTg (tt n) 204 = 12 := rfl
theorem rf_204_0 {n : Nat} : mRf (tt n) 204 0 = some 205 := rfl
theorem rf_204_1 {n : Nat} : mRf (tt n) 204 1 = some 206 := rfl
theorem tg_205 {n : Nat} : mTg (tt n) 205 = 0 := rfl
theorem ln_205 {n : Nat} : mLn (tt n) 205 = 6 := rfl
theorem tg_206 {n : Nat} : mTg (tt n) 206 = 0 := rfl
theorem ln_206 {n : Nat} : mLn (tt n) 206 = 6 := rfl
theorem tg_207 {n : Nat} : mTg (tt n) 207 = 3 := rfl
theorem rf_207_0 {n : Nat} : mRf (tt n) 207 0 = some 208 := rfl
theorem rf_207_1 {n : Nat} : mRf (tt n) 207 1 = some 209 := rfl
theorem tg_208 {n : Nat} : mTg (tt n) 208 = 0 := rfl
theorem ln_208 {n : Nat} : mLn (tt n) 208 = 6 := rfl
theorem tg_209 {n : Nat} : mTg (tt n) 209 = 0 := rfl
theorem ln_209 {n : Nat} : mLn (tt n) 209 = 6 := rfl
theorem tg_210 {n : Nat} : mTg (tt n) 210 = 7 := rfl
theorem rf_210_0 {n : Nat} : mRf (tt n) 210 0 = some 211 := rfl
theorem rf_210_1 {n : Nat} : mRf (tt n) 210 1 = some 212 := rfl
theorem rf_210_2 {n : Nat} : mRf (tt n) 210 2 = some 213 := rfl
theorem rf_210_3 {n : Nat} : mRf (tt n) 210 3 = some 214 := rfl
theorem rf_210_4 {n : Nat} : mRf (tt n) 210 4 = some 215 := rfl
theorem rf_210_5 {n : Nat} : mRf (tt n) 210 5 = some 216 := rfl
theorem tg_211 {n : Nat} : mTg (tt n) 211 = 0 := rfl
theorem ln_211 {n : Nat} : mLn (tt n) 211 = 12 := rfl
theorem tg_212 {n : Nat} : mTg (tt n) 212 = 0 := rfl
theorem ln_212 {n : Nat} : mLn (tt n) 212 = 12 := rfl
theorem tg_213 {n : Nat} : mTg (tt n) 213 = 0 := rfl
theorem ln_213 {n : Nat} : mLn (tt n) 213 = 12 := rfl
theorem tg_214 {n : Nat} : mTg (tt n) 214 = 0 := rfl
theorem ln_214 {n : Nat} : mLn (tt n) 214 = 12 := rfl
theorem tg_215 {n : Nat} : mTg (tt n) 215 = 0 := rfl
theorem ln_215 {n : Nat} : mLn (tt n) 215 = 12 := rfl
theorem tg_216 {n : Nat} : mTg (tt n) 216 = 0 := rfl
theorem ln_216 {n : Nat} : mLn (tt n) 216 = 12 := rfl
theorem tg_217 {n : Nat} : mTg (tt n) 217 = 5 := rfl
theorem rf_217_0 {n : Nat} : mRf (tt n) 217 0 = some 218 := rfl
theorem rf_217_1 {n : Nat} : mRf (tt n) 217 1 = some 219 := rfl
theorem rf_217_2 {n : Nat} : mRf (tt n) 217 2 = some 220 := rfl
theorem rf_217_3 {n : Nat} : mRf (tt n) 217 3 = some 221 := rfl
theorem tg_218 {n : Nat} : mTg (tt n) 218 = 0 := rfl
theorem ln_218 {n : Nat} : mLn (tt n) 218 = 12 := rfl
theorem tg_219 {n : Nat} : mTg (tt n) 219 = 0 := rfl
theorem ln_219 {n : Nat} : mLn (tt n) 219 = 12 := rfl
theorem tg_220 {n : Nat} : mTg (tt n) 220 = 0 := rfl
theorem ln_220 {n : Nat} : mLn (tt n) 220 = 12 := rfl
theorem tg_221 {n : Nat} : mTg (tt n) 221 = 0 := rfl
theorem ln_221 {n : Nat} : mLn (tt n) 221 = 72 := rfl
theorem tg_222 {n : Nat} : mTg (tt n) 222 = 10 := rfl
theorem rf_222_0 {n : Nat} : mRf (tt n) 222 0 = some 223 := rfl
theorem rf_222_1 {n : Nat} : mRf (tt n) 222 1 = some 228 := rfl
theorem rf_222_2 {n : Nat} : mRf (tt n) 222 2 = some 231 := rfl
theorem rf_222_3 {n : Nat} : mRf (tt n) 222 3 = some 234 := rfl
theorem rf_222_4 {n : Nat} : mRf (tt n) 222 4 = some 241 := rfl
theorem tg_223 {n : Nat} : mTg (tt n) 223 = 8 := rfl
theorem rf_223_0 {n : Nat} : mRf (tt n) 223 0 = some 224 := rfl
theorem rf_223_1 {n : Nat} : mRf (tt n) 223 1 = some 225 := rfl
theorem rf_223_2 {n : Nat} : mRf (tt n) 223 2 = some 226 := rfl
theorem rf_223_3 {n : Nat} : mRf (tt n) 223 3 = some 227 := rfl
theorem tg_224 {n : Nat} : mTg (tt n) 224 = 0 := rfl
theorem ln_224 {n : Nat} : mLn (tt n) 224 = 6 := rfl
theorem tg_225 {n : Nat} : mTg (tt n) 225 = 0 := rfl
theorem ln_225 {n : Nat} : mLn (tt n) 225 = 6 := rfl
theorem tg_226 {n : Nat} : mTg (tt n) 226 = 0 := rfl
theorem ln_226 {n : Nat} : mLn (tt n) 226 = 6 := rfl
theorem tg_227 {n : Nat} : mTg (tt n) 227 = 0 := rfl
theorem ln_227 {n : Nat} : mLn (tt n) 227 = 6 := rfl
theorem tg_228 {n : Nat} : mTg (tt n) 228 = 12 := rfl
theorem rf_228_0 {n : Nat} : mRf (tt n) 228 0 = some 229 := rfl
theorem rf_228_1 {n : Nat} : mRf (tt n) 228 1 = some 230 := rfl
theorem tg_229 {n : Nat} : mTg (tt n) 229 = 0 := rfl
theorem ln_229 {n : Nat} : mLn (tt n) 229 = 6 := rfl
theorem tg_230 {n : Nat} : mTg (tt n) 230 = 0 := rfl
theorem ln_230 {n : Nat} : mLn (tt n) 230 = 6 := rfl
theorem tg_231 {n : Nat} : mTg (tt n) 231 = 3 := rfl
theorem rf_231_0 {n : Nat} : mRf (tt n) 231 0 = some 232 := rfl
theorem rf_231_1 {n : Nat} : mRf (tt n) 231 1 = some 233 := rfl
theorem tg_232 {n : Nat} : mTg (tt n) 232 = 0 := rfl
theorem ln_232 {n : Nat} : mLn (tt n) 232 = 6 := rfl
theorem tg_233 {n : Nat} : mTg (tt n) 233 = 0 := rfl
theorem ln_233 {n : Nat} : mLn (tt n) 233 = 6 := rfl
theorem tg_234 {n : Nat} : mTg (tt n) 234 = 7 := rfl
theorem rf_234_0 {n : Nat} : mRf (tt n) 234 0 = some 235 := rfl
theorem rf_234_1 {n : Nat} : mRf (tt n) 234 1 = some 236 := rfl
theorem rf_234_2 {n : Nat} : mRf (tt n) 234 2 = some 237 := rfl
theorem rf_234_3 {n : Nat} : mRf (tt n) 234 3 = some 238 := rfl
theorem rf_234_4 {n : Nat} : mRf (tt n) 234 4 = some 239 := rfl
theorem rf_234_5 {n : Nat} : mRf (tt n) 234 5 = some 240 := rfl
theorem tg_235 {n : Nat} : mTg (tt n) 235 = 0 := rfl
theorem ln_235 {n : Nat} : mLn (tt n) 235 = 12 := rfl
theorem tg_236 {n : Nat} : mTg (tt n) 236 = 0 := rfl
theorem ln_236 {n : Nat} : mLn (tt n) 236 = 12 := rfl
theorem tg_237 {n : Nat} : mTg (tt n) 237 = 0 := rfl
theorem ln_237 {n : Nat} : mLn (tt n) 237 = 12 := rfl
theorem tg_238 {n : Nat} : mTg (tt n) 238 = 0 := rfl
theorem ln_238 {n : Nat} : mLn (tt n) 238 = 12 := rfl
theorem tg_239 {n : Nat} : mTg (tt n) 239 = 0 := rfl
theorem ln_239 {n : Nat} : mLn (tt n) 239 = 12 := rfl
theorem tg_240 {n : Nat} : mTg (tt n) 240 = 0 := rfl
theorem ln_240 {n : Nat} : mLn (tt n) 240 = 12 := rfl
theorem tg_241 {n : Nat} : mTg (tt n) 241 = 5 := rfl
theorem rf_241_0 {n : Nat} : mRf (tt n) 241 0 = some 242 := rfl
theorem rf_241_1 {n : Nat} : mRf (tt n) 241 1 = some 243 := rfl
theorem rf_241_2 {n : Nat} : mRf (tt n) 241 2 = some 244 := rfl
theorem rf_241_3 {n : Nat} : mRf (tt n) 241 3 = some 245 := rfl
theorem tg_242 {n : Nat} : mTg (tt n) 242 = 0 := rfl
theorem ln_242 {n : Nat} : mLn (tt n) 242 = 12 := rfl
theorem tg_243 {n : Nat} : mTg (tt n) 243 = 0 := rfl
theorem ln_243 {n : Nat} : mLn (tt n) 243 = 12 := rfl
theorem tg_244 {n : Nat} : mTg (tt n) 244 = 0 := rfl
theorem ln_244 {n : Nat} : mLn (tt n) 244 = 12 := rfl
theorem tg_245 {n : Nat} : mTg (tt n) 245 = 0 := rfl
theorem ln_245 {n : Nat} : mLn (tt n) 245 = 72 := rfl
theorem tg_246 {n : Nat} : mTg (tt n) 246 = 10 := rfl
theorem rf_246_0 {n : Nat} : mRf (tt n) 246 0 = some 247 := rfl
theorem rf_246_1 {n : Nat} : mRf (tt n) 246 1 = some 252 := rfl
theorem rf_246_2 {n : Nat} : mRf (tt n) 246 2 = some 255 := rfl
theorem rf_246_3 {n : Nat} : mRf (tt n) 246 3 = some 258 := rfl
theorem rf_246_4 {n : Nat} : mRf (tt n) 246 4 = some 265 := rfl
theorem tg_247 {n : Nat} : mTg (tt n) 247 = 8 := rfl
theorem rf_247_0 {n : Nat} : mRf (tt n) 247 0 = some 248 := rfl
theorem rf_247_1 {n : Nat} : mRf (tt n) 247 1 = some 249 := rfl
theorem rf_247_2 {n : Nat} : mRf (tt n) 247 2 = some 250 := rfl
theorem rf_247_3 {n : Nat} : mRf (tt n) 247 3 = some 251 := rfl
theorem tg_248 {n : Nat} : mTg (tt n) 248 = 0 := rfl
theorem ln_248 {n : Nat} : mLn (tt n) 248 = 6 := rfl
theorem tg_249 {n : Nat} : mTg (tt n) 249 = 0 := rfl
theorem ln_249 {n : Nat} : mLn (tt n) 249 = 6 := rfl
theorem tg_250 {n : Nat} : mTg (tt n) 250 = 0 := rfl
theorem ln_250 {n : Nat} : mLn (tt n) 250 = 6 := rfl
theorem tg_251 {n : Nat} : mTg (tt n) 251 = 0 := rfl
theorem ln_251 {n : Nat} : mLn (tt n) 251 = 6 := rfl
theorem tg_252 {n : Nat} : mTg (tt n) 252 = 12 := rfl
theorem rf_252_0 {n : Nat} : mRf (tt n) 252 0 = some 253 := rfl
theorem rf_252_1 {n : Nat} : mRf (tt n) 252 1 = some 254 := rfl
theorem tg_253 {n : Nat} : mTg (tt n) 253 = 0 := rfl
theorem ln_253 {n : Nat} : mLn (tt n) 253 = 6 := rfl
theorem tg_254 {n : Nat} : mTg (tt n) 254 = 0 := rfl
theorem ln_254 {n : Nat} : mLn (tt n) 254 = 6 := rfl
theorem tg_255 {n : Nat} : mTg (tt n) 255 = 3 := rfl
theorem rf_255_0 {n : Nat} : mRf (tt n) 255 0 = some 256 := rfl
theorem rf_255_1 {n : Nat} : mRf (tt n) 255 1 = some 257 := rfl
theorem tg_256 {n : Nat} : mTg (tt n) 256 = 0 := rfl
theorem ln_256 {n : Nat} : mLn (tt n) 256 = 6 := rfl
theorem tg_257 {n : Nat} : mTg (tt n) 257 = 0 := rfl
theorem ln_257 {n : Nat} : mLn (tt n) 257 = 6 := rfl
theorem tg_258 {n : Nat} : mTg (tt n) 258 = 7 := rfl
theorem rf_258_0 {n : Nat} : mRf (tt n) 258 0 = some 259 := rfl
theorem rf_258_1 {n : Nat} : mRf (tt n) 258 1 = some 260 := rfl
theorem rf_258_2 {n : Nat} : mRf (tt n) 258 2 = some 261 := rfl
theorem rf_258_3 {n : Nat} : mRf (tt n) 258 3 = some 262 := rfl
theorem rf_258_4 {n : Nat} : mRf (tt n) 258 4 = some 263 := rfl
theorem rf_258_5 {n : Nat} : mRf (tt n) 258 5 = some 264 := rfl
theorem tg_259 {n : Nat} : mTg (tt n) 259 = 0 := rfl
theorem ln_259 {n : Nat} : mLn (tt n) 259 = 12 := rfl
theorem tg_260 {n : Nat} : mTg (tt n) 260 = 0 := rfl
theorem ln_260 {n : Nat} : mLn (tt n) 260 = 12 := rfl
theorem tg_261 {n : Nat} : mTg (tt n) 261 = 0 := rfl
theorem ln_261 {n : Nat} : mLn (tt n) 261 = 12 := rfl
theorem tg_262 {n : Nat} : mTg (tt n) 262 = 0 := rfl
theorem ln_262 {n : Nat} : mLn (tt n) 262 = 12 := rfl
theorem tg_263 {n : Nat} : mTg (tt n) 263 = 0 := rfl
theorem ln_263 {n : Nat} : mLn (tt n) 263 = 12 := rfl
theorem tg_264 {n : Nat} : mTg (tt n) 264 = 0 := rfl
theorem ln_264 {n : Nat} : mLn (tt n) 264 = 12 := rfl
theorem tg_265 {n : Nat} : mTg (tt n) 265 = 5 := rfl
theorem rf_265_0 {n : Nat} : mRf (tt n) 265 0 = some 266 := rfl
theorem rf_265_1 {n : Nat} : mRf (tt n) 265 1 = some 267 := rfl
theorem rf_265_2 {n : Nat} : mRf (tt n) 265 2 = some 268 := rfl
theorem rf_265_3 {n : Nat} : mRf (tt n) 265 3 = some 269 := rfl
theorem tg_266 {n : Nat} : mTg (tt n) 266 = 0 := rfl
theorem ln_266 {n : Nat} : mLn (tt n) 266 = 12 := rfl
theorem tg_267 {n : Nat} : mTg (tt n) 267 = 0 := rfl
theorem ln_267 {n : Nat} : mLn (tt n) 267 = 12 := rfl
theorem tg_268 {n : Nat} : mTg (tt n) 268 = 0 := rfl
theorem ln_268 {n : Nat} : mLn (tt n) 268 = 12 := rfl
theorem tg_269 {n : Nat} : mTg (tt n) 269 = 0 := rfl
theorem ln_269 {n : Nat} : mLn (tt n) 269 = 72 := rfl
theorem tg_270 {n : Nat} : mTg (tt n) 270 = 10 := rfl
theorem rf_270_0 {n : Nat} : mRf (tt n) 270 0 = some 271 := rfl
theorem rf_270_1 {n : Nat} : mRf (tt n) 270 1 = some 276 := rfl
theorem rf_270_2 {n : Nat} : mRf (tt n) 270 2 = some 279 := rfl
theorem rf_270_3 {n : Nat} : mRf (tt n) 270 3 = some 282 := rfl
theorem rf_270_4 {n : Nat} : mRf (tt n) 270 4 = some 289 := rfl
theorem tg_271 {n : Nat} : mTg (tt n) 271 = 8 := rfl
theorem rf_271_0 {n : Nat} : mRf (tt n) 271 0 = some 272 := rfl
theorem rf_271_1 {n : Nat} : mRf (tt n) 271 1 = some 273 := rfl
theorem rf_271_2 {n : Nat} : mRf (tt n) 271 2 = some 274 := rfl
theorem rf_271_3 {n : Nat} : mRf (tt n) 271 3 = some 275 := rfl
theorem tg_272 {n : Nat} : mTg (tt n) 272 = 0 := rfl
theorem ln_272 {n : Nat} : mLn (tt n) 272 = 6 := rfl
theorem tg_273 {n : Nat} : mTg (tt n) 273 = 0 := rfl
theorem ln_273 {n : Nat} : mLn (tt n) 273 = 6 := rfl
theorem tg_274 {n : Nat} : mTg (tt n) 274 = 0 := rfl
theorem ln_274 {n : Nat} : mLn (tt n) 274 = 6 := rfl
theorem tg_275 {n : Nat} : mTg (tt n) 275 = 0 := rfl
theorem ln_275 {n : Nat} : mLn (tt n) 275 = 6 := rfl
theorem tg_276 {n : Nat} : mTg (tt n) 276 = 12 := rfl
theorem rf_276_0 {n : Nat} : mRf (tt n) 276 0 = some 277 := rfl
theorem rf_276_1 {n : Nat} : mRf (tt n) 276 1 = some 278 := rfl
theorem tg_277 {n : Nat} : mTg (tt n) 277 = 0 := rfl
theorem ln_277 {n : Nat} : mLn (tt n) 277 = 6 := rfl
theorem tg_278 {n : Nat} : mTg (tt n) 278 = 0 := rfl
theorem ln_278 {n : Nat} : mLn (tt n) 278 = 6 := rfl
theorem tg_279 {n : Nat} : mTg (tt n) 279 = 3 := rfl
theorem rf_279_0 {n : Nat} : mRf (tt n) 279 0 = some 280 := rfl
theorem rf_279_1 {n : Nat} : mRf (tt n) 279 1 = some 281 := rfl
theorem tg_280 {n : Nat} : mTg (tt n) 280 = 0 := rfl
theorem ln_280 {n : Nat} : mLn (tt n) 280 = 6 := rfl
theorem tg_281 {n : Nat} : mTg (tt n) 281 = 0 := rfl
theorem ln_281 {n : Nat} : mLn (tt n) 281 = 6 := rfl
theorem tg_282 {n : Nat} : mTg (tt n) 282 = 7 := rfl
theorem rf_282_0 {n : Nat} : mRf (tt n) 282 0 = some 283 := rfl
theorem rf_282_1 {n : Nat} : mRf (tt n) 282 1 = some 284 := rfl
theorem rf_282_2 {n : Nat} : mRf (tt n) 282 2 = some 285 := rfl
theorem rf_282_3 {n : Nat} : mRf (tt n) 282 3 = some 286 := rfl
theorem rf_282_4 {n : Nat} : mRf (tt n) 282 4 = some 287 := rfl
theorem rf_282_5 {n : Nat} : mRf (tt n) 282 5 = some 288 := rfl
theorem tg_283 {n : Nat} : mTg (tt n) 283 = 0 := rfl
theorem ln_283 {n : Nat} : mLn (tt n) 283 = 12 := rfl
theorem tg_284 {n : Nat} : mTg (tt n) 284 = 0 := rfl
theorem ln_284 {n : Nat} : mLn (tt n) 284 = 12 := rfl
theorem tg_285 {n : Nat} : mTg (tt n) 285 = 0 := rfl
theorem ln_285 {n : Nat} : mLn (tt n) 285 = 12 := rfl
theorem tg_286 {n : Nat} : mTg (tt n) 286 = 0 := rfl
theorem ln_286 {n : Nat} : mLn (tt n) 286 = 12 := rfl
theorem tg_287 {n : Nat} : mTg (tt n) 287 = 0 := rfl
theorem ln_287 {n : Nat} : mLn (tt n) 287 = 12 := rfl
theorem tg_288 {n : Nat} : mTg (tt n) 288 = 0 := rfl
theorem ln_288 {n : Nat} : mLn (tt n) 288 = 12 := rfl
theorem tg_289 {n : Nat} : mTg (tt n) 289 = 5 := rfl
theorem rf_289_0 {n : Nat} : mRf (tt n) 289 0 = some 290 := rfl
theorem rf_289_1 {n : Nat} : mRf (tt n) 289 1 = some 291 := rfl
theorem rf_289_2 {n : Nat} : mRf (tt n) 289 2 = some 292 := rfl
theorem rf_289_3 {n : Nat} : mRf (tt n) 289 3 = some 293 := rfl
theorem tg_290 {n : Nat} : mTg (tt n) 290 = 0 := rfl
theorem ln_290 {n : Nat} : mLn (tt n) 290 = 12 := rfl
theorem tg_291 {n : Nat} : mTg (tt n) 291 = 0 := rfl
theorem ln_291 {n : Nat} : mLn (tt n) 291 = 12 := rfl
theorem tg_292 {n : Nat} : mTg (tt n) 292 = 0 := rfl
theorem ln_292 {n : Nat} : mLn (tt n) 292 = 12 := rfl
theorem tg_293 {n : Nat} : mTg (tt n) 293 = 0 := rfl
theorem ln_293 {n : Nat} : mLn (tt n) 293 = 72 := rfl
theorem tg_294 {n : Nat} : mTg (tt n) 294 = 4 := rfl
theorem rf_294_0 {n : Nat} : mRf (tt n) 294 0 = some 295 := rfl
theorem rf_294_1 {n : Nat} : mRf (tt n) 294 1 = some 296 := rfl
theorem rf_294_2 {n : Nat} : mRf (tt n) 294 2 = some 297 := rfl
theorem rf_294_3 {n : Nat} : mRf (tt n) 294 3 = some 298 := rfl
theorem rf_294_4 {n : Nat} : mRf (tt n) 294 4 = some 299 := rfl
theorem rf_294_5 {n : Nat} : mRf (tt n) 294 5 = some 300 := rfl
theorem rf_294_6 {n : Nat} : mRf (tt n) 294 6 = some 301 := rfl
theorem rf_294_7 {n : Nat} : mRf (tt n) 294 7 = some 302 := rfl
theorem rf_294_8 {n : Nat} : mRf (tt n) 294 8 = some 303 := rfl
theorem tg_295 {n : Nat} : mTg (tt n) 295 = 0 := rfl
theorem ln_295 {n : Nat} : mLn (tt n) 295 = 6 := rfl
theorem tg_296 {n : Nat} : mTg (tt n) 296 = 0 := rfl
theorem ln_296 {n : Nat} : mLn (tt n) 296 = 6 := rfl
theorem tg_297 {n : Nat} : mTg (tt n) 297 = 0 := rfl
theorem ln_297 {n : Nat} : mLn (tt n) 297 = 6 := rfl
theorem tg_298 {n : Nat} : mTg (tt n) 298 = 0 := rfl
theorem ln_298 {n : Nat} : mLn (tt n) 298 = 6 := rfl
theorem tg_299 {n : Nat} : mTg (tt n) 299 = 0 := rfl
theorem ln_299 {n : Nat} : mLn (tt n) 299 = 6 := rfl
theorem tg_300 {n : Nat} : mTg (tt n) 300 = 0 := rfl
theorem ln_300 {n : Nat} : mLn (tt n) 300 = 6 := rfl
theorem tg_301 {n : Nat} : mTg (tt n) 301 = 0 := rfl
theorem ln_301 {n : Nat} : mLn (tt n) 301 = 6 := rfl
theorem tg_302 {n : Nat} : mTg (tt n) 302 = 0 := rfl
theorem ln_302 {n : Nat} : mLn (tt n) 302 = 6 := rfl
theorem tg_303 {n : Nat} : mTg (tt n) 303 = 0 := rfl
theorem ln_303 {n : Nat} : mLn (tt n) 303 = 6 := rfl
theorem tg_304 {n : Nat} : mTg (tt n) 304 = 4 := rfl
theorem rf_304_0 {n : Nat} : mRf (tt n) 304 0 = some 305 := rfl
theorem rf_304_1 {n : Nat} : mRf (tt n) 304 1 = some 306 := rfl
theorem rf_304_2 {n : Nat} : mRf (tt n) 304 2 = some 307 := rfl
theorem rf_304_3 {n : Nat} : mRf (tt n) 304 3 = some 308 := rfl
theorem rf_304_4 {n : Nat} : mRf (tt n) 304 4 = some 309 := rfl
theorem rf_304_5 {n : Nat} : mRf (tt n) 304 5 = some 310 := rfl
theorem rf_304_6 {n : Nat} : mRf (tt n) 304 6 = some 311 := rfl
theorem rf_304_7 {n : Nat} : mRf (tt n) 304 7 = some 312 := rfl
theorem rf_304_8 {n : Nat} : mRf (tt n) 304 8 = some 313 := rfl
theorem tg_305 {n : Nat} : mTg (tt n) 305 = 0 := rfl
theorem ln_305 {n : Nat} : mLn (tt n) 305 = 6 := rfl
theorem tg_306 {n : Nat} : mTg (tt n) 306 = 0 := rfl
theorem ln_306 {n : Nat} : mLn (tt n) 306 = 6 := rfl
theorem tg_307 {n : Nat} : mTg (tt n) 307 = 0 := rfl
theorem ln_307 {n : Nat} : mLn (tt n) 307 = 6 := rfl
theorem tg_308 {n : Nat} : mTg (tt n) 308 = 0 := rfl
theorem ln_308 {n : Nat} : mLn (tt n) 308 = 6 := rfl
theorem tg_309 {n : Nat} : mTg (tt n) 309 = 0 := rfl
theorem ln_309 {n : Nat} : mLn (tt n) 309 = 6 := rfl
theorem tg_310 {n : Nat} : mTg (tt n) 310 = 0 := rfl
theorem ln_310 {n : Nat} : mLn (tt n) 310 = 6 := rfl
theorem tg_311 {n : Nat} : mTg (tt n) 311 = 0 := rfl
theorem ln_311 {n : Nat} : mLn (tt n) 311 = 6 := rfl
theorem tg_312 {n : Nat} : mTg (tt n) 312 = 0 := rfl
theorem ln_312 {n : Nat} : mLn (tt n) 312 = 6 := rfl
theorem tg_313 {n : Nat} : mTg (tt n) 313 = 0 := rfl
theorem ln_313 {n : Nat} : mLn (tt n) 313 = 6 := rfl
theorem tg_314 {n : Nat} : mTg (tt n) 314 = 11 := rfl
theorem rf_314_0 {n : Nat} : mRf (tt n) 314 0 = some 315 := rfl
theorem tg_315 {n : Nat} : mTg (tt n) 315 = 4 := rfl
theorem rf_315_0 {n : Nat} : mRf (tt n) 315 0 = some 316 := rfl
theorem rf_315_1 {n : Nat} : mRf (tt n) 315 1 = some 317 := rfl
theorem rf_315_2 {n : Nat} : mRf (tt n) 315 2 = some 318 := rfl
theorem rf_315_3 {n : Nat} : mRf (tt n) 315 3 = some 319 := rfl
theorem rf_315_4 {n : Nat} : mRf (tt n) 315 4 = some 320 := rfl
theorem rf_315_5 {n : Nat} : mRf (tt n) 315 5 = some 321 := rfl
theorem rf_315_6 {n : Nat} : mRf (tt n) 315 6 = some 322 := rfl
theorem rf_315_7 {n : Nat} : mRf (tt n) 315 7 = some 323 := rfl
theorem rf_315_8 {n : Nat} : mRf (tt n) 315 8 = some 324 := rfl
theorem tg_316 {n : Nat} : mTg (tt n) 316 = 0 := rfl
theorem ln_316 {n : Nat} : mLn (tt n) 316 = 6 := rfl
theorem tg_317 {n : Nat} : mTg (tt n) 317 = 0 := rfl
theorem ln_317 {n : Nat} : mLn (tt n) 317 = 6 := rfl
theorem tg_318 {n : Nat} : mTg (tt n) 318 = 0 := rfl
theorem ln_318 {n : Nat} : mLn (tt n) 318 = 6 := rfl
theorem tg_319 {n : Nat} : mTg (tt n) 319 = 0 := rfl
theorem ln_319 {n : Nat} : mLn (tt n) 319 = 6 := rfl
theorem tg_320 {n : Nat} : mTg (tt n) 320 = 0 := rfl
theorem ln_320 {n : Nat} : mLn (tt n) 320 = 6 := rfl
theorem tg_321 {n : Nat} : mTg (tt n) 321 = 0 := rfl
theorem ln_321 {n : Nat} : mLn (tt n) 321 = 6 := rfl
theorem tg_322 {n : Nat} : mTg (tt n) 322 = 0 := rfl
theorem ln_322 {n : Nat} : mLn (tt n) 322 = 6 := rfl
theorem tg_323 {n : Nat} : mTg (tt n) 323 = 0 := rfl
theorem ln_323 {n : Nat} : mLn (tt n) 323 = 6 := rfl
theorem tg_324 {n : Nat} : mTg (tt n) 324 = 0 := rfl
theorem ln_324 {n : Nat} : mLn (tt n) 324 = 6 := rfl
theorem tg_325 {n : Nat} : mTg (tt n) 325 = 9 := rfl
theorem tg_326 {n : Nat} : mTg (tt n) 326 = 9 := rfl
theorem tg_327 {n : Nat} : mTg (tt n) 327 = 0 := rfl
theorem ln_327 {n : Nat} : mLn (tt n) 327 = 6 := rfl
theorem tg_328 {n : Nat} : mTg (tt n) 328 = 0 := rfl
theorem ln_328 {n : Nat} : mLn (tt n) 328 = 6 := rfl
theorem tg_329 {n : Nat} : mTg (tt n) 329 = 14 := rfl
theorem rf_329_0 {n : Nat} : mRf (tt n) 329 0 = some 330 := rfl
theorem rf_329_1 {n : Nat} : mRf (tt n) 329 1 = some 331 := rfl
theorem rf_329_4 {n : Nat} : mRf (tt n) 329 4 = some 332 := rfl
theorem rf_329_5 {n : Nat} : mRf (tt n) 329 5 = some 333 := rfl
theorem rf_329_6 {n : Nat} : mRf (tt n) 329 6 = some 334 := rfl
theorem rf_329_7 {n : Nat} : mRf (tt n) 329 7 = some 335 := rfl
theorem rf_329_8 {n : Nat} : mRf (tt n) 329 8 = some 336 := rfl
theorem rf_329_9 {n : Nat} : mRf (tt n) 329 9 = some 337 := rfl
theorem rf_329_12 {n : Nat} : mRf (tt n) 329 12 = some 338 := rfl
theorem rf_329_13 {n : Nat} : mRf (tt n) 329 13 = some 339 := rfl
theorem tg_330 {n : Nat} : mTg (tt n) 330 = 0 := rfl
theorem ln_330 {n : Nat} : mLn (tt n) 330 = 478 := rfl
theorem tg_331 {n : Nat} : mTg (tt n) 331 = 0 := rfl
theorem ln_331 {n : Nat} : mLn (tt n) 331 = 2390 := rfl
theorem tg_332 {n : Nat} : mTg (tt n) 332 = 0 := rfl
theorem ln_332 {n : Nat} : mLn (tt n) 332 = 64 := rfl
theorem tg_333 {n : Nat} : mTg (tt n) 333 = 1 := rfl
theorem ln_333 {n : Nat} : mLn (tt n) 333 = 6 := rfl
theorem tg_334 {n : Nat} : mTg (tt n) 334 = 1 := rfl
theorem ln_334 {n : Nat} : mLn (tt n) 334 = 6 := rfl
theorem tg_335 {n : Nat} : mTg (tt n) 335 = 1 := rfl
theorem ln_335 {n : Nat} : mLn (tt n) 335 = 6 := rfl
theorem tg_336 {n : Nat} : mTg (tt n) 336 = 1 := rfl
theorem ln_336 {n : Nat} : mLn (tt n) 336 = 6 := rfl
theorem tg_337 {n : Nat} : mTg (tt n) 337 = 0 := rfl
theorem ln_337 {n : Nat} : mLn (tt n) 337 = 6 := rfl
theorem tg_338 {n : Nat} : mTg (tt n) 338 = 0 := rfl
theorem ln_338 {n : Nat} : mLn (tt n) 338 = 6 := rfl
theorem tg_339 {n : Nat} : mTg (tt n) 339 = 0 := rfl
theorem ln_339 {n : Nat} : mLn (tt n) 339 = 6 := rfl
/-- a puppet's shape at base a -/
def sArr (t : mTT) (b n : Nat) : Prop := mTg t b = 0 ∧ mLn t b = n
def sPup (t : mTT) (a : Nat) : Prop := 2 ≤ a ∧ (mTg t a = 10 ∧ mRf t a 0 = some (a + 1) ∧ mRf t a 1 = some (a + 6) ∧ mRf t a 2 = some (a + 9) ∧ mRf t a 3 = some (a + 12) ∧ mRf t a 4 = some (a + 19)) ∧ (mTg t (a + 1) = 8 ∧ mRf t (a + 1) 0 = some (a + 2) ∧ mRf t (a + 1) 1 = some (a + 3) ∧ mRf t (a + 1) 2 = some (a + 4) ∧ mRf t (a + 1) 3 = some (a + 5)) ∧ (mTg t (a + 6) = 12 ∧ mRf t (a + 6) 0 = some (a + 7) ∧ mRf t (a + 6) 1 = some (a + 8)) ∧ (mTg t (a + 9) = 3 ∧ mRf t (a + 9) 0 = some (a + 10) ∧ mRf t (a + 9) 1 = some (a + 11)) ∧ (mTg t (a + 12) = 7 ∧ mRf t (a + 12) 0 = some (a + 13) ∧ mRf t (a + 12) 1 = some (a + 14) ∧ mRf t (a + 12) 2 = some (a + 15) ∧ mRf t (a + 12) 3 = some (a + 16) ∧ mRf t (a + 12) 4 = some (a + 17) ∧ mRf t (a + 12) 5 = some (a + 18)) ∧ (mTg t (a + 19) = 5 ∧ mRf t (a + 19) 0 = some (a + 20) ∧ mRf t (a + 19) 1 = some (a + 21) ∧ mRf t (a + 19) 2 = some (a + 22) ∧ mRf t (a + 19) 3 = some (a + 23)) ∧ (sArr t (a + 2) 6 ∧ sArr t (a + 3) 6 ∧ sArr t (a + 4) 6 ∧ sArr t (a + 5) 6 ∧ sArr t (a + 7) 6 ∧ sArr t (a + 8) 6 ∧ sArr t (a + 10) 6 ∧ sArr t (a + 11) 6 ∧ sArr t (a + 13) 12 ∧ sArr t (a + 14) 12 ∧ sArr t (a + 15) 12 ∧ sArr t (a + 16) 12 ∧ sArr t (a + 17) 12 ∧ sArr t (a + 18) 12 ∧ sArr t (a + 20) 12 ∧ sArr t (a + 21) 12 ∧ sArr t (a + 22) 12 ∧ sArr t (a + 23) 72)
theorem sp_3 {n : Nat} : sPup (tt n) 3 := ⟨by decide, ⟨rfl, rfl, rfl, rfl, rfl, rfl⟩, ⟨rfl, rfl, rfl, rfl, rfl⟩, ⟨rfl, rfl, rfl⟩, ⟨rfl, rfl, rfl⟩, ⟨rfl, rfl, rfl, rfl, rfl, rfl, rfl⟩, ⟨rfl, rfl, rfl, rfl, rfl⟩, ⟨rfl, rfl⟩, ⟨rfl, rfl⟩, ⟨rfl, rfl⟩, ⟨rfl, rfl⟩, ⟨rfl, rfl⟩, ⟨rfl, rfl⟩, ⟨rfl, rfl⟩, ⟨rfl, rfl⟩, ⟨rfl, rfl⟩, ⟨rfl, rfl⟩, ⟨rfl, rfl⟩, ⟨rfl, rfl⟩, ⟨rfl, rfl⟩, ⟨rfl, rfl⟩, ⟨rfl, rfl⟩, ⟨rfl, rfl⟩, ⟨rfl, rfl⟩, ⟨rfl, rfl⟩⟩
theorem sp_27 {n : Nat} : sPup (tt n) 27 := ⟨by decide, ⟨rfl, rfl, rfl, rfl, rfl, rfl⟩, ⟨rfl, rfl, rfl, rfl, rfl⟩, ⟨rfl, rfl, rfl⟩, ⟨rfl, rfl, rfl⟩, ⟨rfl, rfl, rfl, rfl, rfl, rfl, rfl⟩, ⟨rfl, rfl, rfl, rfl, rfl⟩, ⟨rfl, rfl⟩, ⟨rfl, rfl⟩, ⟨rfl, rfl⟩, ⟨rfl, rfl⟩, ⟨rfl, rfl⟩, ⟨rfl, rfl⟩, ⟨rfl, rfl⟩, ⟨rfl, rfl⟩, ⟨rfl, rfl⟩, ⟨rfl, rfl⟩, ⟨rfl, rfl⟩, ⟨rfl, rfl⟩, ⟨rfl, rfl⟩, ⟨rfl, rfl⟩, ⟨rfl, rfl⟩, ⟨rfl, rfl⟩, ⟨rfl, rfl⟩, ⟨rfl, rfl⟩⟩
theorem sp_54 {n : Nat} : sPup (tt n) 54 := ⟨by decide, ⟨rfl, rfl, rfl, rfl, rfl, rfl⟩, ⟨rfl, rfl, rfl, rfl, rfl⟩, ⟨rfl, rfl, rfl⟩, ⟨rfl, rfl, rfl⟩, ⟨rfl, rfl, rfl, rfl, rfl, rfl, rfl⟩, ⟨rfl, rfl, rfl, rfl, rfl⟩, ⟨rfl, rfl⟩, ⟨rfl, rfl⟩, ⟨rfl, rfl⟩, ⟨rfl, rfl⟩, ⟨rfl, rfl⟩, ⟨rfl, rfl⟩, ⟨rfl, rfl⟩, ⟨rfl, rfl⟩, ⟨rfl, rfl⟩, ⟨rfl, rfl⟩, ⟨rfl, rfl⟩, ⟨rfl, rfl⟩, ⟨rfl, rfl⟩, ⟨rfl, rfl⟩, ⟨rfl, rfl⟩, ⟨rfl, rfl⟩, ⟨rfl, rfl⟩, ⟨rfl, rfl⟩⟩
theorem sp_78 {n : Nat} : sPup (tt n) 78 := ⟨by decide, ⟨rfl, rfl, rfl, rfl, rfl, rfl⟩, ⟨rfl, rfl, rfl, rfl, rfl⟩, ⟨rfl, rfl, rfl⟩, ⟨rfl, rfl, rfl⟩, ⟨rfl, rfl, rfl, rfl, rfl, rfl, rfl⟩, ⟨rfl, rfl, rfl, rfl, rfl⟩, ⟨rfl, rfl⟩, ⟨rfl, rfl⟩, ⟨rfl, rfl⟩, ⟨rfl, rfl⟩, ⟨rfl, rfl⟩, ⟨rfl, rfl⟩, ⟨rfl, rfl⟩, ⟨rfl, rfl⟩, ⟨rfl, rfl⟩, ⟨rfl, rfl⟩, ⟨rfl, rfl⟩, ⟨rfl, rfl⟩, ⟨rfl, rfl⟩, ⟨rfl, rfl⟩, ⟨rfl, rfl⟩, ⟨rfl, rfl⟩, ⟨rfl, rfl⟩, ⟨rfl, rfl⟩⟩
theorem sp_102 {n : Nat} : sPup (tt n) 102 := ⟨by decide, ⟨rfl, rfl, rfl, rfl, rfl, rfl⟩, ⟨rfl, rfl, rfl, rfl, rfl⟩, ⟨rfl, rfl, rfl⟩, ⟨rfl, rfl, rfl⟩, ⟨rfl, rfl, rfl, rfl, rfl, rfl, rfl⟩, ⟨rfl, rfl, rfl, rfl, rfl⟩, ⟨rfl, rfl⟩, ⟨rfl, rfl⟩, ⟨rfl, rfl⟩, ⟨rfl, rfl⟩, ⟨rfl, rfl⟩, ⟨rfl, rfl⟩, ⟨rfl, rfl⟩, ⟨rfl, rfl⟩, ⟨rfl, rfl⟩, ⟨rfl, rfl⟩, ⟨rfl, rfl⟩, ⟨rfl, rfl⟩, ⟨rfl, rfl⟩, ⟨rfl, rfl⟩, ⟨rfl, rfl⟩, ⟨rfl, rfl⟩, ⟨rfl, rfl⟩, ⟨rfl, rfl⟩⟩
theorem sp_126 {n : Nat} : sPup (tt n) 126 := ⟨by decide, ⟨rfl, rfl, rfl, rfl, rfl, rfl⟩, ⟨rfl, rfl, rfl, rfl, rfl⟩, ⟨rfl, rfl, rfl⟩, ⟨rfl, rfl, rfl⟩, ⟨rfl, rfl, rfl, rfl, rfl, rfl, rfl⟩, ⟨rfl, rfl, rfl, rfl, rfl⟩, ⟨rfl, rfl⟩, ⟨rfl, rfl⟩, ⟨rfl, rfl⟩, ⟨rfl, rfl⟩, ⟨rfl, rfl⟩, ⟨rfl, rfl⟩, ⟨rfl, rfl⟩, ⟨rfl, rfl⟩, ⟨rfl, rfl⟩, ⟨rfl, rfl⟩, ⟨rfl, rfl⟩, ⟨rfl, rfl⟩, ⟨rfl, rfl⟩, ⟨rfl, rfl⟩, ⟨rfl, rfl⟩, ⟨rfl, rfl⟩, ⟨rfl, rfl⟩, ⟨rfl, rfl⟩⟩
theorem sp_150 {n : Nat} : sPup (tt n) 150 := ⟨by decide, ⟨rfl, rfl, rfl, rfl, rfl, rfl⟩, ⟨rfl, rfl, rfl, rfl, rfl⟩, ⟨rfl, rfl, rfl⟩, ⟨rfl, rfl, rfl⟩, ⟨rfl, rfl, rfl, rfl, rfl, rfl, rfl⟩, ⟨rfl, rfl, rfl, rfl, rfl⟩, ⟨rfl, rfl⟩, ⟨rfl, rfl⟩, ⟨rfl, rfl⟩, ⟨rfl, rfl⟩, ⟨rfl, rfl⟩, ⟨rfl, rfl⟩, ⟨rfl, rfl⟩, ⟨rfl, rfl⟩, ⟨rfl, rfl⟩, ⟨rfl, rfl⟩, ⟨rfl, rfl⟩, ⟨rfl, rfl⟩, ⟨rfl, rfl⟩, ⟨rfl, rfl⟩, ⟨rfl, rfl⟩, ⟨rfl, rfl⟩, ⟨rfl, rfl⟩, ⟨rfl, rfl⟩⟩
theorem sp_174 {n : Nat} : sPup (tt n) 174 := ⟨by decide, ⟨rfl, rfl, rfl, rfl, rfl, rfl⟩, ⟨rfl, rfl, rfl, rfl, rfl⟩, ⟨rfl, rfl, rfl⟩, ⟨rfl, rfl, rfl⟩, ⟨rfl, rfl, rfl, rfl, rfl, rfl, rfl⟩, ⟨rfl, rfl, rfl, rfl, rfl⟩, ⟨rfl, rfl⟩, ⟨rfl, rfl⟩, ⟨rfl, rfl⟩, ⟨rfl, rfl⟩, ⟨rfl, rfl⟩, ⟨rfl, rfl⟩, ⟨rfl, rfl⟩, ⟨rfl, rfl⟩, ⟨rfl, rfl⟩, ⟨rfl, rfl⟩, ⟨rfl, rfl⟩, ⟨rfl, rfl⟩, ⟨rfl, rfl⟩, ⟨rfl, rfl⟩, ⟨rfl, rfl⟩, ⟨rfl, rfl⟩, ⟨rfl, rfl⟩, ⟨rfl, rfl⟩⟩
theorem sp_198 {n : Nat} : sPup (tt n) 198 := ⟨by decide, ⟨rfl, rfl, rfl, rfl, rfl, rfl⟩, ⟨rfl, rfl, rfl, rfl, rfl⟩, ⟨rfl, rfl, rfl⟩, ⟨rfl, rfl, rfl⟩, ⟨rfl, rfl, rfl, rfl, rfl, rfl, rfl⟩, ⟨rfl, rfl, rfl, rfl, rfl⟩, ⟨rfl, rfl⟩, ⟨rfl, rfl⟩, ⟨rfl, rfl⟩, ⟨rfl, rfl⟩, ⟨rfl, rfl⟩, ⟨rfl, rfl⟩, ⟨rfl, rfl⟩, ⟨rfl, rfl⟩, ⟨rfl, rfl⟩, ⟨rfl, rfl⟩, ⟨rfl, rfl⟩, ⟨rfl, rfl⟩, ⟨rfl, rfl⟩, ⟨rfl, rfl⟩, ⟨rfl, rfl⟩, ⟨rfl, rfl⟩, ⟨rfl, rfl⟩, ⟨rfl, rfl⟩⟩
theorem sp_222 {n : Nat} : sPup (tt n) 222 := ⟨by decide, ⟨rfl, rfl, rfl, rfl, rfl, rfl⟩, ⟨rfl, rfl, rfl, rfl, rfl⟩, ⟨rfl, rfl, rfl⟩, ⟨rfl, rfl, rfl⟩, ⟨rfl, rfl, rfl, rfl, rfl, rfl, rfl⟩, ⟨rfl, rfl, rfl, rfl, rfl⟩, ⟨rfl, rfl⟩, ⟨rfl, rfl⟩, ⟨rfl, rfl⟩, ⟨rfl, rfl⟩, ⟨rfl, rfl⟩, ⟨rfl, rfl⟩, ⟨rfl, rfl⟩, ⟨rfl, rfl⟩, ⟨rfl, rfl⟩, ⟨rfl, rfl⟩, ⟨rfl, rfl⟩, ⟨rfl, rfl⟩, ⟨rfl, rfl⟩, ⟨rfl, rfl⟩, ⟨rfl, rfl⟩, ⟨rfl, rfl⟩, ⟨rfl, rfl⟩, ⟨rfl, rfl⟩⟩
theorem sp_246 {n : Nat} : sPup (tt n) 246 := ⟨by decide, ⟨rfl, rfl, rfl, rfl, rfl, rfl⟩, ⟨rfl, rfl, rfl, rfl, rfl⟩, ⟨rfl, rfl, rfl⟩, ⟨rfl, rfl, rfl⟩, ⟨rfl, rfl, rfl, rfl, rfl, rfl, rfl⟩, ⟨rfl, rfl, rfl, rfl, rfl⟩, ⟨rfl, rfl⟩, ⟨rfl, rfl⟩, ⟨rfl, rfl⟩, ⟨rfl, rfl⟩, ⟨rfl, rfl⟩, ⟨rfl, rfl⟩, ⟨rfl, rfl⟩, ⟨rfl, rfl⟩, ⟨rfl, rfl⟩, ⟨rfl, rfl⟩, ⟨rfl, rfl⟩, ⟨rfl, rfl⟩, ⟨rfl, rfl⟩, ⟨rfl, rfl⟩, ⟨rfl, rfl⟩, ⟨rfl, rfl⟩, ⟨rfl, rfl⟩, ⟨rfl, rfl⟩⟩
theorem sp_270 {n : Nat} : sPup (tt n) 270 := ⟨by decide, ⟨rfl, rfl, rfl, rfl, rfl, rfl⟩, ⟨rfl, rfl, rfl, rfl, rfl⟩, ⟨rfl, rfl, rfl⟩, ⟨rfl, rfl, rfl⟩, ⟨rfl, rfl, rfl, rfl, rfl, rfl, rfl⟩, ⟨rfl, rfl, rfl, rfl, rfl⟩, ⟨rfl, rfl⟩, ⟨rfl, rfl⟩, ⟨rfl, rfl⟩, ⟨rfl, rfl⟩, ⟨rfl, rfl⟩, ⟨rfl, rfl⟩, ⟨rfl, rfl⟩, ⟨rfl, rfl⟩, ⟨rfl, rfl⟩, ⟨rfl, rfl⟩, ⟨rfl, rfl⟩, ⟨rfl, rfl⟩, ⟨rfl, rfl⟩, ⟨rfl, rfl⟩, ⟨rfl, rfl⟩, ⟨rfl, rfl⟩, ⟨rfl, rfl⟩, ⟨rfl, rfl⟩⟩
