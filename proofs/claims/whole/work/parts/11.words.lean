theorem mF {α : Type} {P : α → Prop} {a : α} {l : List α} (h : P a) (hl : ∀ q ∈ l, P q) : ∀ q ∈ a :: l, P q := List.forall_mem_cons.mpr ⟨h, hl⟩
theorem mF0 {α : Type} {P : α → Prop} : ∀ q ∈ ([] : List α), P q := fun _ h => absurd h List.not_mem_nil
theorem mFA {α : Type} {P : α → Prop} {l l2 : List α} (h : ∀ q ∈ l, P q) (hl : ∀ q ∈ l2, P q) : ∀ q ∈ l ++ l2, P q := List.forall_mem_append.mpr ⟨h, hl⟩
theorem wd_153 : Cond.methodLink RX0 3 objectInit ∈ mGood := mGood_in (List.mem_of_getElem? (i := 153) (by decide +kernel)) (by decide +kernel)
theorem wd_70 : Cond.instanceMethod objectInit ∈ mGood := mGood_in (List.mem_of_getElem? (i := 70) (by decide +kernel)) (by decide +kernel)
theorem wd_71 : Cond.code objectInit ⟨#[0xb1]⟩ 1 none ∈ mGood := mGood_in (List.mem_of_getElem? (i := 71) (by decide +kernel)) (by decide +kernel)
theorem wd_126 : Cond.arrayClass .int ∈ mGood := mGood_in (List.mem_of_getElem? (i := 126) (by decide +kernel)) (by decide +kernel)
theorem wd_154 : Cond.fieldLink RX0 9 "PuppetStage$Cross" "barA" "[I" ∈ mGood := mGood_in (List.mem_of_getElem? (i := 154) (by decide +kernel)) (by decide +kernel)
theorem wd_157 : Cond.fieldLink RX0 15 "PuppetStage$Cross" "barB" "[I" ∈ mGood := mGood_in (List.mem_of_getElem? (i := 157) (by decide +kernel)) (by decide +kernel)
theorem wd_160 : Cond.fieldLink RX0 18 "PuppetStage$Cross" "x" "I" ∈ mGood := mGood_in (List.mem_of_getElem? (i := 160) (by decide +kernel)) (by decide +kernel)
theorem wd_163 : Cond.fieldLink RX0 22 "PuppetStage$Cross" "y" "I" ∈ mGood := mGood_in (List.mem_of_getElem? (i := 163) (by decide +kernel)) (by decide +kernel)
theorem wd_166 : Cond.fieldLink RX0 25 "PuppetStage$Cross" "tilt" "I" ∈ mGood := mGood_in (List.mem_of_getElem? (i := 166) (by decide +kernel)) (by decide +kernel)
theorem wd_53 : Cond.initialized RX0 ∈ mGood := mGood_in (List.mem_of_getElem? (i := 53) (by decide +kernel)) (by decide +kernel)
theorem wd_152 : Cond.code yX0_init cX0_init 1 none ∈ mGood := mGood_in (List.mem_of_getElem? (i := 152) (by decide +kernel)) (by decide +kernel)
theorem wd_485 : Cond.code yX0_put cX0_put 4 none ∈ mGood := mGood_in (List.mem_of_getElem? (i := 485) (by decide +kernel)) (by decide +kernel)
theorem wd_466 : Cond.methodLink RX10 333 Lib.Math.min.name ∈ mGood := mGood_in (List.mem_of_getElem? (i := 466) (by decide +kernel)) (by decide +kernel)
theorem wd_467 : Cond.static Lib.Math.min.name ∈ mGood := mGood_in (List.mem_of_getElem? (i := 467) (by decide +kernel)) (by decide +kernel)
theorem wd_61 : Cond.initialized RJ9 ∈ mGood := mGood_in (List.mem_of_getElem? (i := 61) (by decide +kernel)) (by decide +kernel)
theorem wd_468 : Cond.code Lib.Math.min.name Lib.Math.min.code 2 (some .int) ∈ mGood := mGood_in (List.mem_of_getElem? (i := 468) (by decide +kernel)) (by decide +kernel)
theorem wd_469 : Cond.methodLink RX10 393 arraycopyName ∈ mGood := mGood_in (List.mem_of_getElem? (i := 469) (by decide +kernel)) (by decide +kernel)
theorem wd_471 : Cond.native arraycopyName ∈ mGood := mGood_in (List.mem_of_getElem? (i := 471) (by decide +kernel)) (by decide +kernel)
theorem wd_470 : Cond.static arraycopyName ∈ mGood := mGood_in (List.mem_of_getElem? (i := 470) (by decide +kernel)) (by decide +kernel)
theorem wd_62 : Cond.initialized RJ10 ∈ mGood := mGood_in (List.mem_of_getElem? (i := 62) (by decide +kernel)) (by decide +kernel)
theorem wd_49 : Cond.initialized RX10 ∈ mGood := mGood_in (List.mem_of_getElem? (i := 49) (by decide +kernel)) (by decide +kernel)
theorem wd_465 : Cond.code yX10_copyRow cX10_copyRow 2 none ∈ mGood := mGood_in (List.mem_of_getElem? (i := 465) (by decide +kernel)) (by decide +kernel)
theorem wd_481 : Cond.methodLinkNest RX0 28 yX10_copyRow RX10 ∈ mNest := List.mem_filter.mpr ⟨List.mem_of_getElem? (i := 481) (by decide +kernel), rfl⟩
theorem wd_464 : Cond.static yX10_copyRow ∈ mGood := mGood_in (List.mem_of_getElem? (i := 464) (by decide +kernel)) (by decide +kernel)
theorem wd_482 : Cond.methodLink RX0 32 yX0_put ∈ mGood := mGood_in (List.mem_of_getElem? (i := 482) (by decide +kernel)) (by decide +kernel)
theorem wd_483 : Cond.instanceMethod yX0_put ∈ mGood := mGood_in (List.mem_of_getElem? (i := 483) (by decide +kernel)) (by decide +kernel)
theorem wd_484 : Cond.selects RX0 yX0_put yX0_put ∈ mGood := mGood_in (List.mem_of_getElem? (i := 484) (by decide +kernel)) (by decide +kernel)
theorem wd_480 : Cond.code yX0_become cX0_become 2 none ∈ mGood := mGood_in (List.mem_of_getElem? (i := 480) (by decide +kernel)) (by decide +kernel)
theorem wd_875 : Cond.code yX10_turnSigns cX10_turnSigns 3 none ∈ mGood := mGood_in (List.mem_of_getElem? (i := 875) (by decide +kernel)) (by decide +kernel)
theorem wd_884 : Cond.methodLinkNest RX0 36 yX10_turnSigns RX10 ∈ mNest := List.mem_filter.mpr ⟨List.mem_of_getElem? (i := 884) (by decide +kernel), rfl⟩
theorem wd_874 : Cond.static yX10_turnSigns ∈ mGood := mGood_in (List.mem_of_getElem? (i := 874) (by decide +kernel)) (by decide +kernel)
theorem wd_883 : Cond.code yX0_turnOver cX0_turnOver 1 none ∈ mGood := mGood_in (List.mem_of_getElem? (i := 883) (by decide +kernel)) (by decide +kernel)
theorem wd_315 : Cond.methodLink RX1 3 objectInit ∈ mGood := mGood_in (List.mem_of_getElem? (i := 315) (by decide +kernel)) (by decide +kernel)
theorem wd_317 : Cond.fieldLink RX1 9 "PuppetStage$Figure" "direction" "[I" ∈ mGood := mGood_in (List.mem_of_getElem? (i := 317) (by decide +kernel)) (by decide +kernel)
theorem wd_319 : Cond.fieldLink RX1 15 "PuppetStage$Figure" "stepX" "[I" ∈ mGood := mGood_in (List.mem_of_getElem? (i := 319) (by decide +kernel)) (by decide +kernel)
theorem wd_320 : Cond.fieldLink RX1 18 "PuppetStage$Figure" "stepY" "[I" ∈ mGood := mGood_in (List.mem_of_getElem? (i := 320) (by decide +kernel)) (by decide +kernel)
theorem wd_321 : Cond.fieldLink RX1 21 "PuppetStage$Figure" "startX" "[I" ∈ mGood := mGood_in (List.mem_of_getElem? (i := 321) (by decide +kernel)) (by decide +kernel)
theorem wd_322 : Cond.fieldLink RX1 24 "PuppetStage$Figure" "startY" "[I" ∈ mGood := mGood_in (List.mem_of_getElem? (i := 322) (by decide +kernel)) (by decide +kernel)
theorem wd_323 : Cond.fieldLink RX1 27 "PuppetStage$Figure" "endX" "[I" ∈ mGood := mGood_in (List.mem_of_getElem? (i := 323) (by decide +kernel)) (by decide +kernel)
theorem wd_325 : Cond.fieldLink RX1 30 "PuppetStage$Figure" "endY" "[I" ∈ mGood := mGood_in (List.mem_of_getElem? (i := 325) (by decide +kernel)) (by decide +kernel)
theorem wd_327 : Cond.fieldLink RX1 33 "PuppetStage$Figure" "barX" "[I" ∈ mGood := mGood_in (List.mem_of_getElem? (i := 327) (by decide +kernel)) (by decide +kernel)
theorem wd_329 : Cond.fieldLink RX1 36 "PuppetStage$Figure" "barY" "[I" ∈ mGood := mGood_in (List.mem_of_getElem? (i := 329) (by decide +kernel)) (by decide +kernel)
theorem wd_316 : Cond.constantLong RX1 39 (1000000000000000000) ∈ mGood := mGood_in (List.mem_of_getElem? (i := 316) (by decide +kernel)) (by decide +kernel)
theorem wd_331 : Cond.fieldLink RX1 41 "PuppetStage$Figure" "excess" "J" ∈ mGood := mGood_in (List.mem_of_getElem? (i := 331) (by decide +kernel)) (by decide +kernel)
theorem wd_332 : Cond.fieldLink RX1 45 "PuppetStage$Figure" "depth" "J" ∈ mGood := mGood_in (List.mem_of_getElem? (i := 332) (by decide +kernel)) (by decide +kernel)
theorem wd_57 : Cond.initialized RX1 ∈ mGood := mGood_in (List.mem_of_getElem? (i := 57) (by decide +kernel)) (by decide +kernel)
theorem wd_314 : Cond.code yX1_init cX1_init 1 none ∈ mGood := mGood_in (List.mem_of_getElem? (i := 314) (by decide +kernel)) (by decide +kernel)
theorem wd_586 : Cond.fieldLink RX10 380 "PuppetStage" "SINES" "[I" ∈ mGood := mGood_in (List.mem_of_getElem? (i := 586) (by decide +kernel)) (by decide +kernel)
theorem wd_585 : Cond.code yX10_sine cX10_sine 1 (some .int) ∈ mGood := mGood_in (List.mem_of_getElem? (i := 585) (by decide +kernel)) (by decide +kernel)
theorem wd_590 : Cond.code yX10_cosine cX10_cosine 1 (some .int) ∈ mGood := mGood_in (List.mem_of_getElem? (i := 590) (by decide +kernel)) (by decide +kernel)
theorem wd_167 : Cond.fieldLink RX1 66 "PuppetStage$Cross" "tilt" "I" ∈ mGood := mGood_in (List.mem_of_getElem? (i := 167) (by decide +kernel)) (by decide +kernel)
theorem wd_161 : Cond.fieldLink RX1 72 "PuppetStage$Cross" "x" "I" ∈ mGood := mGood_in (List.mem_of_getElem? (i := 161) (by decide +kernel)) (by decide +kernel)
theorem wd_155 : Cond.fieldLink RX1 75 "PuppetStage$Cross" "barA" "[I" ∈ mGood := mGood_in (List.mem_of_getElem? (i := 155) (by decide +kernel)) (by decide +kernel)
theorem wd_583 : Cond.methodLinkNest RX1 78 yX10_sine RX10 ∈ mNest := List.mem_filter.mpr ⟨List.mem_of_getElem? (i := 583) (by decide +kernel), rfl⟩
theorem wd_584 : Cond.static yX10_sine ∈ mGood := mGood_in (List.mem_of_getElem? (i := 584) (by decide +kernel)) (by decide +kernel)
theorem wd_158 : Cond.fieldLink RX1 82 "PuppetStage$Cross" "barB" "[I" ∈ mGood := mGood_in (List.mem_of_getElem? (i := 158) (by decide +kernel)) (by decide +kernel)
theorem wd_164 : Cond.fieldLink RX1 85 "PuppetStage$Cross" "y" "I" ∈ mGood := mGood_in (List.mem_of_getElem? (i := 164) (by decide +kernel)) (by decide +kernel)
theorem wd_588 : Cond.methodLinkNest RX1 88 yX10_cosine RX10 ∈ mNest := List.mem_filter.mpr ⟨List.mem_of_getElem? (i := 588) (by decide +kernel), rfl⟩
theorem wd_589 : Cond.static yX10_cosine ∈ mGood := mGood_in (List.mem_of_getElem? (i := 589) (by decide +kernel)) (by decide +kernel)
theorem wd_614 : Cond.code yX1_layBars cX1_layBars 5 none ∈ mGood := mGood_in (List.mem_of_getElem? (i := 614) (by decide +kernel)) (by decide +kernel)
theorem wd_594 : Cond.code yX1_spotX cX1_spotX 3 (some .int) ∈ mGood := mGood_in (List.mem_of_getElem? (i := 594) (by decide +kernel)) (by decide +kernel)
theorem wd_598 : Cond.code yX1_spotY cX1_spotY 3 (some .int) ∈ mGood := mGood_in (List.mem_of_getElem? (i := 598) (by decide +kernel)) (by decide +kernel)
theorem wd_104 : Cond.fieldLink RX1 91 "PuppetStage$Limbs" "count" "I" ∈ mGood := mGood_in (List.mem_of_getElem? (i := 104) (by decide +kernel)) (by decide +kernel)
theorem wd_91 : Cond.fieldLink RX1 96 "PuppetStage$Limbs" "parent" "[I" ∈ mGood := mGood_in (List.mem_of_getElem? (i := 91) (by decide +kernel)) (by decide +kernel)
theorem wd_97 : Cond.fieldLink RX1 99 "PuppetStage$Limbs" "bend" "[I" ∈ mGood := mGood_in (List.mem_of_getElem? (i := 97) (by decide +kernel)) (by decide +kernel)
theorem wd_107 : Cond.fieldLink RX1 102 "PuppetStage$Limbs" "pinX" "I" ∈ mGood := mGood_in (List.mem_of_getElem? (i := 107) (by decide +kernel)) (by decide +kernel)
theorem wd_110 : Cond.fieldLink RX1 105 "PuppetStage$Limbs" "pinY" "I" ∈ mGood := mGood_in (List.mem_of_getElem? (i := 110) (by decide +kernel)) (by decide +kernel)
theorem wd_85 : Cond.fieldLink RX1 108 "PuppetStage$Limbs" "length" "[I" ∈ mGood := mGood_in (List.mem_of_getElem? (i := 85) (by decide +kernel)) (by decide +kernel)
theorem wd_591 : Cond.methodLink RX1 111 yX1_spotX ∈ mGood := mGood_in (List.mem_of_getElem? (i := 591) (by decide +kernel)) (by decide +kernel)
theorem wd_592 : Cond.instanceMethod yX1_spotX ∈ mGood := mGood_in (List.mem_of_getElem? (i := 592) (by decide +kernel)) (by decide +kernel)
theorem wd_593 : Cond.selects RX1 yX1_spotX yX1_spotX ∈ mGood := mGood_in (List.mem_of_getElem? (i := 593) (by decide +kernel)) (by decide +kernel)
theorem wd_595 : Cond.methodLink RX1 115 yX1_spotY ∈ mGood := mGood_in (List.mem_of_getElem? (i := 595) (by decide +kernel)) (by decide +kernel)
theorem wd_596 : Cond.instanceMethod yX1_spotY ∈ mGood := mGood_in (List.mem_of_getElem? (i := 596) (by decide +kernel)) (by decide +kernel)
theorem wd_597 : Cond.selects RX1 yX1_spotY yX1_spotY ∈ mGood := mGood_in (List.mem_of_getElem? (i := 597) (by decide +kernel)) (by decide +kernel)
theorem wd_582 : Cond.code yX1_layLimbs cX1_layLimbs 5 none ∈ mGood := mGood_in (List.mem_of_getElem? (i := 582) (by decide +kernel)) (by decide +kernel)
theorem wd_263 : Cond.fieldLink RX1 48 "PuppetStage$Puppet" "cross" "LPuppetStage$Cross;" ∈ mGood := mGood_in (List.mem_of_getElem? (i := 263) (by decide +kernel)) (by decide +kernel)
theorem wd_647 : Cond.methodLink RX1 54 yX1_layBars ∈ mGood := mGood_in (List.mem_of_getElem? (i := 647) (by decide +kernel)) (by decide +kernel)
theorem wd_612 : Cond.instanceMethod yX1_layBars ∈ mGood := mGood_in (List.mem_of_getElem? (i := 612) (by decide +kernel)) (by decide +kernel)
theorem wd_613 : Cond.selects RX1 yX1_layBars yX1_layBars ∈ mGood := mGood_in (List.mem_of_getElem? (i := 613) (by decide +kernel)) (by decide +kernel)
theorem wd_256 : Cond.fieldLink RX1 58 "PuppetStage$Puppet" "limbs" "LPuppetStage$Limbs;" ∈ mGood := mGood_in (List.mem_of_getElem? (i := 256) (by decide +kernel)) (by decide +kernel)
theorem wd_648 : Cond.methodLink RX1 62 yX1_layLimbs ∈ mGood := mGood_in (List.mem_of_getElem? (i := 648) (by decide +kernel)) (by decide +kernel)
theorem wd_580 : Cond.instanceMethod yX1_layLimbs ∈ mGood := mGood_in (List.mem_of_getElem? (i := 580) (by decide +kernel)) (by decide +kernel)
theorem wd_581 : Cond.selects RX1 yX1_layLimbs yX1_layLimbs ∈ mGood := mGood_in (List.mem_of_getElem? (i := 581) (by decide +kernel)) (by decide +kernel)
theorem wd_646 : Cond.code yX1_lay cX1_lay 2 none ∈ mGood := mGood_in (List.mem_of_getElem? (i := 646) (by decide +kernel)) (by decide +kernel)
theorem wd_667 : Cond.code yX10_squareOf cX10_squareOf 4 (some .long) ∈ mGood := mGood_in (List.mem_of_getElem? (i := 667) (by decide +kernel)) (by decide +kernel)
theorem wd_656 : Cond.methodLink RX10 383 Lib.MathLoose.abs_long.x ∈ mGood := mGood_in (List.mem_of_getElem? (i := 656) (by decide +kernel)) (by decide +kernel)
theorem wd_657 : Cond.static Lib.MathLoose.abs_long.x ∈ mGood := mGood_in (List.mem_of_getElem? (i := 657) (by decide +kernel)) (by decide +kernel)
theorem wd_658 : Cond.code Lib.MathLoose.abs_long.x Lib.MathLoose.abs_long.code 2 (some .long) ∈ mGood := mGood_in (List.mem_of_getElem? (i := 658) (by decide +kernel)) (by decide +kernel)
theorem wd_659 : Cond.methodLink RX10 387 Lib.MathLoose.max_long.x ∈ mGood := mGood_in (List.mem_of_getElem? (i := 659) (by decide +kernel)) (by decide +kernel)
theorem wd_660 : Cond.static Lib.MathLoose.max_long.x ∈ mGood := mGood_in (List.mem_of_getElem? (i := 660) (by decide +kernel)) (by decide +kernel)
theorem wd_661 : Cond.code Lib.MathLoose.max_long.x Lib.MathLoose.max_long.code 4 (some .long) ∈ mGood := mGood_in (List.mem_of_getElem? (i := 661) (by decide +kernel)) (by decide +kernel)
theorem wd_662 : Cond.methodLink RX10 389 Lib.MathLoose.min_long.x ∈ mGood := mGood_in (List.mem_of_getElem? (i := 662) (by decide +kernel)) (by decide +kernel)
theorem wd_663 : Cond.static Lib.MathLoose.min_long.x ∈ mGood := mGood_in (List.mem_of_getElem? (i := 663) (by decide +kernel)) (by decide +kernel)
theorem wd_664 : Cond.code Lib.MathLoose.min_long.x Lib.MathLoose.min_long.code 4 (some .long) ∈ mGood := mGood_in (List.mem_of_getElem? (i := 664) (by decide +kernel)) (by decide +kernel)
theorem wd_665 : Cond.methodLink RX10 344 yX10_squareOf ∈ mGood := mGood_in (List.mem_of_getElem? (i := 665) (by decide +kernel)) (by decide +kernel)
theorem wd_666 : Cond.static yX10_squareOf ∈ mGood := mGood_in (List.mem_of_getElem? (i := 666) (by decide +kernel)) (by decide +kernel)
theorem wd_668 : Cond.constantLong RX10 391 (2) ∈ mGood := mGood_in (List.mem_of_getElem? (i := 668) (by decide +kernel)) (by decide +kernel)
theorem wd_655 : Cond.code yX10_distance cX10_distance 15 (some .long) ∈ mGood := mGood_in (List.mem_of_getElem? (i := 655) (by decide +kernel)) (by decide +kernel)
theorem wd_188 : Cond.fieldLink RX1 118 "PuppetStage$Holds" "kind" "[I" ∈ mGood := mGood_in (List.mem_of_getElem? (i := 188) (by decide +kernel)) (by decide +kernel)
theorem wd_191 : Cond.fieldLink RX1 123 "PuppetStage$Holds" "bar" "[I" ∈ mGood := mGood_in (List.mem_of_getElem? (i := 191) (by decide +kernel)) (by decide +kernel)
theorem wd_194 : Cond.fieldLink RX1 126 "PuppetStage$Holds" "limb" "[I" ∈ mGood := mGood_in (List.mem_of_getElem? (i := 194) (by decide +kernel)) (by decide +kernel)
theorem wd_197 : Cond.fieldLink RX1 129 "PuppetStage$Holds" "spot" "[I" ∈ mGood := mGood_in (List.mem_of_getElem? (i := 197) (by decide +kernel)) (by decide +kernel)
theorem wd_653 : Cond.methodLinkNest RX1 132 yX10_distance RX10 ∈ mNest := List.mem_filter.mpr ⟨List.mem_of_getElem? (i := 653) (by decide +kernel), rfl⟩
theorem wd_654 : Cond.static yX10_distance ∈ mGood := mGood_in (List.mem_of_getElem? (i := 654) (by decide +kernel)) (by decide +kernel)
theorem wd_652 : Cond.code yX1_far cX1_far 8 (some .long) ∈ mGood := mGood_in (List.mem_of_getElem? (i := 652) (by decide +kernel)) (by decide +kernel)
theorem wd_199 : Cond.fieldLink RX4 24 "PuppetStage$Holds" "length" "[I" ∈ mGood := mGood_in (List.mem_of_getElem? (i := 199) (by decide +kernel)) (by decide +kernel)
theorem wd_201 : Cond.fieldLink RX4 27 "PuppetStage$Holds" "taken" "[I" ∈ mGood := mGood_in (List.mem_of_getElem? (i := 201) (by decide +kernel)) (by decide +kernel)
theorem wd_54 : Cond.initialized RX4 ∈ mGood := mGood_in (List.mem_of_getElem? (i := 54) (by decide +kernel)) (by decide +kernel)
theorem wd_676 : Cond.code yX4_free cX4_free 2 (some .int) ∈ mGood := mGood_in (List.mem_of_getElem? (i := 676) (by decide +kernel)) (by decide +kernel)
theorem wd_673 : Cond.methodLink RX1 136 yX4_free ∈ mGood := mGood_in (List.mem_of_getElem? (i := 673) (by decide +kernel)) (by decide +kernel)
theorem wd_674 : Cond.instanceMethod yX4_free ∈ mGood := mGood_in (List.mem_of_getElem? (i := 674) (by decide +kernel)) (by decide +kernel)
theorem wd_675 : Cond.selects RX4 yX4_free yX4_free ∈ mGood := mGood_in (List.mem_of_getElem? (i := 675) (by decide +kernel)) (by decide +kernel)
theorem wd_677 : Cond.methodLink RX1 139 Lib.MathLoose.abs_long.x ∈ mGood := mGood_in (List.mem_of_getElem? (i := 677) (by decide +kernel)) (by decide +kernel)
theorem wd_678 : Cond.constantLong RX1 145 (1024) ∈ mGood := mGood_in (List.mem_of_getElem? (i := 678) (by decide +kernel)) (by decide +kernel)
theorem wd_679 : Cond.methodLink RX1 147 Lib.MathLoose.max_long.x ∈ mGood := mGood_in (List.mem_of_getElem? (i := 679) (by decide +kernel)) (by decide +kernel)
theorem wd_672 : Cond.code yX1_tooLong cX1_tooLong 7 (some .long) ∈ mGood := mGood_in (List.mem_of_getElem? (i := 672) (by decide +kernel)) (by decide +kernel)
theorem wd_88 : Cond.fieldLink RX1 150 "PuppetStage$Limbs" "weight" "[I" ∈ mGood := mGood_in (List.mem_of_getElem? (i := 88) (by decide +kernel)) (by decide +kernel)
theorem wd_700 : Cond.code yX1_depthOf cX1_depthOf 5 (some .long) ∈ mGood := mGood_in (List.mem_of_getElem? (i := 700) (by decide +kernel)) (by decide +kernel)
theorem wd_724 : Cond.code yX1_begin cX1_begin 2 none ∈ mGood := mGood_in (List.mem_of_getElem? (i := 724) (by decide +kernel)) (by decide +kernel)
theorem wd_268 : Cond.fieldLink RX1 153 "PuppetStage$Puppet" "holds" "LPuppetStage$Holds;" ∈ mGood := mGood_in (List.mem_of_getElem? (i := 268) (by decide +kernel)) (by decide +kernel)
theorem wd_204 : Cond.fieldLink RX1 157 "PuppetStage$Holds" "count" "I" ∈ mGood := mGood_in (List.mem_of_getElem? (i := 204) (by decide +kernel)) (by decide +kernel)
theorem wd_729 : Cond.methodLink RX1 158 yX1_far ∈ mGood := mGood_in (List.mem_of_getElem? (i := 729) (by decide +kernel)) (by decide +kernel)
theorem wd_650 : Cond.instanceMethod yX1_far ∈ mGood := mGood_in (List.mem_of_getElem? (i := 650) (by decide +kernel)) (by decide +kernel)
theorem wd_651 : Cond.selects RX1 yX1_far yX1_far ∈ mGood := mGood_in (List.mem_of_getElem? (i := 651) (by decide +kernel)) (by decide +kernel)
theorem wd_730 : Cond.methodLink RX1 162 yX1_tooLong ∈ mGood := mGood_in (List.mem_of_getElem? (i := 730) (by decide +kernel)) (by decide +kernel)
theorem wd_670 : Cond.instanceMethod yX1_tooLong ∈ mGood := mGood_in (List.mem_of_getElem? (i := 670) (by decide +kernel)) (by decide +kernel)
theorem wd_671 : Cond.selects RX1 yX1_tooLong yX1_tooLong ∈ mGood := mGood_in (List.mem_of_getElem? (i := 671) (by decide +kernel)) (by decide +kernel)
theorem wd_731 : Cond.methodLink RX1 166 yX1_depthOf ∈ mGood := mGood_in (List.mem_of_getElem? (i := 731) (by decide +kernel)) (by decide +kernel)
theorem wd_698 : Cond.instanceMethod yX1_depthOf ∈ mGood := mGood_in (List.mem_of_getElem? (i := 698) (by decide +kernel)) (by decide +kernel)
theorem wd_699 : Cond.selects RX1 yX1_depthOf yX1_depthOf ∈ mGood := mGood_in (List.mem_of_getElem? (i := 699) (by decide +kernel)) (by decide +kernel)
theorem wd_728 : Cond.code yX1_isBetter cX1_isBetter 6 (some .boolean) ∈ mGood := mGood_in (List.mem_of_getElem? (i := 728) (by decide +kernel)) (by decide +kernel)
theorem wd_374 : Cond.fieldLink RX6 7 "PuppetStage$Line" "fromX" "J" ∈ mGood := mGood_in (List.mem_of_getElem? (i := 374) (by decide +kernel)) (by decide +kernel)
theorem wd_375 : Cond.fieldLink RX6 13 "PuppetStage$Line" "fromY" "J" ∈ mGood := mGood_in (List.mem_of_getElem? (i := 375) (by decide +kernel)) (by decide +kernel)
theorem wd_376 : Cond.fieldLink RX6 16 "PuppetStage$Line" "toX" "J" ∈ mGood := mGood_in (List.mem_of_getElem? (i := 376) (by decide +kernel)) (by decide +kernel)
theorem wd_377 : Cond.fieldLink RX6 19 "PuppetStage$Line" "toY" "J" ∈ mGood := mGood_in (List.mem_of_getElem? (i := 377) (by decide +kernel)) (by decide +kernel)
theorem wd_59 : Cond.initialized RX6 ∈ mGood := mGood_in (List.mem_of_getElem? (i := 59) (by decide +kernel)) (by decide +kernel)
theorem wd_821 : Cond.code yX6_put cX6_put 9 none ∈ mGood := mGood_in (List.mem_of_getElem? (i := 821) (by decide +kernel)) (by decide +kernel)
theorem wd_818 : Cond.methodLink RX1 170 yX6_put ∈ mGood := mGood_in (List.mem_of_getElem? (i := 818) (by decide +kernel)) (by decide +kernel)
theorem wd_819 : Cond.instanceMethod yX6_put ∈ mGood := mGood_in (List.mem_of_getElem? (i := 819) (by decide +kernel)) (by decide +kernel)
theorem wd_820 : Cond.selects RX6 yX6_put yX6_put ∈ mGood := mGood_in (List.mem_of_getElem? (i := 820) (by decide +kernel)) (by decide +kernel)
theorem wd_844 : Cond.code yX1_drawLimb cX1_drawLimb 3 none ∈ mGood := mGood_in (List.mem_of_getElem? (i := 844) (by decide +kernel)) (by decide +kernel)
theorem wd_817 : Cond.code yX1_drawString cX1_drawString 7 none ∈ mGood := mGood_in (List.mem_of_getElem? (i := 817) (by decide +kernel)) (by decide +kernel)
theorem wd_226 : Cond.methodLink RX2 3 objectInit ∈ mGood := mGood_in (List.mem_of_getElem? (i := 226) (by decide +kernel)) (by decide +kernel)
theorem wd_227 : Cond.fieldLink RX2 9 "PuppetStage$Gesture" "x" "[I" ∈ mGood := mGood_in (List.mem_of_getElem? (i := 227) (by decide +kernel)) (by decide +kernel)
theorem wd_229 : Cond.fieldLink RX2 15 "PuppetStage$Gesture" "y" "[I" ∈ mGood := mGood_in (List.mem_of_getElem? (i := 229) (by decide +kernel)) (by decide +kernel)
theorem wd_231 : Cond.fieldLink RX2 18 "PuppetStage$Gesture" "tilt" "[I" ∈ mGood := mGood_in (List.mem_of_getElem? (i := 231) (by decide +kernel)) (by decide +kernel)
theorem wd_234 : Cond.fieldLink RX2 21 "PuppetStage$Gesture" "bends" "[I" ∈ mGood := mGood_in (List.mem_of_getElem? (i := 234) (by decide +kernel)) (by decide +kernel)
theorem wd_236 : Cond.fieldLink RX2 24 "PuppetStage$Gesture" "ticks" "I" ∈ mGood := mGood_in (List.mem_of_getElem? (i := 236) (by decide +kernel)) (by decide +kernel)
theorem wd_239 : Cond.fieldLink RX2 28 "PuppetStage$Gesture" "poses" "I" ∈ mGood := mGood_in (List.mem_of_getElem? (i := 239) (by decide +kernel)) (by decide +kernel)
theorem wd_55 : Cond.initialized RX2 ∈ mGood := mGood_in (List.mem_of_getElem? (i := 55) (by decide +kernel)) (by decide +kernel)
theorem wd_225 : Cond.code yX2_init cX2_init 1 none ∈ mGood := mGood_in (List.mem_of_getElem? (i := 225) (by decide +kernel)) (by decide +kernel)
theorem wd_768 : Cond.code yX2_add cX2_add 4 (some .int) ∈ mGood := mGood_in (List.mem_of_getElem? (i := 768) (by decide +kernel)) (by decide +kernel)
theorem wd_102 : Cond.fieldLink RX2 31 "PuppetStage$Limbs" "count" "I" ∈ mGood := mGood_in (List.mem_of_getElem? (i := 102) (by decide +kernel)) (by decide +kernel)
theorem wd_95 : Cond.fieldLink RX2 36 "PuppetStage$Limbs" "bend" "[I" ∈ mGood := mGood_in (List.mem_of_getElem? (i := 95) (by decide +kernel)) (by decide +kernel)
theorem wd_780 : Cond.code yX2_keepPose cX2_keepPose 4 none ∈ mGood := mGood_in (List.mem_of_getElem? (i := 780) (by decide +kernel)) (by decide +kernel)
theorem wd_788 : Cond.code yX2_bendOf cX2_bendOf 3 (some .int) ∈ mGood := mGood_in (List.mem_of_getElem? (i := 788) (by decide +kernel)) (by decide +kernel)
theorem wd_797 : Cond.methodLink RX2 39 yX2_bendOf ∈ mGood := mGood_in (List.mem_of_getElem? (i := 797) (by decide +kernel)) (by decide +kernel)
theorem wd_786 : Cond.instanceMethod yX2_bendOf ∈ mGood := mGood_in (List.mem_of_getElem? (i := 786) (by decide +kernel)) (by decide +kernel)
theorem wd_787 : Cond.selects RX2 yX2_bendOf yX2_bendOf ∈ mGood := mGood_in (List.mem_of_getElem? (i := 787) (by decide +kernel)) (by decide +kernel)
theorem wd_796 : Cond.code yX2_comesRound cX2_comesRound 4 (some .boolean) ∈ mGood := mGood_in (List.mem_of_getElem? (i := 796) (by decide +kernel)) (by decide +kernel)
theorem wd_495 : Cond.methodLinkNest RX2 43 yX10_copyRow RX10 ∈ mNest := List.mem_filter.mpr ⟨List.mem_of_getElem? (i := 495) (by decide +kernel), rfl⟩
theorem wd_494 : Cond.code yX2_become cX2_become 2 none ∈ mGood := mGood_in (List.mem_of_getElem? (i := 494) (by decide +kernel)) (by decide +kernel)
theorem wd_889 : Cond.methodLinkNest RX2 47 yX10_turnSigns RX10 ∈ mNest := List.mem_filter.mpr ⟨List.mem_of_getElem? (i := 889) (by decide +kernel), rfl⟩
theorem wd_888 : Cond.code yX2_turnOver cX2_turnOver 1 none ∈ mGood := mGood_in (List.mem_of_getElem? (i := 888) (by decide +kernel)) (by decide +kernel)
theorem wd_83 : Cond.methodLink RX5 3 objectInit ∈ mGood := mGood_in (List.mem_of_getElem? (i := 83) (by decide +kernel)) (by decide +kernel)
theorem wd_84 : Cond.fieldLink RX5 9 "PuppetStage$Limbs" "length" "[I" ∈ mGood := mGood_in (List.mem_of_getElem? (i := 84) (by decide +kernel)) (by decide +kernel)
theorem wd_87 : Cond.fieldLink RX5 15 "PuppetStage$Limbs" "weight" "[I" ∈ mGood := mGood_in (List.mem_of_getElem? (i := 87) (by decide +kernel)) (by decide +kernel)
theorem wd_90 : Cond.fieldLink RX5 18 "PuppetStage$Limbs" "parent" "[I" ∈ mGood := mGood_in (List.mem_of_getElem? (i := 90) (by decide +kernel)) (by decide +kernel)
theorem wd_93 : Cond.fieldLink RX5 21 "PuppetStage$Limbs" "bend" "[I" ∈ mGood := mGood_in (List.mem_of_getElem? (i := 93) (by decide +kernel)) (by decide +kernel)
theorem wd_99 : Cond.fieldLink RX5 24 "PuppetStage$Limbs" "count" "I" ∈ mGood := mGood_in (List.mem_of_getElem? (i := 99) (by decide +kernel)) (by decide +kernel)
theorem wd_105 : Cond.fieldLink RX5 28 "PuppetStage$Limbs" "pinX" "I" ∈ mGood := mGood_in (List.mem_of_getElem? (i := 105) (by decide +kernel)) (by decide +kernel)
theorem wd_108 : Cond.fieldLink RX5 31 "PuppetStage$Limbs" "pinY" "I" ∈ mGood := mGood_in (List.mem_of_getElem? (i := 108) (by decide +kernel)) (by decide +kernel)
theorem wd_51 : Cond.initialized RX5 ∈ mGood := mGood_in (List.mem_of_getElem? (i := 51) (by decide +kernel)) (by decide +kernel)
theorem wd_82 : Cond.code yX5_init cX5_init 1 none ∈ mGood := mGood_in (List.mem_of_getElem? (i := 82) (by decide +kernel)) (by decide +kernel)
theorem wd_132 : Cond.methodLink RX9 3 objectInit ∈ mGood := mGood_in (List.mem_of_getElem? (i := 132) (by decide +kernel)) (by decide +kernel)
theorem wd_133 : Cond.fieldLink RX9 9 "PuppetStage$Spans" "least" "[I" ∈ mGood := mGood_in (List.mem_of_getElem? (i := 133) (by decide +kernel)) (by decide +kernel)
theorem wd_136 : Cond.fieldLink RX9 15 "PuppetStage$Spans" "greatest" "[I" ∈ mGood := mGood_in (List.mem_of_getElem? (i := 136) (by decide +kernel)) (by decide +kernel)
theorem wd_138 : Cond.fieldLink RX9 18 "PuppetStage$Spans" "pairs" "I" ∈ mGood := mGood_in (List.mem_of_getElem? (i := 138) (by decide +kernel)) (by decide +kernel)
theorem wd_52 : Cond.initialized RX9 ∈ mGood := mGood_in (List.mem_of_getElem? (i := 52) (by decide +kernel)) (by decide +kernel)
theorem wd_131 : Cond.code yX9_init cX9_init 1 none ∈ mGood := mGood_in (List.mem_of_getElem? (i := 131) (by decide +kernel)) (by decide +kernel)
theorem wd_186 : Cond.methodLink RX4 3 objectInit ∈ mGood := mGood_in (List.mem_of_getElem? (i := 186) (by decide +kernel)) (by decide +kernel)
theorem wd_187 : Cond.fieldLink RX4 9 "PuppetStage$Holds" "kind" "[I" ∈ mGood := mGood_in (List.mem_of_getElem? (i := 187) (by decide +kernel)) (by decide +kernel)
theorem wd_190 : Cond.fieldLink RX4 15 "PuppetStage$Holds" "bar" "[I" ∈ mGood := mGood_in (List.mem_of_getElem? (i := 190) (by decide +kernel)) (by decide +kernel)
theorem wd_193 : Cond.fieldLink RX4 18 "PuppetStage$Holds" "limb" "[I" ∈ mGood := mGood_in (List.mem_of_getElem? (i := 193) (by decide +kernel)) (by decide +kernel)
theorem wd_196 : Cond.fieldLink RX4 21 "PuppetStage$Holds" "spot" "[I" ∈ mGood := mGood_in (List.mem_of_getElem? (i := 196) (by decide +kernel)) (by decide +kernel)
theorem wd_203 : Cond.fieldLink RX4 30 "PuppetStage$Holds" "count" "I" ∈ mGood := mGood_in (List.mem_of_getElem? (i := 203) (by decide +kernel)) (by decide +kernel)
theorem wd_185 : Cond.code yX4_init cX4_init 1 none ∈ mGood := mGood_in (List.mem_of_getElem? (i := 185) (by decide +kernel)) (by decide +kernel)
theorem wd_77 : Cond.methodLink RX7 3 objectInit ∈ mGood := mGood_in (List.mem_of_getElem? (i := 77) (by decide +kernel)) (by decide +kernel)
theorem wd_78 : Cond.classLink RX7 9 RX5 ∈ mGood := mGood_in (List.mem_of_getElem? (i := 78) (by decide +kernel)) (by decide +kernel)
theorem wd_79 : Cond.instantiable RX5 7 ∈ mGood := mGood_in (List.mem_of_getElem? (i := 79) (by decide +kernel)) (by decide +kernel)
theorem wd_80 : Cond.methodLinkNest RX7 11 yX5_init RX10 ∈ mNest := List.mem_filter.mpr ⟨List.mem_of_getElem? (i := 80) (by decide +kernel), rfl⟩
theorem wd_81 : Cond.instanceMethod yX5_init ∈ mGood := mGood_in (List.mem_of_getElem? (i := 81) (by decide +kernel)) (by decide +kernel)
theorem wd_255 : Cond.fieldLink RX7 12 "PuppetStage$Puppet" "limbs" "LPuppetStage$Limbs;" ∈ mGood := mGood_in (List.mem_of_getElem? (i := 255) (by decide +kernel)) (by decide +kernel)
theorem wd_127 : Cond.classLink RX7 18 RX9 ∈ mGood := mGood_in (List.mem_of_getElem? (i := 127) (by decide +kernel)) (by decide +kernel)
theorem wd_128 : Cond.instantiable RX9 3 ∈ mGood := mGood_in (List.mem_of_getElem? (i := 128) (by decide +kernel)) (by decide +kernel)
theorem wd_129 : Cond.methodLinkNest RX7 20 yX9_init RX10 ∈ mNest := List.mem_filter.mpr ⟨List.mem_of_getElem? (i := 129) (by decide +kernel), rfl⟩
theorem wd_130 : Cond.instanceMethod yX9_init ∈ mGood := mGood_in (List.mem_of_getElem? (i := 130) (by decide +kernel)) (by decide +kernel)
theorem wd_259 : Cond.fieldLink RX7 21 "PuppetStage$Puppet" "spans" "LPuppetStage$Spans;" ∈ mGood := mGood_in (List.mem_of_getElem? (i := 259) (by decide +kernel)) (by decide +kernel)
theorem wd_148 : Cond.classLink RX7 25 RX0 ∈ mGood := mGood_in (List.mem_of_getElem? (i := 148) (by decide +kernel)) (by decide +kernel)
theorem wd_149 : Cond.instantiable RX0 5 ∈ mGood := mGood_in (List.mem_of_getElem? (i := 149) (by decide +kernel)) (by decide +kernel)
theorem wd_150 : Cond.methodLinkNest RX7 27 yX0_init RX10 ∈ mNest := List.mem_filter.mpr ⟨List.mem_of_getElem? (i := 150) (by decide +kernel), rfl⟩
theorem wd_151 : Cond.instanceMethod yX0_init ∈ mGood := mGood_in (List.mem_of_getElem? (i := 151) (by decide +kernel)) (by decide +kernel)
theorem wd_262 : Cond.fieldLink RX7 28 "PuppetStage$Puppet" "cross" "LPuppetStage$Cross;" ∈ mGood := mGood_in (List.mem_of_getElem? (i := 262) (by decide +kernel)) (by decide +kernel)
theorem wd_181 : Cond.classLink RX7 32 RX4 ∈ mGood := mGood_in (List.mem_of_getElem? (i := 181) (by decide +kernel)) (by decide +kernel)
theorem wd_182 : Cond.instantiable RX4 7 ∈ mGood := mGood_in (List.mem_of_getElem? (i := 182) (by decide +kernel)) (by decide +kernel)
theorem wd_183 : Cond.methodLinkNest RX7 34 yX4_init RX10 ∈ mNest := List.mem_filter.mpr ⟨List.mem_of_getElem? (i := 183) (by decide +kernel), rfl⟩
theorem wd_184 : Cond.instanceMethod yX4_init ∈ mGood := mGood_in (List.mem_of_getElem? (i := 184) (by decide +kernel)) (by decide +kernel)
theorem wd_266 : Cond.fieldLink RX7 35 "PuppetStage$Puppet" "holds" "LPuppetStage$Holds;" ∈ mGood := mGood_in (List.mem_of_getElem? (i := 266) (by decide +kernel)) (by decide +kernel)
theorem wd_221 : Cond.classLink RX7 39 RX2 ∈ mGood := mGood_in (List.mem_of_getElem? (i := 221) (by decide +kernel)) (by decide +kernel)
theorem wd_222 : Cond.instantiable RX2 6 ∈ mGood := mGood_in (List.mem_of_getElem? (i := 222) (by decide +kernel)) (by decide +kernel)
theorem wd_223 : Cond.methodLinkNest RX7 41 yX2_init RX10 ∈ mNest := List.mem_filter.mpr ⟨List.mem_of_getElem? (i := 223) (by decide +kernel), rfl⟩
theorem wd_224 : Cond.instanceMethod yX2_init ∈ mGood := mGood_in (List.mem_of_getElem? (i := 224) (by decide +kernel)) (by decide +kernel)
theorem wd_269 : Cond.fieldLink RX7 42 "PuppetStage$Puppet" "gesture" "LPuppetStage$Gesture;" ∈ mGood := mGood_in (List.mem_of_getElem? (i := 269) (by decide +kernel)) (by decide +kernel)
theorem wd_271 : Cond.fieldLink RX7 46 "PuppetStage$Puppet" "hand" "I" ∈ mGood := mGood_in (List.mem_of_getElem? (i := 271) (by decide +kernel)) (by decide +kernel)
theorem wd_50 : Cond.initialized RX7 ∈ mGood := mGood_in (List.mem_of_getElem? (i := 50) (by decide +kernel)) (by decide +kernel)
theorem wd_76 : Cond.code yX7_init cX7_init 1 none ∈ mGood := mGood_in (List.mem_of_getElem? (i := 76) (by decide +kernel)) (by decide +kernel)
theorem wd_292 : Cond.methodLink RX3 3 objectInit ∈ mGood := mGood_in (List.mem_of_getElem? (i := 292) (by decide +kernel)) (by decide +kernel)
theorem wd_293 : Cond.classLink RX3 9 RX7 ∈ mGood := mGood_in (List.mem_of_getElem? (i := 293) (by decide +kernel)) (by decide +kernel)
theorem wd_296 : Cond.fieldLink RX3 11 "PuppetStage$History" "firsts" "[LPuppetStage$Puppet;" ∈ mGood := mGood_in (List.mem_of_getElem? (i := 296) (by decide +kernel)) (by decide +kernel)
theorem wd_297 : Cond.fieldLink RX3 17 "PuppetStage$History" "seconds" "[LPuppetStage$Puppet;" ∈ mGood := mGood_in (List.mem_of_getElem? (i := 297) (by decide +kernel)) (by decide +kernel)
theorem wd_298 : Cond.fieldLink RX3 20 "PuppetStage$History" "next" "I" ∈ mGood := mGood_in (List.mem_of_getElem? (i := 298) (by decide +kernel)) (by decide +kernel)
theorem wd_299 : Cond.fieldLink RX3 24 "PuppetStage$History" "kept" "I" ∈ mGood := mGood_in (List.mem_of_getElem? (i := 299) (by decide +kernel)) (by decide +kernel)
theorem wd_73 : Cond.instantiable RX7 6 ∈ mGood := mGood_in (List.mem_of_getElem? (i := 73) (by decide +kernel)) (by decide +kernel)
theorem wd_295 : Cond.methodLinkNest RX3 27 yX7_init RX10 ∈ mNest := List.mem_filter.mpr ⟨List.mem_of_getElem? (i := 295) (by decide +kernel), rfl⟩
theorem wd_75 : Cond.instanceMethod yX7_init ∈ mGood := mGood_in (List.mem_of_getElem? (i := 75) (by decide +kernel)) (by decide +kernel)
theorem wd_56 : Cond.initialized RX3 ∈ mGood := mGood_in (List.mem_of_getElem? (i := 56) (by decide +kernel)) (by decide +kernel)
theorem wd_291 : Cond.code yX3_init cX3_init 2 none ∈ mGood := mGood_in (List.mem_of_getElem? (i := 291) (by decide +kernel)) (by decide +kernel)
theorem wd_463 : Cond.methodLinkNest RX5 34 yX10_copyRow RX10 ∈ mNest := List.mem_filter.mpr ⟨List.mem_of_getElem? (i := 463) (by decide +kernel), rfl⟩
theorem wd_462 : Cond.code yX5_become cX5_become 2 none ∈ mGood := mGood_in (List.mem_of_getElem? (i := 462) (by decide +kernel)) (by decide +kernel)
theorem wd_476 : Cond.methodLinkNest RX9 33 yX10_copyRow RX10 ∈ mNest := List.mem_filter.mpr ⟨List.mem_of_getElem? (i := 476) (by decide +kernel), rfl⟩
theorem wd_475 : Cond.code yX9_become cX9_become 2 none ∈ mGood := mGood_in (List.mem_of_getElem? (i := 475) (by decide +kernel)) (by decide +kernel)
theorem wd_490 : Cond.methodLinkNest RX4 46 yX10_copyRow RX10 ∈ mNest := List.mem_filter.mpr ⟨List.mem_of_getElem? (i := 490) (by decide +kernel), rfl⟩
theorem wd_489 : Cond.code yX4_become cX4_become 2 none ∈ mGood := mGood_in (List.mem_of_getElem? (i := 489) (by decide +kernel)) (by decide +kernel)
theorem wd_459 : Cond.methodLink RX7 50 yX5_become ∈ mGood := mGood_in (List.mem_of_getElem? (i := 459) (by decide +kernel)) (by decide +kernel)
theorem wd_460 : Cond.instanceMethod yX5_become ∈ mGood := mGood_in (List.mem_of_getElem? (i := 460) (by decide +kernel)) (by decide +kernel)
theorem wd_461 : Cond.selects RX5 yX5_become yX5_become ∈ mGood := mGood_in (List.mem_of_getElem? (i := 461) (by decide +kernel)) (by decide +kernel)
theorem wd_472 : Cond.methodLink RX7 54 yX9_become ∈ mGood := mGood_in (List.mem_of_getElem? (i := 472) (by decide +kernel)) (by decide +kernel)
theorem wd_473 : Cond.instanceMethod yX9_become ∈ mGood := mGood_in (List.mem_of_getElem? (i := 473) (by decide +kernel)) (by decide +kernel)
theorem wd_474 : Cond.selects RX9 yX9_become yX9_become ∈ mGood := mGood_in (List.mem_of_getElem? (i := 474) (by decide +kernel)) (by decide +kernel)
theorem wd_477 : Cond.methodLink RX7 57 yX0_become ∈ mGood := mGood_in (List.mem_of_getElem? (i := 477) (by decide +kernel)) (by decide +kernel)
theorem wd_478 : Cond.instanceMethod yX0_become ∈ mGood := mGood_in (List.mem_of_getElem? (i := 478) (by decide +kernel)) (by decide +kernel)
theorem wd_479 : Cond.selects RX0 yX0_become yX0_become ∈ mGood := mGood_in (List.mem_of_getElem? (i := 479) (by decide +kernel)) (by decide +kernel)
theorem wd_486 : Cond.methodLink RX7 60 yX4_become ∈ mGood := mGood_in (List.mem_of_getElem? (i := 486) (by decide +kernel)) (by decide +kernel)
theorem wd_487 : Cond.instanceMethod yX4_become ∈ mGood := mGood_in (List.mem_of_getElem? (i := 487) (by decide +kernel)) (by decide +kernel)
theorem wd_488 : Cond.selects RX4 yX4_become yX4_become ∈ mGood := mGood_in (List.mem_of_getElem? (i := 488) (by decide +kernel)) (by decide +kernel)
theorem wd_491 : Cond.methodLink RX7 63 yX2_become ∈ mGood := mGood_in (List.mem_of_getElem? (i := 491) (by decide +kernel)) (by decide +kernel)
theorem wd_492 : Cond.instanceMethod yX2_become ∈ mGood := mGood_in (List.mem_of_getElem? (i := 492) (by decide +kernel)) (by decide +kernel)
theorem wd_493 : Cond.selects RX2 yX2_become yX2_become ∈ mGood := mGood_in (List.mem_of_getElem? (i := 493) (by decide +kernel)) (by decide +kernel)
theorem wd_458 : Cond.code yX7_become cX7_become 2 none ∈ mGood := mGood_in (List.mem_of_getElem? (i := 458) (by decide +kernel)) (by decide +kernel)
theorem wd_455 : Cond.methodLink RX3 28 yX7_become ∈ mGood := mGood_in (List.mem_of_getElem? (i := 455) (by decide +kernel)) (by decide +kernel)
theorem wd_456 : Cond.instanceMethod yX7_become ∈ mGood := mGood_in (List.mem_of_getElem? (i := 456) (by decide +kernel)) (by decide +kernel)
theorem wd_457 : Cond.selects RX7 yX7_become yX7_become ∈ mGood := mGood_in (List.mem_of_getElem? (i := 457) (by decide +kernel)) (by decide +kernel)
theorem wd_496 : Cond.methodLink RX3 32 Lib.Math.min.name ∈ mGood := mGood_in (List.mem_of_getElem? (i := 496) (by decide +kernel)) (by decide +kernel)
theorem wd_454 : Cond.code yX3_keep cX3_keep 3 none ∈ mGood := mGood_in (List.mem_of_getElem? (i := 454) (by decide +kernel)) (by decide +kernel)
theorem wd_897 : Cond.code yX3_takeBack cX3_takeBack 3 none ∈ mGood := mGood_in (List.mem_of_getElem? (i := 897) (by decide +kernel)) (by decide +kernel)
theorem wd_633 : Cond.code yX4_has cX4_has 2 (some .boolean) ∈ mGood := mGood_in (List.mem_of_getElem? (i := 633) (by decide +kernel)) (by decide +kernel)
theorem wd_625 : Cond.code yX4_add cX4_add 7 (some .int) ∈ mGood := mGood_in (List.mem_of_getElem? (i := 625) (by decide +kernel)) (by decide +kernel)
theorem wd_516 : Cond.code yX4_closeGap cX4_closeGap 4 none ∈ mGood := mGood_in (List.mem_of_getElem? (i := 516) (by decide +kernel)) (by decide +kernel)
theorem wd_513 : Cond.methodLink RX4 34 yX4_closeGap ∈ mGood := mGood_in (List.mem_of_getElem? (i := 513) (by decide +kernel)) (by decide +kernel)
theorem wd_515 : Cond.instanceMethod yX4_closeGap ∈ mGood := mGood_in (List.mem_of_getElem? (i := 515) (by decide +kernel)) (by decide +kernel)
theorem wd_1 : Cond.selects RX4 yX4_closeGap yX4_closeGap ∈ mGood := mGood_in (List.mem_of_getElem? (i := 1) (by decide +kernel)) (by decide +kernel)
theorem wd_512 : Cond.code yX4_remove cX4_remove 2 none ∈ mGood := mGood_in (List.mem_of_getElem? (i := 512) (by decide +kernel)) (by decide +kernel)
theorem wd_509 : Cond.methodLink RX4 38 yX4_remove ∈ mGood := mGood_in (List.mem_of_getElem? (i := 509) (by decide +kernel)) (by decide +kernel)
theorem wd_510 : Cond.instanceMethod yX4_remove ∈ mGood := mGood_in (List.mem_of_getElem? (i := 510) (by decide +kernel)) (by decide +kernel)
theorem wd_511 : Cond.selects RX4 yX4_remove yX4_remove ∈ mGood := mGood_in (List.mem_of_getElem? (i := 511) (by decide +kernel)) (by decide +kernel)
theorem wd_508 : Cond.code yX4_removeAllOn cX4_removeAllOn 3 none ∈ mGood := mGood_in (List.mem_of_getElem? (i := 508) (by decide +kernel)) (by decide +kernel)
theorem wd_684 : Cond.methodLink RX4 42 yX4_free ∈ mGood := mGood_in (List.mem_of_getElem? (i := 684) (by decide +kernel)) (by decide +kernel)
theorem wd_683 : Cond.code yX4_isTaut cX4_isTaut 4 (some .boolean) ∈ mGood := mGood_in (List.mem_of_getElem? (i := 683) (by decide +kernel)) (by decide +kernel)
theorem wd_549 : Cond.code yX5_has cX5_has 2 (some .boolean) ∈ mGood := mGood_in (List.mem_of_getElem? (i := 549) (by decide +kernel)) (by decide +kernel)
theorem wd_500 : Cond.code yX5_add cX5_add 5 (some .int) ∈ mGood := mGood_in (List.mem_of_getElem? (i := 500) (by decide +kernel)) (by decide +kernel)
theorem wd_520 : Cond.code yX5_removeLast cX5_removeLast 1 (some .int) ∈ mGood := mGood_in (List.mem_of_getElem? (i := 520) (by decide +kernel)) (by decide +kernel)
theorem wd_873 : Cond.methodLinkNest RX5 38 yX10_turnSigns RX10 ∈ mNest := List.mem_filter.mpr ⟨List.mem_of_getElem? (i := 873) (by decide +kernel), rfl⟩
theorem wd_872 : Cond.code yX5_turnOver cX5_turnOver 1 none ∈ mGood := mGood_in (List.mem_of_getElem? (i := 872) (by decide +kernel)) (by decide +kernel)
theorem wd_373 : Cond.methodLink RX6 1 objectInit ∈ mGood := mGood_in (List.mem_of_getElem? (i := 373) (by decide +kernel)) (by decide +kernel)
theorem wd_372 : Cond.code yX6_init cX6_init 1 none ∈ mGood := mGood_in (List.mem_of_getElem? (i := 372) (by decide +kernel)) (by decide +kernel)
theorem wd_63 : Cond.initialized RJ13 ∈ mGood := mGood_in (List.mem_of_getElem? (i := 63) (by decide +kernel)) (by decide +kernel)
theorem wd_836 : Cond.code yJ13_signum_95d88 cJ13_signum_95d88 2 (some .int) ∈ mGood := mGood_in (List.mem_of_getElem? (i := 836) (by decide +kernel)) (by decide +kernel)
theorem wd_834 : Cond.methodLink RX6 22 yJ13_signum_95d88 ∈ mGood := mGood_in (List.mem_of_getElem? (i := 834) (by decide +kernel)) (by decide +kernel)
theorem wd_835 : Cond.static yJ13_signum_95d88 ∈ mGood := mGood_in (List.mem_of_getElem? (i := 835) (by decide +kernel)) (by decide +kernel)
theorem wd_833 : Cond.code yX6_sideOf cX6_sideOf 5 (some .int) ∈ mGood := mGood_in (List.mem_of_getElem? (i := 833) (by decide +kernel)) (by decide +kernel)
theorem wd_830 : Cond.methodLink RX6 28 yX6_sideOf ∈ mGood := mGood_in (List.mem_of_getElem? (i := 830) (by decide +kernel)) (by decide +kernel)
theorem wd_832 : Cond.instanceMethod yX6_sideOf ∈ mGood := mGood_in (List.mem_of_getElem? (i := 832) (by decide +kernel)) (by decide +kernel)
theorem wd_10 : Cond.selects RX6 yX6_sideOf yX6_sideOf ∈ mGood := mGood_in (List.mem_of_getElem? (i := 10) (by decide +kernel)) (by decide +kernel)
theorem wd_829 : Cond.code yX6_sidesOf cX6_sidesOf 2 (some .int) ∈ mGood := mGood_in (List.mem_of_getElem? (i := 829) (by decide +kernel)) (by decide +kernel)
theorem wd_826 : Cond.methodLink RX6 32 yX6_sidesOf ∈ mGood := mGood_in (List.mem_of_getElem? (i := 826) (by decide +kernel)) (by decide +kernel)
theorem wd_828 : Cond.instanceMethod yX6_sidesOf ∈ mGood := mGood_in (List.mem_of_getElem? (i := 828) (by decide +kernel)) (by decide +kernel)
theorem wd_9 : Cond.selects RX6 yX6_sidesOf yX6_sidesOf ∈ mGood := mGood_in (List.mem_of_getElem? (i := 9) (by decide +kernel)) (by decide +kernel)
theorem wd_825 : Cond.code yX6_goesThrough cX6_goesThrough 2 (some .boolean) ∈ mGood := mGood_in (List.mem_of_getElem? (i := 825) (by decide +kernel)) (by decide +kernel)
theorem wd_852 : Cond.methodLink RX6 40 Lib.MathLoose.max_long.x ∈ mGood := mGood_in (List.mem_of_getElem? (i := 852) (by decide +kernel)) (by decide +kernel)
theorem wd_853 : Cond.methodLink RX6 46 Lib.MathLoose.min_long.x ∈ mGood := mGood_in (List.mem_of_getElem? (i := 853) (by decide +kernel)) (by decide +kernel)
theorem wd_851 : Cond.code yX6_spreadsMeet cX6_spreadsMeet 8 (some .boolean) ∈ mGood := mGood_in (List.mem_of_getElem? (i := 851) (by decide +kernel)) (by decide +kernel)
theorem wd_849 : Cond.methodLink RX6 36 yX6_spreadsMeet ∈ mGood := mGood_in (List.mem_of_getElem? (i := 849) (by decide +kernel)) (by decide +kernel)
theorem wd_850 : Cond.static yX6_spreadsMeet ∈ mGood := mGood_in (List.mem_of_getElem? (i := 850) (by decide +kernel)) (by decide +kernel)
theorem wd_848 : Cond.code yX6_touches cX6_touches 2 (some .boolean) ∈ mGood := mGood_in (List.mem_of_getElem? (i := 848) (by decide +kernel)) (by decide +kernel)
theorem wd_864 : Cond.code yX10_isAmong cX10_isAmong 4 (some .boolean) ∈ mGood := mGood_in (List.mem_of_getElem? (i := 864) (by decide +kernel)) (by decide +kernel)
theorem wd_168 : Cond.fieldLink RX7 66 "PuppetStage$Cross" "tilt" "I" ∈ mGood := mGood_in (List.mem_of_getElem? (i := 168) (by decide +kernel)) (by decide +kernel)
theorem wd_94 : Cond.fieldLink RX7 69 "PuppetStage$Limbs" "bend" "[I" ∈ mGood := mGood_in (List.mem_of_getElem? (i := 94) (by decide +kernel)) (by decide +kernel)
theorem wd_103 : Cond.fieldLink RX7 73 "PuppetStage$Limbs" "count" "I" ∈ mGood := mGood_in (List.mem_of_getElem? (i := 103) (by decide +kernel)) (by decide +kernel)
theorem wd_862 : Cond.methodLinkNest RX7 76 yX10_isAmong RX10 ∈ mNest := List.mem_filter.mpr ⟨List.mem_of_getElem? (i := 862) (by decide +kernel), rfl⟩
theorem wd_863 : Cond.static yX10_isAmong ∈ mGood := mGood_in (List.mem_of_getElem? (i := 863) (by decide +kernel)) (by decide +kernel)
theorem wd_134 : Cond.fieldLink RX7 80 "PuppetStage$Spans" "least" "[I" ∈ mGood := mGood_in (List.mem_of_getElem? (i := 134) (by decide +kernel)) (by decide +kernel)
theorem wd_139 : Cond.fieldLink RX7 83 "PuppetStage$Spans" "pairs" "I" ∈ mGood := mGood_in (List.mem_of_getElem? (i := 139) (by decide +kernel)) (by decide +kernel)
theorem wd_232 : Cond.fieldLink RX7 86 "PuppetStage$Gesture" "tilt" "[I" ∈ mGood := mGood_in (List.mem_of_getElem? (i := 232) (by decide +kernel)) (by decide +kernel)
theorem wd_237 : Cond.fieldLink RX7 88 "PuppetStage$Gesture" "ticks" "I" ∈ mGood := mGood_in (List.mem_of_getElem? (i := 237) (by decide +kernel)) (by decide +kernel)
theorem wd_235 : Cond.fieldLink RX7 91 "PuppetStage$Gesture" "bends" "[I" ∈ mGood := mGood_in (List.mem_of_getElem? (i := 235) (by decide +kernel)) (by decide +kernel)
theorem wd_241 : Cond.fieldLink RX7 94 "PuppetStage$Gesture" "poses" "I" ∈ mGood := mGood_in (List.mem_of_getElem? (i := 241) (by decide +kernel)) (by decide +kernel)
theorem wd_861 : Cond.code yX7_hasMirrorImage cX7_hasMirrorImage 1 (some .boolean) ∈ mGood := mGood_in (List.mem_of_getElem? (i := 861) (by decide +kernel)) (by decide +kernel)
theorem wd_879 : Cond.code yX9_turnOver cX9_turnOver 3 none ∈ mGood := mGood_in (List.mem_of_getElem? (i := 879) (by decide +kernel)) (by decide +kernel)
theorem wd_869 : Cond.methodLink RX7 97 yX5_turnOver ∈ mGood := mGood_in (List.mem_of_getElem? (i := 869) (by decide +kernel)) (by decide +kernel)
theorem wd_870 : Cond.instanceMethod yX5_turnOver ∈ mGood := mGood_in (List.mem_of_getElem? (i := 870) (by decide +kernel)) (by decide +kernel)
theorem wd_871 : Cond.selects RX5 yX5_turnOver yX5_turnOver ∈ mGood := mGood_in (List.mem_of_getElem? (i := 871) (by decide +kernel)) (by decide +kernel)
theorem wd_876 : Cond.methodLink RX7 100 yX9_turnOver ∈ mGood := mGood_in (List.mem_of_getElem? (i := 876) (by decide +kernel)) (by decide +kernel)
theorem wd_877 : Cond.instanceMethod yX9_turnOver ∈ mGood := mGood_in (List.mem_of_getElem? (i := 877) (by decide +kernel)) (by decide +kernel)
theorem wd_878 : Cond.selects RX9 yX9_turnOver yX9_turnOver ∈ mGood := mGood_in (List.mem_of_getElem? (i := 878) (by decide +kernel)) (by decide +kernel)
theorem wd_880 : Cond.methodLink RX7 101 yX0_turnOver ∈ mGood := mGood_in (List.mem_of_getElem? (i := 880) (by decide +kernel)) (by decide +kernel)
theorem wd_881 : Cond.instanceMethod yX0_turnOver ∈ mGood := mGood_in (List.mem_of_getElem? (i := 881) (by decide +kernel)) (by decide +kernel)
theorem wd_882 : Cond.selects RX0 yX0_turnOver yX0_turnOver ∈ mGood := mGood_in (List.mem_of_getElem? (i := 882) (by decide +kernel)) (by decide +kernel)
theorem wd_885 : Cond.methodLink RX7 102 yX2_turnOver ∈ mGood := mGood_in (List.mem_of_getElem? (i := 885) (by decide +kernel)) (by decide +kernel)
theorem wd_886 : Cond.instanceMethod yX2_turnOver ∈ mGood := mGood_in (List.mem_of_getElem? (i := 886) (by decide +kernel)) (by decide +kernel)
theorem wd_887 : Cond.selects RX2 yX2_turnOver yX2_turnOver ∈ mGood := mGood_in (List.mem_of_getElem? (i := 887) (by decide +kernel)) (by decide +kernel)
theorem wd_868 : Cond.code yX7_turnOver cX7_turnOver 1 none ∈ mGood := mGood_in (List.mem_of_getElem? (i := 868) (by decide +kernel)) (by decide +kernel)
theorem wd_361 : Cond.methodLink RX8 1 objectInit ∈ mGood := mGood_in (List.mem_of_getElem? (i := 361) (by decide +kernel)) (by decide +kernel)
theorem wd_362 : Cond.classLink RX8 7 RX1 ∈ mGood := mGood_in (List.mem_of_getElem? (i := 362) (by decide +kernel)) (by decide +kernel)
theorem wd_311 : Cond.instantiable RX1 11 ∈ mGood := mGood_in (List.mem_of_getElem? (i := 311) (by decide +kernel)) (by decide +kernel)
theorem wd_363 : Cond.methodLinkNest RX8 9 yX1_init RX10 ∈ mNest := List.mem_filter.mpr ⟨List.mem_of_getElem? (i := 363) (by decide +kernel), rfl⟩
theorem wd_313 : Cond.instanceMethod yX1_init ∈ mGood := mGood_in (List.mem_of_getElem? (i := 313) (by decide +kernel)) (by decide +kernel)
theorem wd_364 : Cond.fieldLink RX8 10 "PuppetStage$Settler" "figure" "LPuppetStage$Figure;" ∈ mGood := mGood_in (List.mem_of_getElem? (i := 364) (by decide +kernel)) (by decide +kernel)
theorem wd_58 : Cond.initialized RX8 ∈ mGood := mGood_in (List.mem_of_getElem? (i := 58) (by decide +kernel)) (by decide +kernel)
theorem wd_360 : Cond.code yX8_init cX8_init 1 none ∈ mGood := mGood_in (List.mem_of_getElem? (i := 360) (by decide +kernel)) (by decide +kernel)
theorem wd_444 : Cond.code yX9_has cX9_has 2 (some .boolean) ∈ mGood := mGood_in (List.mem_of_getElem? (i := 444) (by decide +kernel)) (by decide +kernel)
theorem wd_441 : Cond.methodLink RX9 22 yX9_has ∈ mGood := mGood_in (List.mem_of_getElem? (i := 441) (by decide +kernel)) (by decide +kernel)
theorem wd_442 : Cond.instanceMethod yX9_has ∈ mGood := mGood_in (List.mem_of_getElem? (i := 442) (by decide +kernel)) (by decide +kernel)
theorem wd_443 : Cond.selects RX9 yX9_has yX9_has ∈ mGood := mGood_in (List.mem_of_getElem? (i := 443) (by decide +kernel)) (by decide +kernel)
theorem wd_440 : Cond.code yX9_leastOf cX9_leastOf 2 (some .int) ∈ mGood := mGood_in (List.mem_of_getElem? (i := 440) (by decide +kernel)) (by decide +kernel)
theorem wd_448 : Cond.code yX9_greatestOf cX9_greatestOf 2 (some .int) ∈ mGood := mGood_in (List.mem_of_getElem? (i := 448) (by decide +kernel)) (by decide +kernel)
theorem wd_437 : Cond.methodLink RX9 26 yX9_leastOf ∈ mGood := mGood_in (List.mem_of_getElem? (i := 437) (by decide +kernel)) (by decide +kernel)
theorem wd_438 : Cond.instanceMethod yX9_leastOf ∈ mGood := mGood_in (List.mem_of_getElem? (i := 438) (by decide +kernel)) (by decide +kernel)
theorem wd_439 : Cond.selects RX9 yX9_leastOf yX9_leastOf ∈ mGood := mGood_in (List.mem_of_getElem? (i := 439) (by decide +kernel)) (by decide +kernel)
theorem wd_445 : Cond.methodLink RX9 30 yX9_greatestOf ∈ mGood := mGood_in (List.mem_of_getElem? (i := 445) (by decide +kernel)) (by decide +kernel)
theorem wd_446 : Cond.instanceMethod yX9_greatestOf ∈ mGood := mGood_in (List.mem_of_getElem? (i := 446) (by decide +kernel)) (by decide +kernel)
theorem wd_447 : Cond.selects RX9 yX9_greatestOf yX9_greatestOf ∈ mGood := mGood_in (List.mem_of_getElem? (i := 447) (by decide +kernel)) (by decide +kernel)
theorem wd_436 : Cond.code yX9_allow cX9_allow 3 (some .boolean) ∈ mGood := mGood_in (List.mem_of_getElem? (i := 436) (by decide +kernel)) (by decide +kernel)
theorem wd_258 : Cond.fieldLink RX8 37 "PuppetStage$Puppet" "limbs" "LPuppetStage$Limbs;" ∈ mGood := mGood_in (List.mem_of_getElem? (i := 258) (by decide +kernel)) (by decide +kernel)
theorem wd_96 : Cond.fieldLink RX8 54 "PuppetStage$Limbs" "bend" "[I" ∈ mGood := mGood_in (List.mem_of_getElem? (i := 96) (by decide +kernel)) (by decide +kernel)
theorem wd_261 : Cond.fieldLink RX8 58 "PuppetStage$Puppet" "spans" "LPuppetStage$Spans;" ∈ mGood := mGood_in (List.mem_of_getElem? (i := 261) (by decide +kernel)) (by decide +kernel)
theorem wd_740 : Cond.methodLink RX8 62 yX9_allow ∈ mGood := mGood_in (List.mem_of_getElem? (i := 740) (by decide +kernel)) (by decide +kernel)
theorem wd_434 : Cond.instanceMethod yX9_allow ∈ mGood := mGood_in (List.mem_of_getElem? (i := 434) (by decide +kernel)) (by decide +kernel)
theorem wd_435 : Cond.selects RX9 yX9_allow yX9_allow ∈ mGood := mGood_in (List.mem_of_getElem? (i := 435) (by decide +kernel)) (by decide +kernel)
theorem wd_725 : Cond.methodLink RX8 26 yX1_isBetter ∈ mGood := mGood_in (List.mem_of_getElem? (i := 725) (by decide +kernel)) (by decide +kernel)
theorem wd_726 : Cond.instanceMethod yX1_isBetter ∈ mGood := mGood_in (List.mem_of_getElem? (i := 726) (by decide +kernel)) (by decide +kernel)
theorem wd_727 : Cond.selects RX1 yX1_isBetter yX1_isBetter ∈ mGood := mGood_in (List.mem_of_getElem? (i := 727) (by decide +kernel)) (by decide +kernel)
theorem wd_739 : Cond.code yX8_tryOne cX8_tryOne 5 (some .boolean) ∈ mGood := mGood_in (List.mem_of_getElem? (i := 739) (by decide +kernel)) (by decide +kernel)
theorem wd_744 : Cond.code yX8_tryTwo cX8_tryTwo 7 (some .boolean) ∈ mGood := mGood_in (List.mem_of_getElem? (i := 744) (by decide +kernel)) (by decide +kernel)
theorem wd_272 : Cond.fieldLink RX8 33 "PuppetStage$Puppet" "hand" "I" ∈ mGood := mGood_in (List.mem_of_getElem? (i := 272) (by decide +kernel)) (by decide +kernel)
theorem wd_101 : Cond.fieldLink RX8 41 "PuppetStage$Limbs" "count" "I" ∈ mGood := mGood_in (List.mem_of_getElem? (i := 101) (by decide +kernel)) (by decide +kernel)
theorem wd_736 : Cond.methodLink RX8 46 yX8_tryOne ∈ mGood := mGood_in (List.mem_of_getElem? (i := 736) (by decide +kernel)) (by decide +kernel)
theorem wd_738 : Cond.instanceMethod yX8_tryOne ∈ mGood := mGood_in (List.mem_of_getElem? (i := 738) (by decide +kernel)) (by decide +kernel)
theorem wd_6 : Cond.selects RX8 yX8_tryOne yX8_tryOne ∈ mGood := mGood_in (List.mem_of_getElem? (i := 6) (by decide +kernel)) (by decide +kernel)
theorem wd_741 : Cond.methodLink RX8 50 yX8_tryTwo ∈ mGood := mGood_in (List.mem_of_getElem? (i := 741) (by decide +kernel)) (by decide +kernel)
theorem wd_743 : Cond.instanceMethod yX8_tryTwo ∈ mGood := mGood_in (List.mem_of_getElem? (i := 743) (by decide +kernel)) (by decide +kernel)
theorem wd_7 : Cond.selects RX8 yX8_tryTwo yX8_tryTwo ∈ mGood := mGood_in (List.mem_of_getElem? (i := 7) (by decide +kernel)) (by decide +kernel)
theorem wd_735 : Cond.code yX8_stepBetter cX8_stepBetter 6 (some .boolean) ∈ mGood := mGood_in (List.mem_of_getElem? (i := 735) (by decide +kernel)) (by decide +kernel)
theorem wd_264 : Cond.fieldLink RX8 16 "PuppetStage$Puppet" "cross" "LPuppetStage$Cross;" ∈ mGood := mGood_in (List.mem_of_getElem? (i := 264) (by decide +kernel)) (by decide +kernel)
theorem wd_721 : Cond.methodLink RX8 22 yX1_begin ∈ mGood := mGood_in (List.mem_of_getElem? (i := 721) (by decide +kernel)) (by decide +kernel)
theorem wd_722 : Cond.instanceMethod yX1_begin ∈ mGood := mGood_in (List.mem_of_getElem? (i := 722) (by decide +kernel)) (by decide +kernel)
theorem wd_723 : Cond.selects RX1 yX1_begin yX1_begin ∈ mGood := mGood_in (List.mem_of_getElem? (i := 723) (by decide +kernel)) (by decide +kernel)
theorem wd_732 : Cond.methodLink RX8 30 yX8_stepBetter ∈ mGood := mGood_in (List.mem_of_getElem? (i := 732) (by decide +kernel)) (by decide +kernel)
theorem wd_734 : Cond.instanceMethod yX8_stepBetter ∈ mGood := mGood_in (List.mem_of_getElem? (i := 734) (by decide +kernel)) (by decide +kernel)
theorem wd_5 : Cond.selects RX8 yX8_stepBetter yX8_stepBetter ∈ mGood := mGood_in (List.mem_of_getElem? (i := 5) (by decide +kernel)) (by decide +kernel)
theorem wd_720 : Cond.code yX8_settle cX8_settle 4 (some .int) ∈ mGood := mGood_in (List.mem_of_getElem? (i := 720) (by decide +kernel)) (by decide +kernel)
theorem wd_758 : Cond.methodLinkNest RX8 68 yX10_copyRow RX10 ∈ mNest := List.mem_filter.mpr ⟨List.mem_of_getElem? (i := 758) (by decide +kernel), rfl⟩
theorem wd_759 : Cond.methodLink RX8 74 yX9_leastOf ∈ mGood := mGood_in (List.mem_of_getElem? (i := 759) (by decide +kernel)) (by decide +kernel)
theorem wd_760 : Cond.methodLink RX8 78 yX9_greatestOf ∈ mGood := mGood_in (List.mem_of_getElem? (i := 760) (by decide +kernel)) (by decide +kernel)
theorem wd_757 : Cond.code yX8_findLowest cX8_findLowest 9 none ∈ mGood := mGood_in (List.mem_of_getElem? (i := 757) (by decide +kernel)) (by decide +kernel)
theorem wd_535 : Cond.code yX9_begin cX9_begin 3 none ∈ mGood := mGood_in (List.mem_of_getElem? (i := 535) (by decide +kernel)) (by decide +kernel)
theorem wd_69 : Cond.methodLink RX10 1 objectInit ∈ mGood := mGood_in (List.mem_of_getElem? (i := 69) (by decide +kernel)) (by decide +kernel)
theorem wd_72 : Cond.classLink RX10 7 RX7 ∈ mGood := mGood_in (List.mem_of_getElem? (i := 72) (by decide +kernel)) (by decide +kernel)
theorem wd_74 : Cond.methodLinkNest RX10 9 yX7_init RX10 ∈ mNest := List.mem_filter.mpr ⟨List.mem_of_getElem? (i := 74) (by decide +kernel), rfl⟩
theorem wd_387 : Cond.fieldLink RX10 10 "PuppetStage" "first" "LPuppetStage$Puppet;" ∈ mGood := mGood_in (List.mem_of_getElem? (i := 387) (by decide +kernel)) (by decide +kernel)
theorem wd_388 : Cond.fieldLink RX10 16 "PuppetStage" "second" "LPuppetStage$Puppet;" ∈ mGood := mGood_in (List.mem_of_getElem? (i := 388) (by decide +kernel)) (by decide +kernel)
theorem wd_287 : Cond.classLink RX10 19 RX3 ∈ mGood := mGood_in (List.mem_of_getElem? (i := 287) (by decide +kernel)) (by decide +kernel)
theorem wd_288 : Cond.instantiable RX3 4 ∈ mGood := mGood_in (List.mem_of_getElem? (i := 288) (by decide +kernel)) (by decide +kernel)
theorem wd_289 : Cond.methodLink RX10 21 yX3_init ∈ mGood := mGood_in (List.mem_of_getElem? (i := 289) (by decide +kernel)) (by decide +kernel)
theorem wd_290 : Cond.instanceMethod yX3_init ∈ mGood := mGood_in (List.mem_of_getElem? (i := 290) (by decide +kernel)) (by decide +kernel)
theorem wd_389 : Cond.fieldLink RX10 22 "PuppetStage" "history" "LPuppetStage$History;" ∈ mGood := mGood_in (List.mem_of_getElem? (i := 389) (by decide +kernel)) (by decide +kernel)
theorem wd_310 : Cond.classLink RX10 26 RX1 ∈ mGood := mGood_in (List.mem_of_getElem? (i := 310) (by decide +kernel)) (by decide +kernel)
theorem wd_312 : Cond.methodLinkNest RX10 28 yX1_init RX10 ∈ mNest := List.mem_filter.mpr ⟨List.mem_of_getElem? (i := 312) (by decide +kernel), rfl⟩
theorem wd_390 : Cond.fieldLink RX10 29 "PuppetStage" "figure" "LPuppetStage$Figure;" ∈ mGood := mGood_in (List.mem_of_getElem? (i := 390) (by decide +kernel)) (by decide +kernel)
theorem wd_391 : Cond.fieldLink RX10 33 "PuppetStage" "otherFigure" "LPuppetStage$Figure;" ∈ mGood := mGood_in (List.mem_of_getElem? (i := 391) (by decide +kernel)) (by decide +kernel)
theorem wd_356 : Cond.classLink RX10 36 RX8 ∈ mGood := mGood_in (List.mem_of_getElem? (i := 356) (by decide +kernel)) (by decide +kernel)
theorem wd_357 : Cond.instantiable RX8 1 ∈ mGood := mGood_in (List.mem_of_getElem? (i := 357) (by decide +kernel)) (by decide +kernel)
theorem wd_358 : Cond.methodLinkNest RX10 38 yX8_init RX10 ∈ mNest := List.mem_filter.mpr ⟨List.mem_of_getElem? (i := 358) (by decide +kernel), rfl⟩
theorem wd_359 : Cond.instanceMethod yX8_init ∈ mGood := mGood_in (List.mem_of_getElem? (i := 359) (by decide +kernel)) (by decide +kernel)
theorem wd_392 : Cond.fieldLink RX10 39 "PuppetStage" "settler" "LPuppetStage$Settler;" ∈ mGood := mGood_in (List.mem_of_getElem? (i := 392) (by decide +kernel)) (by decide +kernel)
theorem wd_368 : Cond.classLink RX10 43 RX6 ∈ mGood := mGood_in (List.mem_of_getElem? (i := 368) (by decide +kernel)) (by decide +kernel)
theorem wd_369 : Cond.instantiable RX6 4 ∈ mGood := mGood_in (List.mem_of_getElem? (i := 369) (by decide +kernel)) (by decide +kernel)
theorem wd_370 : Cond.methodLinkNest RX10 45 yX6_init RX10 ∈ mNest := List.mem_filter.mpr ⟨List.mem_of_getElem? (i := 370) (by decide +kernel), rfl⟩
theorem wd_371 : Cond.instanceMethod yX6_init ∈ mGood := mGood_in (List.mem_of_getElem? (i := 371) (by decide +kernel)) (by decide +kernel)
theorem wd_393 : Cond.fieldLink RX10 46 "PuppetStage" "line" "LPuppetStage$Line;" ∈ mGood := mGood_in (List.mem_of_getElem? (i := 393) (by decide +kernel)) (by decide +kernel)
theorem wd_394 : Cond.fieldLink RX10 50 "PuppetStage" "otherLine" "LPuppetStage$Line;" ∈ mGood := mGood_in (List.mem_of_getElem? (i := 394) (by decide +kernel)) (by decide +kernel)
theorem wd_395 : Cond.fieldLink RX10 53 "PuppetStage" "bendsBefore" "[I" ∈ mGood := mGood_in (List.mem_of_getElem? (i := 395) (by decide +kernel)) (by decide +kernel)
theorem wd_396 : Cond.fieldLink RX10 57 "PuppetStage" "bendsBest" "[I" ∈ mGood := mGood_in (List.mem_of_getElem? (i := 396) (by decide +kernel)) (by decide +kernel)
theorem wd_397 : Cond.fieldLink RX10 60 "PuppetStage" "restChanges" "J" ∈ mGood := mGood_in (List.mem_of_getElem? (i := 397) (by decide +kernel)) (by decide +kernel)
theorem wd_68 : Cond.code yX10_init cX10_init 1 none ∈ mGood := mGood_in (List.mem_of_getElem? (i := 68) (by decide +kernel)) (by decide +kernel)
theorem wd_428 : Cond.code yX10_puppetOf cX10_puppetOf 2 (some (.object "PuppetStage$Puppet")) ∈ mGood := mGood_in (List.mem_of_getElem? (i := 428) (by decide +kernel)) (by decide +kernel)
theorem wd_431 : Cond.code yX10_isWithin cX10_isWithin 3 (some .boolean) ∈ mGood := mGood_in (List.mem_of_getElem? (i := 431) (by decide +kernel)) (by decide +kernel)
theorem wd_425 : Cond.methodLink RX10 64 yX10_puppetOf ∈ mGood := mGood_in (List.mem_of_getElem? (i := 425) (by decide +kernel)) (by decide +kernel)
theorem wd_427 : Cond.instanceMethod yX10_puppetOf ∈ mGood := mGood_in (List.mem_of_getElem? (i := 427) (by decide +kernel)) (by decide +kernel)
theorem wd_0 : Cond.selects RX10 yX10_puppetOf yX10_puppetOf ∈ mGood := mGood_in (List.mem_of_getElem? (i := 0) (by decide +kernel)) (by decide +kernel)
theorem wd_257 : Cond.fieldLink RX10 68 "PuppetStage$Puppet" "limbs" "LPuppetStage$Limbs;" ∈ mGood := mGood_in (List.mem_of_getElem? (i := 257) (by decide +kernel)) (by decide +kernel)
theorem wd_100 : Cond.fieldLink RX10 72 "PuppetStage$Limbs" "count" "I" ∈ mGood := mGood_in (List.mem_of_getElem? (i := 100) (by decide +kernel)) (by decide +kernel)
theorem wd_429 : Cond.methodLink RX10 78 yX10_isWithin ∈ mGood := mGood_in (List.mem_of_getElem? (i := 429) (by decide +kernel)) (by decide +kernel)
theorem wd_430 : Cond.static yX10_isWithin ∈ mGood := mGood_in (List.mem_of_getElem? (i := 430) (by decide +kernel)) (by decide +kernel)
theorem wd_432 : Cond.constantLong RX10 82 (-9000000000000000001) ∈ mGood := mGood_in (List.mem_of_getElem? (i := 432) (by decide +kernel)) (by decide +kernel)
theorem wd_260 : Cond.fieldLink RX10 84 "PuppetStage$Puppet" "spans" "LPuppetStage$Spans;" ∈ mGood := mGood_in (List.mem_of_getElem? (i := 260) (by decide +kernel)) (by decide +kernel)
theorem wd_433 : Cond.methodLink RX10 88 yX9_allow ∈ mGood := mGood_in (List.mem_of_getElem? (i := 433) (by decide +kernel)) (by decide +kernel)
theorem wd_449 : Cond.constantLong RX10 94 (-9000000000000000002) ∈ mGood := mGood_in (List.mem_of_getElem? (i := 449) (by decide +kernel)) (by decide +kernel)
theorem wd_450 : Cond.constantLong RX10 96 (-9000000000000000003) ∈ mGood := mGood_in (List.mem_of_getElem? (i := 450) (by decide +kernel)) (by decide +kernel)
theorem wd_451 : Cond.methodLink RX10 98 yX3_keep ∈ mGood := mGood_in (List.mem_of_getElem? (i := 451) (by decide +kernel)) (by decide +kernel)
theorem wd_452 : Cond.instanceMethod yX3_keep ∈ mGood := mGood_in (List.mem_of_getElem? (i := 452) (by decide +kernel)) (by decide +kernel)
theorem wd_453 : Cond.selects RX3 yX3_keep yX3_keep ∈ mGood := mGood_in (List.mem_of_getElem? (i := 453) (by decide +kernel)) (by decide +kernel)
theorem wd_270 : Cond.fieldLink RX10 102 "PuppetStage$Puppet" "gesture" "LPuppetStage$Gesture;" ∈ mGood := mGood_in (List.mem_of_getElem? (i := 270) (by decide +kernel)) (by decide +kernel)
theorem wd_240 : Cond.fieldLink RX10 106 "PuppetStage$Gesture" "poses" "I" ∈ mGood := mGood_in (List.mem_of_getElem? (i := 240) (by decide +kernel)) (by decide +kernel)
theorem wd_497 : Cond.methodLink RX10 111 yX5_add ∈ mGood := mGood_in (List.mem_of_getElem? (i := 497) (by decide +kernel)) (by decide +kernel)
theorem wd_498 : Cond.instanceMethod yX5_add ∈ mGood := mGood_in (List.mem_of_getElem? (i := 498) (by decide +kernel)) (by decide +kernel)
theorem wd_499 : Cond.selects RX5 yX5_add yX5_add ∈ mGood := mGood_in (List.mem_of_getElem? (i := 499) (by decide +kernel)) (by decide +kernel)
theorem wd_424 : Cond.code yX10_limb cX10_limb 6 (some .long) ∈ mGood := mGood_in (List.mem_of_getElem? (i := 424) (by decide +kernel)) (by decide +kernel)
theorem wd_267 : Cond.fieldLink RX10 115 "PuppetStage$Puppet" "holds" "LPuppetStage$Holds;" ∈ mGood := mGood_in (List.mem_of_getElem? (i := 267) (by decide +kernel)) (by decide +kernel)
theorem wd_505 : Cond.methodLink RX10 119 yX4_removeAllOn ∈ mGood := mGood_in (List.mem_of_getElem? (i := 505) (by decide +kernel)) (by decide +kernel)
theorem wd_506 : Cond.instanceMethod yX4_removeAllOn ∈ mGood := mGood_in (List.mem_of_getElem? (i := 506) (by decide +kernel)) (by decide +kernel)
theorem wd_507 : Cond.selects RX4 yX4_removeAllOn yX4_removeAllOn ∈ mGood := mGood_in (List.mem_of_getElem? (i := 507) (by decide +kernel)) (by decide +kernel)
theorem wd_517 : Cond.methodLink RX10 125 yX5_removeLast ∈ mGood := mGood_in (List.mem_of_getElem? (i := 517) (by decide +kernel)) (by decide +kernel)
theorem wd_518 : Cond.instanceMethod yX5_removeLast ∈ mGood := mGood_in (List.mem_of_getElem? (i := 518) (by decide +kernel)) (by decide +kernel)
theorem wd_519 : Cond.selects RX5 yX5_removeLast yX5_removeLast ∈ mGood := mGood_in (List.mem_of_getElem? (i := 519) (by decide +kernel)) (by decide +kernel)
theorem wd_504 : Cond.code yX10_lose cX10_lose 3 (some .long) ∈ mGood := mGood_in (List.mem_of_getElem? (i := 504) (by decide +kernel)) (by decide +kernel)
theorem wd_527 : Cond.code yX10_isPlace cX10_isPlace 2 (some .boolean) ∈ mGood := mGood_in (List.mem_of_getElem? (i := 527) (by decide +kernel)) (by decide +kernel)
theorem wd_525 : Cond.methodLink RX10 129 yX10_isPlace ∈ mGood := mGood_in (List.mem_of_getElem? (i := 525) (by decide +kernel)) (by decide +kernel)
theorem wd_526 : Cond.static yX10_isPlace ∈ mGood := mGood_in (List.mem_of_getElem? (i := 526) (by decide +kernel)) (by decide +kernel)
theorem wd_106 : Cond.fieldLink RX10 132 "PuppetStage$Limbs" "pinX" "I" ∈ mGood := mGood_in (List.mem_of_getElem? (i := 106) (by decide +kernel)) (by decide +kernel)
theorem wd_109 : Cond.fieldLink RX10 135 "PuppetStage$Limbs" "pinY" "I" ∈ mGood := mGood_in (List.mem_of_getElem? (i := 109) (by decide +kernel)) (by decide +kernel)
theorem wd_524 : Cond.code yX10_pin cX10_pin 5 (some .long) ∈ mGood := mGood_in (List.mem_of_getElem? (i := 524) (by decide +kernel)) (by decide +kernel)
theorem wd_532 : Cond.methodLink RX10 138 yX9_begin ∈ mGood := mGood_in (List.mem_of_getElem? (i := 532) (by decide +kernel)) (by decide +kernel)
theorem wd_533 : Cond.instanceMethod yX9_begin ∈ mGood := mGood_in (List.mem_of_getElem? (i := 533) (by decide +kernel)) (by decide +kernel)
theorem wd_534 : Cond.selects RX9 yX9_begin yX9_begin ∈ mGood := mGood_in (List.mem_of_getElem? (i := 534) (by decide +kernel)) (by decide +kernel)
theorem wd_531 : Cond.code yX10_spans cX10_spans 4 (some .long) ∈ mGood := mGood_in (List.mem_of_getElem? (i := 531) (by decide +kernel)) (by decide +kernel)
theorem wd_542 : Cond.code yX10_isStep cX10_isStep 1 (some .boolean) ∈ mGood := mGood_in (List.mem_of_getElem? (i := 542) (by decide +kernel)) (by decide +kernel)
theorem wd_540 : Cond.methodLink RX10 141 yX10_isStep ∈ mGood := mGood_in (List.mem_of_getElem? (i := 540) (by decide +kernel)) (by decide +kernel)
theorem wd_541 : Cond.static yX10_isStep ∈ mGood := mGood_in (List.mem_of_getElem? (i := 541) (by decide +kernel)) (by decide +kernel)
theorem wd_140 : Cond.fieldLink RX10 145 "PuppetStage$Spans" "pairs" "I" ∈ mGood := mGood_in (List.mem_of_getElem? (i := 140) (by decide +kernel)) (by decide +kernel)
theorem wd_543 : Cond.constantLong RX10 148 (-9000000000000000011) ∈ mGood := mGood_in (List.mem_of_getElem? (i := 543) (by decide +kernel)) (by decide +kernel)
theorem wd_544 : Cond.methodLink RX10 150 yX9_has ∈ mGood := mGood_in (List.mem_of_getElem? (i := 544) (by decide +kernel)) (by decide +kernel)
theorem wd_545 : Cond.constantLong RX10 153 (-9000000000000000013) ∈ mGood := mGood_in (List.mem_of_getElem? (i := 545) (by decide +kernel)) (by decide +kernel)
theorem wd_546 : Cond.methodLink RX10 155 yX5_has ∈ mGood := mGood_in (List.mem_of_getElem? (i := 546) (by decide +kernel)) (by decide +kernel)
theorem wd_547 : Cond.instanceMethod yX5_has ∈ mGood := mGood_in (List.mem_of_getElem? (i := 547) (by decide +kernel)) (by decide +kernel)
theorem wd_548 : Cond.selects RX5 yX5_has yX5_has ∈ mGood := mGood_in (List.mem_of_getElem? (i := 548) (by decide +kernel)) (by decide +kernel)
theorem wd_98 : Cond.fieldLink RX10 156 "PuppetStage$Limbs" "bend" "[I" ∈ mGood := mGood_in (List.mem_of_getElem? (i := 98) (by decide +kernel)) (by decide +kernel)
theorem wd_135 : Cond.fieldLink RX10 159 "PuppetStage$Spans" "least" "[I" ∈ mGood := mGood_in (List.mem_of_getElem? (i := 135) (by decide +kernel)) (by decide +kernel)
theorem wd_137 : Cond.fieldLink RX10 162 "PuppetStage$Spans" "greatest" "[I" ∈ mGood := mGood_in (List.mem_of_getElem? (i := 137) (by decide +kernel)) (by decide +kernel)
theorem wd_539 : Cond.code yX10_span cX10_span 6 (some .long) ∈ mGood := mGood_in (List.mem_of_getElem? (i := 539) (by decide +kernel)) (by decide +kernel)
theorem wd_265 : Cond.fieldLink RX10 165 "PuppetStage$Puppet" "cross" "LPuppetStage$Cross;" ∈ mGood := mGood_in (List.mem_of_getElem? (i := 265) (by decide +kernel)) (by decide +kernel)
theorem wd_554 : Cond.methodLink RX10 169 yX0_put ∈ mGood := mGood_in (List.mem_of_getElem? (i := 554) (by decide +kernel)) (by decide +kernel)
theorem wd_553 : Cond.code yX10_cross cX10_cross 6 (some .long) ∈ mGood := mGood_in (List.mem_of_getElem? (i := 553) (by decide +kernel)) (by decide +kernel)
theorem wd_561 : Cond.code yX10_isBar cX10_isBar 1 (some .boolean) ∈ mGood := mGood_in (List.mem_of_getElem? (i := 561) (by decide +kernel)) (by decide +kernel)
theorem wd_559 : Cond.methodLink RX10 175 yX10_isBar ∈ mGood := mGood_in (List.mem_of_getElem? (i := 559) (by decide +kernel)) (by decide +kernel)
theorem wd_560 : Cond.static yX10_isBar ∈ mGood := mGood_in (List.mem_of_getElem? (i := 560) (by decide +kernel)) (by decide +kernel)
theorem wd_156 : Cond.fieldLink RX10 178 "PuppetStage$Cross" "barA" "[I" ∈ mGood := mGood_in (List.mem_of_getElem? (i := 156) (by decide +kernel)) (by decide +kernel)
theorem wd_159 : Cond.fieldLink RX10 181 "PuppetStage$Cross" "barB" "[I" ∈ mGood := mGood_in (List.mem_of_getElem? (i := 159) (by decide +kernel)) (by decide +kernel)
theorem wd_558 : Cond.code yX10_bar cX10_bar 6 (some .long) ∈ mGood := mGood_in (List.mem_of_getElem? (i := 558) (by decide +kernel)) (by decide +kernel)
theorem wd_565 : Cond.code yX10_bend cX10_bend 6 (some .long) ∈ mGood := mGood_in (List.mem_of_getElem? (i := 565) (by decide +kernel)) (by decide +kernel)
theorem wd_273 : Cond.fieldLink RX10 184 "PuppetStage$Puppet" "hand" "I" ∈ mGood := mGood_in (List.mem_of_getElem? (i := 273) (by decide +kernel)) (by decide +kernel)
theorem wd_569 : Cond.code yX10_hand cX10_hand 5 (some .long) ∈ mGood := mGood_in (List.mem_of_getElem? (i := 569) (by decide +kernel)) (by decide +kernel)
theorem wd_205 : Cond.fieldLink RX10 187 "PuppetStage$Holds" "count" "I" ∈ mGood := mGood_in (List.mem_of_getElem? (i := 205) (by decide +kernel)) (by decide +kernel)
theorem wd_162 : Cond.fieldLink RX10 188 "PuppetStage$Cross" "x" "I" ∈ mGood := mGood_in (List.mem_of_getElem? (i := 162) (by decide +kernel)) (by decide +kernel)
theorem wd_165 : Cond.fieldLink RX10 191 "PuppetStage$Cross" "y" "I" ∈ mGood := mGood_in (List.mem_of_getElem? (i := 165) (by decide +kernel)) (by decide +kernel)
theorem wd_169 : Cond.fieldLink RX10 194 "PuppetStage$Cross" "tilt" "I" ∈ mGood := mGood_in (List.mem_of_getElem? (i := 169) (by decide +kernel)) (by decide +kernel)
theorem wd_238 : Cond.fieldLink RX10 197 "PuppetStage$Gesture" "ticks" "I" ∈ mGood := mGood_in (List.mem_of_getElem? (i := 238) (by decide +kernel)) (by decide +kernel)
theorem wd_574 : Cond.constantLong RX10 200 (-9000000000000000005) ∈ mGood := mGood_in (List.mem_of_getElem? (i := 574) (by decide +kernel)) (by decide +kernel)
theorem wd_573 : Cond.code yX10_about cX10_about 4 (some .long) ∈ mGood := mGood_in (List.mem_of_getElem? (i := 573) (by decide +kernel)) (by decide +kernel)
theorem wd_86 : Cond.fieldLink RX10 202 "PuppetStage$Limbs" "length" "[I" ∈ mGood := mGood_in (List.mem_of_getElem? (i := 86) (by decide +kernel)) (by decide +kernel)
theorem wd_89 : Cond.fieldLink RX10 205 "PuppetStage$Limbs" "weight" "[I" ∈ mGood := mGood_in (List.mem_of_getElem? (i := 89) (by decide +kernel)) (by decide +kernel)
theorem wd_92 : Cond.fieldLink RX10 208 "PuppetStage$Limbs" "parent" "[I" ∈ mGood := mGood_in (List.mem_of_getElem? (i := 92) (by decide +kernel)) (by decide +kernel)
theorem wd_579 : Cond.methodLink RX10 211 yX1_layLimbs ∈ mGood := mGood_in (List.mem_of_getElem? (i := 579) (by decide +kernel)) (by decide +kernel)
theorem wd_318 : Cond.fieldLink RX10 215 "PuppetStage$Figure" "direction" "[I" ∈ mGood := mGood_in (List.mem_of_getElem? (i := 318) (by decide +kernel)) (by decide +kernel)
theorem wd_599 : Cond.methodLink RX10 218 yX9_leastOf ∈ mGood := mGood_in (List.mem_of_getElem? (i := 599) (by decide +kernel)) (by decide +kernel)
theorem wd_600 : Cond.methodLink RX10 222 yX9_greatestOf ∈ mGood := mGood_in (List.mem_of_getElem? (i := 600) (by decide +kernel)) (by decide +kernel)
theorem wd_578 : Cond.code yX10_told cX10_told 5 (some .long) ∈ mGood := mGood_in (List.mem_of_getElem? (i := 578) (by decide +kernel)) (by decide +kernel)
theorem wd_605 : Cond.methodLink RX10 225 yX1_spotX ∈ mGood := mGood_in (List.mem_of_getElem? (i := 605) (by decide +kernel)) (by decide +kernel)
theorem wd_606 : Cond.methodLink RX10 229 yX1_spotY ∈ mGood := mGood_in (List.mem_of_getElem? (i := 606) (by decide +kernel)) (by decide +kernel)
theorem wd_604 : Cond.code yX10_at cX10_at 6 (some .long) ∈ mGood := mGood_in (List.mem_of_getElem? (i := 604) (by decide +kernel)) (by decide +kernel)
theorem wd_611 : Cond.methodLink RX10 232 yX1_layBars ∈ mGood := mGood_in (List.mem_of_getElem? (i := 611) (by decide +kernel)) (by decide +kernel)
theorem wd_328 : Cond.fieldLink RX10 236 "PuppetStage$Figure" "barX" "[I" ∈ mGood := mGood_in (List.mem_of_getElem? (i := 328) (by decide +kernel)) (by decide +kernel)
theorem wd_330 : Cond.fieldLink RX10 239 "PuppetStage$Figure" "barY" "[I" ∈ mGood := mGood_in (List.mem_of_getElem? (i := 330) (by decide +kernel)) (by decide +kernel)
theorem wd_610 : Cond.code yX10_barAt cX10_barAt 5 (some .long) ∈ mGood := mGood_in (List.mem_of_getElem? (i := 610) (by decide +kernel)) (by decide +kernel)
theorem wd_621 : Cond.code yX10_isKind cX10_isKind 1 (some .boolean) ∈ mGood := mGood_in (List.mem_of_getElem? (i := 621) (by decide +kernel)) (by decide +kernel)
theorem wd_619 : Cond.methodLink RX10 242 yX10_isKind ∈ mGood := mGood_in (List.mem_of_getElem? (i := 619) (by decide +kernel)) (by decide +kernel)
theorem wd_620 : Cond.static yX10_isKind ∈ mGood := mGood_in (List.mem_of_getElem? (i := 620) (by decide +kernel)) (by decide +kernel)
theorem wd_622 : Cond.methodLink RX10 245 yX4_add ∈ mGood := mGood_in (List.mem_of_getElem? (i := 622) (by decide +kernel)) (by decide +kernel)
theorem wd_623 : Cond.instanceMethod yX4_add ∈ mGood := mGood_in (List.mem_of_getElem? (i := 623) (by decide +kernel)) (by decide +kernel)
theorem wd_624 : Cond.selects RX4 yX4_add yX4_add ∈ mGood := mGood_in (List.mem_of_getElem? (i := 624) (by decide +kernel)) (by decide +kernel)
theorem wd_618 : Cond.code yX10_hold cX10_hold 9 (some .long) ∈ mGood := mGood_in (List.mem_of_getElem? (i := 618) (by decide +kernel)) (by decide +kernel)
theorem wd_630 : Cond.methodLink RX10 248 yX4_has ∈ mGood := mGood_in (List.mem_of_getElem? (i := 630) (by decide +kernel)) (by decide +kernel)
theorem wd_631 : Cond.instanceMethod yX4_has ∈ mGood := mGood_in (List.mem_of_getElem? (i := 631) (by decide +kernel)) (by decide +kernel)
theorem wd_632 : Cond.selects RX4 yX4_has yX4_has ∈ mGood := mGood_in (List.mem_of_getElem? (i := 632) (by decide +kernel)) (by decide +kernel)
theorem wd_189 : Cond.fieldLink RX10 249 "PuppetStage$Holds" "kind" "[I" ∈ mGood := mGood_in (List.mem_of_getElem? (i := 189) (by decide +kernel)) (by decide +kernel)
theorem wd_634 : Cond.methodLink RX10 252 yX4_remove ∈ mGood := mGood_in (List.mem_of_getElem? (i := 634) (by decide +kernel)) (by decide +kernel)
theorem wd_629 : Cond.code yX10_drop cX10_drop 5 (some .long) ∈ mGood := mGood_in (List.mem_of_getElem? (i := 629) (by decide +kernel)) (by decide +kernel)
theorem wd_200 : Cond.fieldLink RX10 255 "PuppetStage$Holds" "length" "[I" ∈ mGood := mGood_in (List.mem_of_getElem? (i := 200) (by decide +kernel)) (by decide +kernel)
theorem wd_202 : Cond.fieldLink RX10 256 "PuppetStage$Holds" "taken" "[I" ∈ mGood := mGood_in (List.mem_of_getElem? (i := 202) (by decide +kernel)) (by decide +kernel)
theorem wd_638 : Cond.code yX10_pluck cX10_pluck 6 (some .long) ∈ mGood := mGood_in (List.mem_of_getElem? (i := 638) (by decide +kernel)) (by decide +kernel)
theorem wd_643 : Cond.methodLink RX10 259 yX1_lay ∈ mGood := mGood_in (List.mem_of_getElem? (i := 643) (by decide +kernel)) (by decide +kernel)
theorem wd_644 : Cond.instanceMethod yX1_lay ∈ mGood := mGood_in (List.mem_of_getElem? (i := 644) (by decide +kernel)) (by decide +kernel)
theorem wd_645 : Cond.selects RX1 yX1_lay yX1_lay ∈ mGood := mGood_in (List.mem_of_getElem? (i := 645) (by decide +kernel)) (by decide +kernel)
theorem wd_649 : Cond.methodLink RX10 263 yX1_far ∈ mGood := mGood_in (List.mem_of_getElem? (i := 649) (by decide +kernel)) (by decide +kernel)
theorem wd_195 : Cond.fieldLink RX10 267 "PuppetStage$Holds" "limb" "[I" ∈ mGood := mGood_in (List.mem_of_getElem? (i := 195) (by decide +kernel)) (by decide +kernel)
theorem wd_198 : Cond.fieldLink RX10 270 "PuppetStage$Holds" "spot" "[I" ∈ mGood := mGood_in (List.mem_of_getElem? (i := 198) (by decide +kernel)) (by decide +kernel)
theorem wd_192 : Cond.fieldLink RX10 273 "PuppetStage$Holds" "bar" "[I" ∈ mGood := mGood_in (List.mem_of_getElem? (i := 192) (by decide +kernel)) (by decide +kernel)
theorem wd_669 : Cond.methodLink RX10 276 yX1_tooLong ∈ mGood := mGood_in (List.mem_of_getElem? (i := 669) (by decide +kernel)) (by decide +kernel)
theorem wd_680 : Cond.methodLink RX10 280 yX4_isTaut ∈ mGood := mGood_in (List.mem_of_getElem? (i := 680) (by decide +kernel)) (by decide +kernel)
theorem wd_681 : Cond.instanceMethod yX4_isTaut ∈ mGood := mGood_in (List.mem_of_getElem? (i := 681) (by decide +kernel)) (by decide +kernel)
theorem wd_682 : Cond.selects RX4 yX4_isTaut yX4_isTaut ∈ mGood := mGood_in (List.mem_of_getElem? (i := 682) (by decide +kernel)) (by decide +kernel)
theorem wd_642 : Cond.code yX10_holds cX10_holds 7 (some .long) ∈ mGood := mGood_in (List.mem_of_getElem? (i := 642) (by decide +kernel)) (by decide +kernel)
theorem wd_688 : Cond.code yX10_isOf cX10_isOf 7 (some .long) ∈ mGood := mGood_in (List.mem_of_getElem? (i := 688) (by decide +kernel)) (by decide +kernel)
theorem wd_696 : Cond.code yX10_excessOf cX10_excessOf 5 (some .long) ∈ mGood := mGood_in (List.mem_of_getElem? (i := 696) (by decide +kernel)) (by decide +kernel)
theorem wd_704 : Cond.code yX10_countTooLong cX10_countTooLong 4 (some .int) ∈ mGood := mGood_in (List.mem_of_getElem? (i := 704) (by decide +kernel)) (by decide +kernel)
theorem wd_708 : Cond.code yX10_countTaut cX10_countTaut 4 (some .int) ∈ mGood := mGood_in (List.mem_of_getElem? (i := 708) (by decide +kernel)) (by decide +kernel)
theorem wd_693 : Cond.methodLink RX10 284 yX10_excessOf ∈ mGood := mGood_in (List.mem_of_getElem? (i := 693) (by decide +kernel)) (by decide +kernel)
theorem wd_695 : Cond.instanceMethod yX10_excessOf ∈ mGood := mGood_in (List.mem_of_getElem? (i := 695) (by decide +kernel)) (by decide +kernel)
theorem wd_2 : Cond.selects RX10 yX10_excessOf yX10_excessOf ∈ mGood := mGood_in (List.mem_of_getElem? (i := 2) (by decide +kernel)) (by decide +kernel)
theorem wd_697 : Cond.methodLink RX10 288 yX1_depthOf ∈ mGood := mGood_in (List.mem_of_getElem? (i := 697) (by decide +kernel)) (by decide +kernel)
theorem wd_701 : Cond.methodLink RX10 292 yX10_countTooLong ∈ mGood := mGood_in (List.mem_of_getElem? (i := 701) (by decide +kernel)) (by decide +kernel)
theorem wd_703 : Cond.instanceMethod yX10_countTooLong ∈ mGood := mGood_in (List.mem_of_getElem? (i := 703) (by decide +kernel)) (by decide +kernel)
theorem wd_3 : Cond.selects RX10 yX10_countTooLong yX10_countTooLong ∈ mGood := mGood_in (List.mem_of_getElem? (i := 3) (by decide +kernel)) (by decide +kernel)
theorem wd_705 : Cond.methodLink RX10 296 yX10_countTaut ∈ mGood := mGood_in (List.mem_of_getElem? (i := 705) (by decide +kernel)) (by decide +kernel)
theorem wd_707 : Cond.instanceMethod yX10_countTaut ∈ mGood := mGood_in (List.mem_of_getElem? (i := 707) (by decide +kernel)) (by decide +kernel)
theorem wd_4 : Cond.selects RX10 yX10_countTaut yX10_countTaut ∈ mGood := mGood_in (List.mem_of_getElem? (i := 4) (by decide +kernel)) (by decide +kernel)
theorem wd_692 : Cond.code yX10_lies cX10_lies 4 (some .long) ∈ mGood := mGood_in (List.mem_of_getElem? (i := 692) (by decide +kernel)) (by decide +kernel)
theorem wd_712 : Cond.code yX10_why cX10_why 10 (some .long) ∈ mGood := mGood_in (List.mem_of_getElem? (i := 712) (by decide +kernel)) (by decide +kernel)
theorem wd_717 : Cond.methodLink RX10 299 yX8_settle ∈ mGood := mGood_in (List.mem_of_getElem? (i := 717) (by decide +kernel)) (by decide +kernel)
theorem wd_718 : Cond.instanceMethod yX8_settle ∈ mGood := mGood_in (List.mem_of_getElem? (i := 718) (by decide +kernel)) (by decide +kernel)
theorem wd_719 : Cond.selects RX8 yX8_settle yX8_settle ∈ mGood := mGood_in (List.mem_of_getElem? (i := 719) (by decide +kernel)) (by decide +kernel)
theorem wd_716 : Cond.code yX10_rest cX10_rest 5 (some .long) ∈ mGood := mGood_in (List.mem_of_getElem? (i := 716) (by decide +kernel)) (by decide +kernel)
theorem wd_749 : Cond.methodLink RX10 303 yX10_copyRow ∈ mGood := mGood_in (List.mem_of_getElem? (i := 749) (by decide +kernel)) (by decide +kernel)
theorem wd_748 : Cond.code yX10_isStill cX10_isStill 4 (some .long) ∈ mGood := mGood_in (List.mem_of_getElem? (i := 748) (by decide +kernel)) (by decide +kernel)
theorem wd_754 : Cond.methodLink RX10 307 yX8_findLowest ∈ mGood := mGood_in (List.mem_of_getElem? (i := 754) (by decide +kernel)) (by decide +kernel)
theorem wd_755 : Cond.instanceMethod yX8_findLowest ∈ mGood := mGood_in (List.mem_of_getElem? (i := 755) (by decide +kernel)) (by decide +kernel)
theorem wd_756 : Cond.selects RX8 yX8_findLowest yX8_findLowest ∈ mGood := mGood_in (List.mem_of_getElem? (i := 756) (by decide +kernel)) (by decide +kernel)
theorem wd_753 : Cond.code yX10_lowest cX10_lowest 5 (some .long) ∈ mGood := mGood_in (List.mem_of_getElem? (i := 753) (by decide +kernel)) (by decide +kernel)
theorem wd_765 : Cond.methodLink RX10 311 yX2_add ∈ mGood := mGood_in (List.mem_of_getElem? (i := 765) (by decide +kernel)) (by decide +kernel)
theorem wd_766 : Cond.instanceMethod yX2_add ∈ mGood := mGood_in (List.mem_of_getElem? (i := 766) (by decide +kernel)) (by decide +kernel)
theorem wd_767 : Cond.selects RX2 yX2_add yX2_add ∈ mGood := mGood_in (List.mem_of_getElem? (i := 767) (by decide +kernel)) (by decide +kernel)
theorem wd_764 : Cond.code yX10_tick cX10_tick 6 (some .long) ∈ mGood := mGood_in (List.mem_of_getElem? (i := 764) (by decide +kernel)) (by decide +kernel)
theorem wd_772 : Cond.code yX10_calm cX10_calm 4 (some .long) ∈ mGood := mGood_in (List.mem_of_getElem? (i := 772) (by decide +kernel)) (by decide +kernel)
theorem wd_228 : Cond.fieldLink RX10 312 "PuppetStage$Gesture" "x" "[I" ∈ mGood := mGood_in (List.mem_of_getElem? (i := 228) (by decide +kernel)) (by decide +kernel)
theorem wd_230 : Cond.fieldLink RX10 314 "PuppetStage$Gesture" "y" "[I" ∈ mGood := mGood_in (List.mem_of_getElem? (i := 230) (by decide +kernel)) (by decide +kernel)
theorem wd_233 : Cond.fieldLink RX10 316 "PuppetStage$Gesture" "tilt" "[I" ∈ mGood := mGood_in (List.mem_of_getElem? (i := 233) (by decide +kernel)) (by decide +kernel)
theorem wd_777 : Cond.methodLink RX10 318 yX2_keepPose ∈ mGood := mGood_in (List.mem_of_getElem? (i := 777) (by decide +kernel)) (by decide +kernel)
theorem wd_778 : Cond.instanceMethod yX2_keepPose ∈ mGood := mGood_in (List.mem_of_getElem? (i := 778) (by decide +kernel)) (by decide +kernel)
theorem wd_779 : Cond.selects RX2 yX2_keepPose yX2_keepPose ∈ mGood := mGood_in (List.mem_of_getElem? (i := 779) (by decide +kernel)) (by decide +kernel)
theorem wd_776 : Cond.code yX10_play cX10_play 7 (some .long) ∈ mGood := mGood_in (List.mem_of_getElem? (i := 776) (by decide +kernel)) (by decide +kernel)
theorem wd_785 : Cond.methodLink RX10 322 yX2_bendOf ∈ mGood := mGood_in (List.mem_of_getElem? (i := 785) (by decide +kernel)) (by decide +kernel)
theorem wd_784 : Cond.code yX10_pose cX10_pose 5 (some .long) ∈ mGood := mGood_in (List.mem_of_getElem? (i := 784) (by decide +kernel)) (by decide +kernel)
theorem wd_793 : Cond.methodLink RX10 325 yX2_comesRound ∈ mGood := mGood_in (List.mem_of_getElem? (i := 793) (by decide +kernel)) (by decide +kernel)
theorem wd_794 : Cond.instanceMethod yX2_comesRound ∈ mGood := mGood_in (List.mem_of_getElem? (i := 794) (by decide +kernel)) (by decide +kernel)
theorem wd_795 : Cond.selects RX2 yX2_comesRound yX2_comesRound ∈ mGood := mGood_in (List.mem_of_getElem? (i := 795) (by decide +kernel)) (by decide +kernel)
theorem wd_792 : Cond.code yX10_round cX10_round 3 (some .long) ∈ mGood := mGood_in (List.mem_of_getElem? (i := 792) (by decide +kernel)) (by decide +kernel)
theorem wd_802 : Cond.methodLink RX10 328 Lib.Math.max.name ∈ mGood := mGood_in (List.mem_of_getElem? (i := 802) (by decide +kernel)) (by decide +kernel)
theorem wd_803 : Cond.static Lib.Math.max.name ∈ mGood := mGood_in (List.mem_of_getElem? (i := 803) (by decide +kernel)) (by decide +kernel)
theorem wd_804 : Cond.code Lib.Math.max.name Lib.Math.max.code 2 (some .int) ∈ mGood := mGood_in (List.mem_of_getElem? (i := 804) (by decide +kernel)) (by decide +kernel)
theorem wd_805 : Cond.constantLong RX10 336 (1000000000000000000) ∈ mGood := mGood_in (List.mem_of_getElem? (i := 805) (by decide +kernel)) (by decide +kernel)
theorem wd_324 : Cond.fieldLink RX10 338 "PuppetStage$Figure" "endX" "[I" ∈ mGood := mGood_in (List.mem_of_getElem? (i := 324) (by decide +kernel)) (by decide +kernel)
theorem wd_326 : Cond.fieldLink RX10 341 "PuppetStage$Figure" "endY" "[I" ∈ mGood := mGood_in (List.mem_of_getElem? (i := 326) (by decide +kernel)) (by decide +kernel)
theorem wd_801 : Cond.code yX10_reach cX10_reach 14 (some .long) ∈ mGood := mGood_in (List.mem_of_getElem? (i := 801) (by decide +kernel)) (by decide +kernel)
theorem wd_814 : Cond.methodLink RX10 373 yX1_drawString ∈ mGood := mGood_in (List.mem_of_getElem? (i := 814) (by decide +kernel)) (by decide +kernel)
theorem wd_815 : Cond.instanceMethod yX1_drawString ∈ mGood := mGood_in (List.mem_of_getElem? (i := 815) (by decide +kernel)) (by decide +kernel)
theorem wd_816 : Cond.selects RX1 yX1_drawString yX1_drawString ∈ mGood := mGood_in (List.mem_of_getElem? (i := 816) (by decide +kernel)) (by decide +kernel)
theorem wd_822 : Cond.methodLink RX10 377 yX6_goesThrough ∈ mGood := mGood_in (List.mem_of_getElem? (i := 822) (by decide +kernel)) (by decide +kernel)
theorem wd_823 : Cond.instanceMethod yX6_goesThrough ∈ mGood := mGood_in (List.mem_of_getElem? (i := 823) (by decide +kernel)) (by decide +kernel)
theorem wd_824 : Cond.selects RX6 yX6_goesThrough yX6_goesThrough ∈ mGood := mGood_in (List.mem_of_getElem? (i := 824) (by decide +kernel)) (by decide +kernel)
theorem wd_813 : Cond.code yX10_areTangled cX10_areTangled 4 (some .boolean) ∈ mGood := mGood_in (List.mem_of_getElem? (i := 813) (by decide +kernel)) (by decide +kernel)
theorem wd_810 : Cond.methodLink RX10 348 yX10_areTangled ∈ mGood := mGood_in (List.mem_of_getElem? (i := 810) (by decide +kernel)) (by decide +kernel)
theorem wd_812 : Cond.instanceMethod yX10_areTangled ∈ mGood := mGood_in (List.mem_of_getElem? (i := 812) (by decide +kernel)) (by decide +kernel)
theorem wd_8 : Cond.selects RX10 yX10_areTangled yX10_areTangled ∈ mGood := mGood_in (List.mem_of_getElem? (i := 8) (by decide +kernel)) (by decide +kernel)
theorem wd_809 : Cond.code yX10_tangle cX10_tangle 5 (some .long) ∈ mGood := mGood_in (List.mem_of_getElem? (i := 809) (by decide +kernel)) (by decide +kernel)
theorem wd_841 : Cond.methodLink RX10 352 yX1_drawLimb ∈ mGood := mGood_in (List.mem_of_getElem? (i := 841) (by decide +kernel)) (by decide +kernel)
theorem wd_842 : Cond.instanceMethod yX1_drawLimb ∈ mGood := mGood_in (List.mem_of_getElem? (i := 842) (by decide +kernel)) (by decide +kernel)
theorem wd_843 : Cond.selects RX1 yX1_drawLimb yX1_drawLimb ∈ mGood := mGood_in (List.mem_of_getElem? (i := 843) (by decide +kernel)) (by decide +kernel)
theorem wd_845 : Cond.methodLink RX10 356 yX6_touches ∈ mGood := mGood_in (List.mem_of_getElem? (i := 845) (by decide +kernel)) (by decide +kernel)
theorem wd_846 : Cond.instanceMethod yX6_touches ∈ mGood := mGood_in (List.mem_of_getElem? (i := 846) (by decide +kernel)) (by decide +kernel)
theorem wd_847 : Cond.selects RX6 yX6_touches yX6_touches ∈ mGood := mGood_in (List.mem_of_getElem? (i := 847) (by decide +kernel)) (by decide +kernel)
theorem wd_840 : Cond.code yX10_meet cX10_meet 3 (some .long) ∈ mGood := mGood_in (List.mem_of_getElem? (i := 840) (by decide +kernel)) (by decide +kernel)
theorem wd_858 : Cond.methodLink RX10 360 yX7_hasMirrorImage ∈ mGood := mGood_in (List.mem_of_getElem? (i := 858) (by decide +kernel)) (by decide +kernel)
theorem wd_859 : Cond.instanceMethod yX7_hasMirrorImage ∈ mGood := mGood_in (List.mem_of_getElem? (i := 859) (by decide +kernel)) (by decide +kernel)
theorem wd_860 : Cond.selects RX7 yX7_hasMirrorImage yX7_hasMirrorImage ∈ mGood := mGood_in (List.mem_of_getElem? (i := 860) (by decide +kernel)) (by decide +kernel)
theorem wd_865 : Cond.methodLink RX10 364 yX7_turnOver ∈ mGood := mGood_in (List.mem_of_getElem? (i := 865) (by decide +kernel)) (by decide +kernel)
theorem wd_866 : Cond.instanceMethod yX7_turnOver ∈ mGood := mGood_in (List.mem_of_getElem? (i := 866) (by decide +kernel)) (by decide +kernel)
theorem wd_867 : Cond.selects RX7 yX7_turnOver yX7_turnOver ∈ mGood := mGood_in (List.mem_of_getElem? (i := 867) (by decide +kernel)) (by decide +kernel)
theorem wd_857 : Cond.code yX10_mirror cX10_mirror 3 (some .long) ∈ mGood := mGood_in (List.mem_of_getElem? (i := 857) (by decide +kernel)) (by decide +kernel)
theorem wd_300 : Cond.fieldLink RX10 367 "PuppetStage$History" "kept" "I" ∈ mGood := mGood_in (List.mem_of_getElem? (i := 300) (by decide +kernel)) (by decide +kernel)
theorem wd_894 : Cond.methodLink RX10 370 yX3_takeBack ∈ mGood := mGood_in (List.mem_of_getElem? (i := 894) (by decide +kernel)) (by decide +kernel)
theorem wd_895 : Cond.instanceMethod yX3_takeBack ∈ mGood := mGood_in (List.mem_of_getElem? (i := 895) (by decide +kernel)) (by decide +kernel)
theorem wd_896 : Cond.selects RX3 yX3_takeBack yX3_takeBack ∈ mGood := mGood_in (List.mem_of_getElem? (i := 896) (by decide +kernel)) (by decide +kernel)
theorem wd_893 : Cond.code yX10_undo cX10_undo 1 (some .long) ∈ mGood := mGood_in (List.mem_of_getElem? (i := 893) (by decide +kernel)) (by decide +kernel)
theorem wd_901 : Cond.code yX10_count cX10_count 2 (some .long) ∈ mGood := mGood_in (List.mem_of_getElem? (i := 901) (by decide +kernel)) (by decide +kernel)
theorem wd_916 : Cond.fieldLink RX11 16 "PuppetStageModel" "sines" "[I" ∈ mGood := mGood_in (List.mem_of_getElem? (i := 916) (by decide +kernel)) (by decide +kernel)
theorem wd_60 : Cond.initialized RX11 ∈ mGood := mGood_in (List.mem_of_getElem? (i := 60) (by decide +kernel)) (by decide +kernel)
theorem wd_911 : Cond.code yX11_sine cX11_sine 3 none ∈ mGood := mGood_in (List.mem_of_getElem? (i := 911) (by decide +kernel)) (by decide +kernel)
theorem wd_907 : Cond.methodLink RX11 1 objectInit ∈ mGood := mGood_in (List.mem_of_getElem? (i := 907) (by decide +kernel)) (by decide +kernel)
theorem wd_912 : Cond.fieldLink RX11 7 "PuppetStageModel" "s" "[I" ∈ mGood := mGood_in (List.mem_of_getElem? (i := 912) (by decide +kernel)) (by decide +kernel)
theorem wd_913 : Cond.fieldLink RX11 13 "PuppetStageModel" "before" "[I" ∈ mGood := mGood_in (List.mem_of_getElem? (i := 913) (by decide +kernel)) (by decide +kernel)
theorem wd_979 : Cond.arrayClass .long ∈ mGood := mGood_in (List.mem_of_getElem? (i := 979) (by decide +kernel)) (by decide +kernel)
theorem wd_917 : Cond.fieldLink RX11 19 "PuppetStageModel" "fromX" "[J" ∈ mGood := mGood_in (List.mem_of_getElem? (i := 917) (by decide +kernel)) (by decide +kernel)
theorem wd_918 : Cond.fieldLink RX11 23 "PuppetStageModel" "fromY" "[J" ∈ mGood := mGood_in (List.mem_of_getElem? (i := 918) (by decide +kernel)) (by decide +kernel)
theorem wd_919 : Cond.fieldLink RX11 26 "PuppetStageModel" "toX" "[J" ∈ mGood := mGood_in (List.mem_of_getElem? (i := 919) (by decide +kernel)) (by decide +kernel)
theorem wd_920 : Cond.fieldLink RX11 29 "PuppetStageModel" "toY" "[J" ∈ mGood := mGood_in (List.mem_of_getElem? (i := 920) (by decide +kernel)) (by decide +kernel)
theorem wd_921 : Cond.fieldLink RX11 32 "PuppetStageModel" "way" "[I" ∈ mGood := mGood_in (List.mem_of_getElem? (i := 921) (by decide +kernel)) (by decide +kernel)
theorem wd_924 : Cond.fieldLink RX11 35 "PuppetStageModel" "bends" "[I" ∈ mGood := mGood_in (List.mem_of_getElem? (i := 924) (by decide +kernel)) (by decide +kernel)
theorem wd_925 : Cond.fieldLink RX11 38 "PuppetStageModel" "found" "[I" ∈ mGood := mGood_in (List.mem_of_getElem? (i := 925) (by decide +kernel)) (by decide +kernel)
theorem wd_908 : Cond.methodLink RX11 41 yX11_sine ∈ mGood := mGood_in (List.mem_of_getElem? (i := 908) (by decide +kernel)) (by decide +kernel)
theorem wd_910 : Cond.instanceMethod yX11_sine ∈ mGood := mGood_in (List.mem_of_getElem? (i := 910) (by decide +kernel)) (by decide +kernel)
theorem wd_11 : Cond.selects RX11 yX11_sine yX11_sine ∈ mGood := mGood_in (List.mem_of_getElem? (i := 11) (by decide +kernel)) (by decide +kernel)
theorem wd_906 : Cond.code yX11_init cX11_init 2 none ∈ mGood := mGood_in (List.mem_of_getElem? (i := 906) (by decide +kernel)) (by decide +kernel)
theorem wd_994 : Cond.code yX11_isIn cX11_isIn 3 (some .boolean) ∈ mGood := mGood_in (List.mem_of_getElem? (i := 994) (by decide +kernel)) (by decide +kernel)
theorem wd_992 : Cond.methodLink RX11 45 yX11_isIn ∈ mGood := mGood_in (List.mem_of_getElem? (i := 992) (by decide +kernel)) (by decide +kernel)
theorem wd_993 : Cond.static yX11_isIn ∈ mGood := mGood_in (List.mem_of_getElem? (i := 993) (by decide +kernel)) (by decide +kernel)
theorem wd_991 : Cond.code yX11_isPuppet cX11_isPuppet 1 (some .boolean) ∈ mGood := mGood_in (List.mem_of_getElem? (i := 991) (by decide +kernel)) (by decide +kernel)
theorem wd_998 : Cond.code yX11_get cX11_get 3 (some .int) ∈ mGood := mGood_in (List.mem_of_getElem? (i := 998) (by decide +kernel)) (by decide +kernel)
theorem wd_1016 : Cond.code yX11_put cX11_put 4 none ∈ mGood := mGood_in (List.mem_of_getElem? (i := 1016) (by decide +kernel)) (by decide +kernel)
theorem wd_989 : Cond.methodLink RX11 49 yX11_isPuppet ∈ mGood := mGood_in (List.mem_of_getElem? (i := 989) (by decide +kernel)) (by decide +kernel)
theorem wd_990 : Cond.static yX11_isPuppet ∈ mGood := mGood_in (List.mem_of_getElem? (i := 990) (by decide +kernel)) (by decide +kernel)
theorem wd_995 : Cond.methodLink RX11 53 yX11_get ∈ mGood := mGood_in (List.mem_of_getElem? (i := 995) (by decide +kernel)) (by decide +kernel)
theorem wd_997 : Cond.instanceMethod yX11_get ∈ mGood := mGood_in (List.mem_of_getElem? (i := 997) (by decide +kernel)) (by decide +kernel)
theorem wd_12 : Cond.selects RX11 yX11_get yX11_get ∈ mGood := mGood_in (List.mem_of_getElem? (i := 12) (by decide +kernel)) (by decide +kernel)
theorem wd_1065 : Cond.code yX11_isLimb cX11_isLimb 3 (some .boolean) ∈ mGood := mGood_in (List.mem_of_getElem? (i := 1065) (by decide +kernel)) (by decide +kernel)
theorem wd_1131 : Cond.code yX11_isHold cX11_isHold 3 (some .boolean) ∈ mGood := mGood_in (List.mem_of_getElem? (i := 1131) (by decide +kernel)) (by decide +kernel)
theorem wd_1024 : Cond.code yX11_of cX11_of 4 (some .int) ∈ mGood := mGood_in (List.mem_of_getElem? (i := 1024) (by decide +kernel)) (by decide +kernel)
theorem wd_914 : Cond.fieldLink RX11 57 "PuppetStageModel" "kept" "I" ∈ mGood := mGood_in (List.mem_of_getElem? (i := 914) (by decide +kernel)) (by decide +kernel)
theorem wd_1012 : Cond.code yX11_keep cX11_keep 2 none ∈ mGood := mGood_in (List.mem_of_getElem? (i := 1012) (by decide +kernel)) (by decide +kernel)
theorem wd_984 : Cond.constantLong RX11 61 (-9000000000000000002) ∈ mGood := mGood_in (List.mem_of_getElem? (i := 984) (by decide +kernel)) (by decide +kernel)
theorem wd_983 : Cond.code yX11_undo cX11_undo 2 (some .long) ∈ mGood := mGood_in (List.mem_of_getElem? (i := 983) (by decide +kernel)) (by decide +kernel)
theorem wd_1095 : Cond.code yX11_sin cX11_sin 2 (some .int) ∈ mGood := mGood_in (List.mem_of_getElem? (i := 1095) (by decide +kernel)) (by decide +kernel)
theorem wd_1103 : Cond.code yX11_cos cX11_cos 2 (some .int) ∈ mGood := mGood_in (List.mem_of_getElem? (i := 1103) (by decide +kernel)) (by decide +kernel)
theorem wd_1092 : Cond.methodLink RX11 72 yX11_sin ∈ mGood := mGood_in (List.mem_of_getElem? (i := 1092) (by decide +kernel)) (by decide +kernel)
theorem wd_1094 : Cond.instanceMethod yX11_sin ∈ mGood := mGood_in (List.mem_of_getElem? (i := 1094) (by decide +kernel)) (by decide +kernel)
theorem wd_24 : Cond.selects RX11 yX11_sin yX11_sin ∈ mGood := mGood_in (List.mem_of_getElem? (i := 24) (by decide +kernel)) (by decide +kernel)
theorem wd_1091 : Cond.code yX11_spotX cX11_spotX 4 (some .long) ∈ mGood := mGood_in (List.mem_of_getElem? (i := 1091) (by decide +kernel)) (by decide +kernel)
theorem wd_1100 : Cond.methodLink RX11 76 yX11_cos ∈ mGood := mGood_in (List.mem_of_getElem? (i := 1100) (by decide +kernel)) (by decide +kernel)
theorem wd_1102 : Cond.instanceMethod yX11_cos ∈ mGood := mGood_in (List.mem_of_getElem? (i := 1102) (by decide +kernel)) (by decide +kernel)
theorem wd_26 : Cond.selects RX11 yX11_cos yX11_cos ∈ mGood := mGood_in (List.mem_of_getElem? (i := 26) (by decide +kernel)) (by decide +kernel)
theorem wd_1099 : Cond.code yX11_spotY cX11_spotY 4 (some .long) ∈ mGood := mGood_in (List.mem_of_getElem? (i := 1099) (by decide +kernel)) (by decide +kernel)
theorem wd_1087 : Cond.constantLong RX11 63 (1024) ∈ mGood := mGood_in (List.mem_of_getElem? (i := 1087) (by decide +kernel)) (by decide +kernel)
theorem wd_1088 : Cond.methodLink RX11 65 yX11_spotX ∈ mGood := mGood_in (List.mem_of_getElem? (i := 1088) (by decide +kernel)) (by decide +kernel)
theorem wd_1090 : Cond.instanceMethod yX11_spotX ∈ mGood := mGood_in (List.mem_of_getElem? (i := 1090) (by decide +kernel)) (by decide +kernel)
theorem wd_23 : Cond.selects RX11 yX11_spotX yX11_spotX ∈ mGood := mGood_in (List.mem_of_getElem? (i := 23) (by decide +kernel)) (by decide +kernel)
theorem wd_1096 : Cond.methodLink RX11 69 yX11_spotY ∈ mGood := mGood_in (List.mem_of_getElem? (i := 1096) (by decide +kernel)) (by decide +kernel)
theorem wd_1098 : Cond.instanceMethod yX11_spotY ∈ mGood := mGood_in (List.mem_of_getElem? (i := 1098) (by decide +kernel)) (by decide +kernel)
theorem wd_25 : Cond.selects RX11 yX11_spotY yX11_spotY ∈ mGood := mGood_in (List.mem_of_getElem? (i := 25) (by decide +kernel)) (by decide +kernel)
theorem wd_1086 : Cond.code yX11_lay cX11_lay 4 none ∈ mGood := mGood_in (List.mem_of_getElem? (i := 1086) (by decide +kernel)) (by decide +kernel)
theorem wd_1115 : Cond.code yX11_barX cX11_barX 4 (some .long) ∈ mGood := mGood_in (List.mem_of_getElem? (i := 1115) (by decide +kernel)) (by decide +kernel)
theorem wd_1119 : Cond.code yX11_barY cX11_barY 4 (some .long) ∈ mGood := mGood_in (List.mem_of_getElem? (i := 1119) (by decide +kernel)) (by decide +kernel)
theorem wd_1146 : Cond.code yX11_square cX11_square 4 (some .long) ∈ mGood := mGood_in (List.mem_of_getElem? (i := 1146) (by decide +kernel)) (by decide +kernel)
theorem wd_1150 : Cond.constantLong RX11 79 (2000000000) ∈ mGood := mGood_in (List.mem_of_getElem? (i := 1150) (by decide +kernel)) (by decide +kernel)
theorem wd_1151 : Cond.constantLong RX11 81 (2) ∈ mGood := mGood_in (List.mem_of_getElem? (i := 1151) (by decide +kernel)) (by decide +kernel)
theorem wd_1149 : Cond.code yX11_root cX11_root 8 (some .long) ∈ mGood := mGood_in (List.mem_of_getElem? (i := 1149) (by decide +kernel)) (by decide +kernel)
theorem wd_1021 : Cond.methodLink RX11 83 yX11_of ∈ mGood := mGood_in (List.mem_of_getElem? (i := 1021) (by decide +kernel)) (by decide +kernel)
theorem wd_1023 : Cond.instanceMethod yX11_of ∈ mGood := mGood_in (List.mem_of_getElem? (i := 1023) (by decide +kernel)) (by decide +kernel)
theorem wd_17 : Cond.selects RX11 yX11_of yX11_of ∈ mGood := mGood_in (List.mem_of_getElem? (i := 17) (by decide +kernel)) (by decide +kernel)
theorem wd_1112 : Cond.methodLink RX11 87 yX11_barX ∈ mGood := mGood_in (List.mem_of_getElem? (i := 1112) (by decide +kernel)) (by decide +kernel)
theorem wd_1114 : Cond.instanceMethod yX11_barX ∈ mGood := mGood_in (List.mem_of_getElem? (i := 1114) (by decide +kernel)) (by decide +kernel)
theorem wd_27 : Cond.selects RX11 yX11_barX yX11_barX ∈ mGood := mGood_in (List.mem_of_getElem? (i := 27) (by decide +kernel)) (by decide +kernel)
theorem wd_1116 : Cond.methodLink RX11 91 yX11_barY ∈ mGood := mGood_in (List.mem_of_getElem? (i := 1116) (by decide +kernel)) (by decide +kernel)
theorem wd_1118 : Cond.instanceMethod yX11_barY ∈ mGood := mGood_in (List.mem_of_getElem? (i := 1118) (by decide +kernel)) (by decide +kernel)
theorem wd_28 : Cond.selects RX11 yX11_barY yX11_barY ∈ mGood := mGood_in (List.mem_of_getElem? (i := 28) (by decide +kernel)) (by decide +kernel)
theorem wd_1144 : Cond.methodLink RX11 94 yX11_square ∈ mGood := mGood_in (List.mem_of_getElem? (i := 1144) (by decide +kernel)) (by decide +kernel)
theorem wd_1145 : Cond.static yX11_square ∈ mGood := mGood_in (List.mem_of_getElem? (i := 1145) (by decide +kernel)) (by decide +kernel)
theorem wd_1147 : Cond.methodLink RX11 98 yX11_root ∈ mGood := mGood_in (List.mem_of_getElem? (i := 1147) (by decide +kernel)) (by decide +kernel)
theorem wd_1148 : Cond.static yX11_root ∈ mGood := mGood_in (List.mem_of_getElem? (i := 1148) (by decide +kernel)) (by decide +kernel)
theorem wd_1143 : Cond.code yX11_far cX11_far 12 (some .long) ∈ mGood := mGood_in (List.mem_of_getElem? (i := 1143) (by decide +kernel)) (by decide +kernel)
theorem wd_1159 : Cond.code yX11_longOf cX11_longOf 3 (some .long) ∈ mGood := mGood_in (List.mem_of_getElem? (i := 1159) (by decide +kernel)) (by decide +kernel)
theorem wd_1140 : Cond.methodLink RX11 102 yX11_far ∈ mGood := mGood_in (List.mem_of_getElem? (i := 1140) (by decide +kernel)) (by decide +kernel)
theorem wd_1142 : Cond.instanceMethod yX11_far ∈ mGood := mGood_in (List.mem_of_getElem? (i := 1142) (by decide +kernel)) (by decide +kernel)
theorem wd_30 : Cond.selects RX11 yX11_far yX11_far ∈ mGood := mGood_in (List.mem_of_getElem? (i := 30) (by decide +kernel)) (by decide +kernel)
theorem wd_1156 : Cond.methodLink RX11 105 yX11_longOf ∈ mGood := mGood_in (List.mem_of_getElem? (i := 1156) (by decide +kernel)) (by decide +kernel)
theorem wd_1158 : Cond.instanceMethod yX11_longOf ∈ mGood := mGood_in (List.mem_of_getElem? (i := 1158) (by decide +kernel)) (by decide +kernel)
theorem wd_32 : Cond.selects RX11 yX11_longOf yX11_longOf ∈ mGood := mGood_in (List.mem_of_getElem? (i := 32) (by decide +kernel)) (by decide +kernel)
theorem wd_1155 : Cond.code yX11_excess cX11_excess 6 (some .long) ∈ mGood := mGood_in (List.mem_of_getElem? (i := 1155) (by decide +kernel)) (by decide +kernel)
theorem wd_1164 : Cond.constantLong RX11 108 (512) ∈ mGood := mGood_in (List.mem_of_getElem? (i := 1164) (by decide +kernel)) (by decide +kernel)
theorem wd_1163 : Cond.code yX11_isTaut cX11_isTaut 3 (some .boolean) ∈ mGood := mGood_in (List.mem_of_getElem? (i := 1163) (by decide +kernel)) (by decide +kernel)
theorem wd_1152 : Cond.methodLink RX11 110 yX11_excess ∈ mGood := mGood_in (List.mem_of_getElem? (i := 1152) (by decide +kernel)) (by decide +kernel)
theorem wd_1154 : Cond.instanceMethod yX11_excess ∈ mGood := mGood_in (List.mem_of_getElem? (i := 1154) (by decide +kernel)) (by decide +kernel)
theorem wd_31 : Cond.selects RX11 yX11_excess yX11_excess ∈ mGood := mGood_in (List.mem_of_getElem? (i := 31) (by decide +kernel)) (by decide +kernel)
theorem wd_1176 : Cond.code yX11_allExcess cX11_allExcess 5 (some .long) ∈ mGood := mGood_in (List.mem_of_getElem? (i := 1176) (by decide +kernel)) (by decide +kernel)
theorem wd_1180 : Cond.code yX11_depth cX11_depth 5 (some .long) ∈ mGood := mGood_in (List.mem_of_getElem? (i := 1180) (by decide +kernel)) (by decide +kernel)
theorem wd_1003 : Cond.code yX11_least cX11_least 3 (some .int) ∈ mGood := mGood_in (List.mem_of_getElem? (i := 1003) (by decide +kernel)) (by decide +kernel)
theorem wd_1007 : Cond.code yX11_greatest cX11_greatest 3 (some .int) ∈ mGood := mGood_in (List.mem_of_getElem? (i := 1007) (by decide +kernel)) (by decide +kernel)
theorem wd_999 : Cond.constantLong RX11 113 (-9000000000000000001) ∈ mGood := mGood_in (List.mem_of_getElem? (i := 999) (by decide +kernel)) (by decide +kernel)
theorem wd_1000 : Cond.methodLink RX11 115 yX11_least ∈ mGood := mGood_in (List.mem_of_getElem? (i := 1000) (by decide +kernel)) (by decide +kernel)
theorem wd_1002 : Cond.instanceMethod yX11_least ∈ mGood := mGood_in (List.mem_of_getElem? (i := 1002) (by decide +kernel)) (by decide +kernel)
theorem wd_13 : Cond.selects RX11 yX11_least yX11_least ∈ mGood := mGood_in (List.mem_of_getElem? (i := 13) (by decide +kernel)) (by decide +kernel)
theorem wd_1004 : Cond.methodLink RX11 118 yX11_greatest ∈ mGood := mGood_in (List.mem_of_getElem? (i := 1004) (by decide +kernel)) (by decide +kernel)
theorem wd_1006 : Cond.instanceMethod yX11_greatest ∈ mGood := mGood_in (List.mem_of_getElem? (i := 1006) (by decide +kernel)) (by decide +kernel)
theorem wd_14 : Cond.selects RX11 yX11_greatest yX11_greatest ∈ mGood := mGood_in (List.mem_of_getElem? (i := 14) (by decide +kernel)) (by decide +kernel)
theorem wd_1008 : Cond.constantLong RX11 121 (-9000000000000000003) ∈ mGood := mGood_in (List.mem_of_getElem? (i := 1008) (by decide +kernel)) (by decide +kernel)
theorem wd_1009 : Cond.methodLink RX11 123 yX11_keep ∈ mGood := mGood_in (List.mem_of_getElem? (i := 1009) (by decide +kernel)) (by decide +kernel)
theorem wd_1011 : Cond.instanceMethod yX11_keep ∈ mGood := mGood_in (List.mem_of_getElem? (i := 1011) (by decide +kernel)) (by decide +kernel)
theorem wd_15 : Cond.selects RX11 yX11_keep yX11_keep ∈ mGood := mGood_in (List.mem_of_getElem? (i := 15) (by decide +kernel)) (by decide +kernel)
theorem wd_1013 : Cond.methodLink RX11 126 yX11_put ∈ mGood := mGood_in (List.mem_of_getElem? (i := 1013) (by decide +kernel)) (by decide +kernel)
theorem wd_1015 : Cond.instanceMethod yX11_put ∈ mGood := mGood_in (List.mem_of_getElem? (i := 1015) (by decide +kernel)) (by decide +kernel)
theorem wd_16 : Cond.selects RX11 yX11_put yX11_put ∈ mGood := mGood_in (List.mem_of_getElem? (i := 16) (by decide +kernel)) (by decide +kernel)
theorem wd_988 : Cond.code yX11_limb cX11_limb 6 (some .long) ∈ mGood := mGood_in (List.mem_of_getElem? (i := 988) (by decide +kernel)) (by decide +kernel)
theorem wd_1028 : Cond.code yX11_dropHold cX11_dropHold 4 none ∈ mGood := mGood_in (List.mem_of_getElem? (i := 1028) (by decide +kernel)) (by decide +kernel)
theorem wd_1025 : Cond.methodLink RX11 130 yX11_dropHold ∈ mGood := mGood_in (List.mem_of_getElem? (i := 1025) (by decide +kernel)) (by decide +kernel)
theorem wd_1027 : Cond.instanceMethod yX11_dropHold ∈ mGood := mGood_in (List.mem_of_getElem? (i := 1027) (by decide +kernel)) (by decide +kernel)
theorem wd_18 : Cond.selects RX11 yX11_dropHold yX11_dropHold ∈ mGood := mGood_in (List.mem_of_getElem? (i := 18) (by decide +kernel)) (by decide +kernel)
theorem wd_1020 : Cond.code yX11_lose cX11_lose 4 (some .long) ∈ mGood := mGood_in (List.mem_of_getElem? (i := 1020) (by decide +kernel)) (by decide +kernel)
theorem wd_1035 : Cond.code yX11_isPlace cX11_isPlace 2 (some .boolean) ∈ mGood := mGood_in (List.mem_of_getElem? (i := 1035) (by decide +kernel)) (by decide +kernel)
theorem wd_1033 : Cond.methodLink RX11 133 yX11_isPlace ∈ mGood := mGood_in (List.mem_of_getElem? (i := 1033) (by decide +kernel)) (by decide +kernel)
theorem wd_1034 : Cond.static yX11_isPlace ∈ mGood := mGood_in (List.mem_of_getElem? (i := 1034) (by decide +kernel)) (by decide +kernel)
theorem wd_1032 : Cond.code yX11_pin cX11_pin 4 (some .long) ∈ mGood := mGood_in (List.mem_of_getElem? (i := 1032) (by decide +kernel)) (by decide +kernel)
theorem wd_1039 : Cond.code yX11_spans cX11_spans 4 (some .long) ∈ mGood := mGood_in (List.mem_of_getElem? (i := 1039) (by decide +kernel)) (by decide +kernel)
theorem wd_1044 : Cond.constantLong RX11 137 (-9000000000000000011) ∈ mGood := mGood_in (List.mem_of_getElem? (i := 1044) (by decide +kernel)) (by decide +kernel)
theorem wd_1045 : Cond.constantLong RX11 139 (-9000000000000000013) ∈ mGood := mGood_in (List.mem_of_getElem? (i := 1045) (by decide +kernel)) (by decide +kernel)
theorem wd_1043 : Cond.code yX11_span cX11_span 5 (some .long) ∈ mGood := mGood_in (List.mem_of_getElem? (i := 1043) (by decide +kernel)) (by decide +kernel)
theorem wd_1053 : Cond.code yX11_setCross cX11_setCross 5 none ∈ mGood := mGood_in (List.mem_of_getElem? (i := 1053) (by decide +kernel)) (by decide +kernel)
theorem wd_1050 : Cond.methodLink RX11 141 yX11_setCross ∈ mGood := mGood_in (List.mem_of_getElem? (i := 1050) (by decide +kernel)) (by decide +kernel)
theorem wd_1052 : Cond.instanceMethod yX11_setCross ∈ mGood := mGood_in (List.mem_of_getElem? (i := 1052) (by decide +kernel)) (by decide +kernel)
theorem wd_19 : Cond.selects RX11 yX11_setCross yX11_setCross ∈ mGood := mGood_in (List.mem_of_getElem? (i := 19) (by decide +kernel)) (by decide +kernel)
theorem wd_1049 : Cond.code yX11_cross cX11_cross 5 (some .long) ∈ mGood := mGood_in (List.mem_of_getElem? (i := 1049) (by decide +kernel)) (by decide +kernel)
theorem wd_1057 : Cond.code yX11_bar cX11_bar 5 (some .long) ∈ mGood := mGood_in (List.mem_of_getElem? (i := 1057) (by decide +kernel)) (by decide +kernel)
theorem wd_1069 : Cond.code yX11_mayBend cX11_mayBend 4 (some .boolean) ∈ mGood := mGood_in (List.mem_of_getElem? (i := 1069) (by decide +kernel)) (by decide +kernel)
theorem wd_1062 : Cond.methodLink RX11 145 yX11_isLimb ∈ mGood := mGood_in (List.mem_of_getElem? (i := 1062) (by decide +kernel)) (by decide +kernel)
theorem wd_1064 : Cond.instanceMethod yX11_isLimb ∈ mGood := mGood_in (List.mem_of_getElem? (i := 1064) (by decide +kernel)) (by decide +kernel)
theorem wd_20 : Cond.selects RX11 yX11_isLimb yX11_isLimb ∈ mGood := mGood_in (List.mem_of_getElem? (i := 20) (by decide +kernel)) (by decide +kernel)
theorem wd_1066 : Cond.methodLink RX11 148 yX11_mayBend ∈ mGood := mGood_in (List.mem_of_getElem? (i := 1066) (by decide +kernel)) (by decide +kernel)
theorem wd_1068 : Cond.instanceMethod yX11_mayBend ∈ mGood := mGood_in (List.mem_of_getElem? (i := 1068) (by decide +kernel)) (by decide +kernel)
theorem wd_21 : Cond.selects RX11 yX11_mayBend yX11_mayBend ∈ mGood := mGood_in (List.mem_of_getElem? (i := 21) (by decide +kernel)) (by decide +kernel)
theorem wd_1061 : Cond.code yX11_bend cX11_bend 6 (some .long) ∈ mGood := mGood_in (List.mem_of_getElem? (i := 1061) (by decide +kernel)) (by decide +kernel)
theorem wd_1073 : Cond.code yX11_hand cX11_hand 5 (some .long) ∈ mGood := mGood_in (List.mem_of_getElem? (i := 1073) (by decide +kernel)) (by decide +kernel)
theorem wd_1078 : Cond.constantLong RX11 151 (-9000000000000000005) ∈ mGood := mGood_in (List.mem_of_getElem? (i := 1078) (by decide +kernel)) (by decide +kernel)
theorem wd_1077 : Cond.code yX11_about cX11_about 3 (some .long) ∈ mGood := mGood_in (List.mem_of_getElem? (i := 1077) (by decide +kernel)) (by decide +kernel)
theorem wd_1083 : Cond.methodLink RX11 153 yX11_lay ∈ mGood := mGood_in (List.mem_of_getElem? (i := 1083) (by decide +kernel)) (by decide +kernel)
theorem wd_1085 : Cond.instanceMethod yX11_lay ∈ mGood := mGood_in (List.mem_of_getElem? (i := 1085) (by decide +kernel)) (by decide +kernel)
theorem wd_22 : Cond.selects RX11 yX11_lay yX11_lay ∈ mGood := mGood_in (List.mem_of_getElem? (i := 22) (by decide +kernel)) (by decide +kernel)
theorem wd_1082 : Cond.code yX11_told cX11_told 4 (some .long) ∈ mGood := mGood_in (List.mem_of_getElem? (i := 1082) (by decide +kernel)) (by decide +kernel)
theorem wd_1107 : Cond.code yX11_at cX11_at 5 (some .long) ∈ mGood := mGood_in (List.mem_of_getElem? (i := 1107) (by decide +kernel)) (by decide +kernel)
theorem wd_1111 : Cond.code yX11_barAt cX11_barAt 4 (some .long) ∈ mGood := mGood_in (List.mem_of_getElem? (i := 1111) (by decide +kernel)) (by decide +kernel)
theorem wd_1123 : Cond.code yX11_hold cX11_hold 8 (some .long) ∈ mGood := mGood_in (List.mem_of_getElem? (i := 1123) (by decide +kernel)) (by decide +kernel)
theorem wd_1128 : Cond.methodLink RX11 157 yX11_isHold ∈ mGood := mGood_in (List.mem_of_getElem? (i := 1128) (by decide +kernel)) (by decide +kernel)
theorem wd_1130 : Cond.instanceMethod yX11_isHold ∈ mGood := mGood_in (List.mem_of_getElem? (i := 1130) (by decide +kernel)) (by decide +kernel)
theorem wd_29 : Cond.selects RX11 yX11_isHold yX11_isHold ∈ mGood := mGood_in (List.mem_of_getElem? (i := 29) (by decide +kernel)) (by decide +kernel)
theorem wd_1127 : Cond.code yX11_drop cX11_drop 5 (some .long) ∈ mGood := mGood_in (List.mem_of_getElem? (i := 1127) (by decide +kernel)) (by decide +kernel)
theorem wd_1135 : Cond.code yX11_pluck cX11_pluck 6 (some .long) ∈ mGood := mGood_in (List.mem_of_getElem? (i := 1135) (by decide +kernel)) (by decide +kernel)
theorem wd_1160 : Cond.methodLink RX11 160 yX11_isTaut ∈ mGood := mGood_in (List.mem_of_getElem? (i := 1160) (by decide +kernel)) (by decide +kernel)
theorem wd_1162 : Cond.instanceMethod yX11_isTaut ∈ mGood := mGood_in (List.mem_of_getElem? (i := 1162) (by decide +kernel)) (by decide +kernel)
theorem wd_33 : Cond.selects RX11 yX11_isTaut yX11_isTaut ∈ mGood := mGood_in (List.mem_of_getElem? (i := 33) (by decide +kernel)) (by decide +kernel)
theorem wd_1139 : Cond.code yX11_holds cX11_holds 4 (some .long) ∈ mGood := mGood_in (List.mem_of_getElem? (i := 1139) (by decide +kernel)) (by decide +kernel)
theorem wd_1168 : Cond.code yX11_isOf cX11_isOf 5 (some .long) ∈ mGood := mGood_in (List.mem_of_getElem? (i := 1168) (by decide +kernel)) (by decide +kernel)
theorem wd_1173 : Cond.methodLink RX11 163 yX11_allExcess ∈ mGood := mGood_in (List.mem_of_getElem? (i := 1173) (by decide +kernel)) (by decide +kernel)
theorem wd_1175 : Cond.instanceMethod yX11_allExcess ∈ mGood := mGood_in (List.mem_of_getElem? (i := 1175) (by decide +kernel)) (by decide +kernel)
theorem wd_34 : Cond.selects RX11 yX11_allExcess yX11_allExcess ∈ mGood := mGood_in (List.mem_of_getElem? (i := 34) (by decide +kernel)) (by decide +kernel)
theorem wd_1177 : Cond.methodLink RX11 167 yX11_depth ∈ mGood := mGood_in (List.mem_of_getElem? (i := 1177) (by decide +kernel)) (by decide +kernel)
theorem wd_1179 : Cond.instanceMethod yX11_depth ∈ mGood := mGood_in (List.mem_of_getElem? (i := 1179) (by decide +kernel)) (by decide +kernel)
theorem wd_35 : Cond.selects RX11 yX11_depth yX11_depth ∈ mGood := mGood_in (List.mem_of_getElem? (i := 35) (by decide +kernel)) (by decide +kernel)
theorem wd_1172 : Cond.code yX11_lies cX11_lies 6 (some .long) ∈ mGood := mGood_in (List.mem_of_getElem? (i := 1172) (by decide +kernel)) (by decide +kernel)
theorem wd_1184 : Cond.code yX11_why cX11_why 7 (some .long) ∈ mGood := mGood_in (List.mem_of_getElem? (i := 1184) (by decide +kernel)) (by decide +kernel)
theorem wd_922 : Cond.fieldLink RX11 170 "PuppetStageModel" "hadExcess" "J" ∈ mGood := mGood_in (List.mem_of_getElem? (i := 922) (by decide +kernel)) (by decide +kernel)
theorem wd_923 : Cond.fieldLink RX11 174 "PuppetStageModel" "hadDepth" "J" ∈ mGood := mGood_in (List.mem_of_getElem? (i := 923) (by decide +kernel)) (by decide +kernel)
theorem wd_1200 : Cond.code yX11_note cX11_note 2 none ∈ mGood := mGood_in (List.mem_of_getElem? (i := 1200) (by decide +kernel)) (by decide +kernel)
theorem wd_1208 : Cond.code yX11_isBetter cX11_isBetter 4 (some .boolean) ∈ mGood := mGood_in (List.mem_of_getElem? (i := 1208) (by decide +kernel)) (by decide +kernel)
theorem wd_1205 : Cond.methodLink RX11 177 yX11_isBetter ∈ mGood := mGood_in (List.mem_of_getElem? (i := 1205) (by decide +kernel)) (by decide +kernel)
theorem wd_1207 : Cond.instanceMethod yX11_isBetter ∈ mGood := mGood_in (List.mem_of_getElem? (i := 1207) (by decide +kernel)) (by decide +kernel)
theorem wd_40 : Cond.selects RX11 yX11_isBetter yX11_isBetter ∈ mGood := mGood_in (List.mem_of_getElem? (i := 40) (by decide +kernel)) (by decide +kernel)
theorem wd_1204 : Cond.code yX11_changes cX11_changes 7 (some .boolean) ∈ mGood := mGood_in (List.mem_of_getElem? (i := 1204) (by decide +kernel)) (by decide +kernel)
theorem wd_1197 : Cond.methodLink RX11 180 yX11_note ∈ mGood := mGood_in (List.mem_of_getElem? (i := 1197) (by decide +kernel)) (by decide +kernel)
theorem wd_1199 : Cond.instanceMethod yX11_note ∈ mGood := mGood_in (List.mem_of_getElem? (i := 1199) (by decide +kernel)) (by decide +kernel)
theorem wd_38 : Cond.selects RX11 yX11_note yX11_note ∈ mGood := mGood_in (List.mem_of_getElem? (i := 38) (by decide +kernel)) (by decide +kernel)
theorem wd_1201 : Cond.methodLink RX11 183 yX11_changes ∈ mGood := mGood_in (List.mem_of_getElem? (i := 1201) (by decide +kernel)) (by decide +kernel)
theorem wd_1203 : Cond.instanceMethod yX11_changes ∈ mGood := mGood_in (List.mem_of_getElem? (i := 1203) (by decide +kernel)) (by decide +kernel)
theorem wd_39 : Cond.selects RX11 yX11_changes yX11_changes ∈ mGood := mGood_in (List.mem_of_getElem? (i := 39) (by decide +kernel)) (by decide +kernel)
theorem wd_1196 : Cond.code yX11_step cX11_step 6 (some .boolean) ∈ mGood := mGood_in (List.mem_of_getElem? (i := 1196) (by decide +kernel)) (by decide +kernel)
theorem wd_1193 : Cond.methodLink RX11 187 yX11_step ∈ mGood := mGood_in (List.mem_of_getElem? (i := 1193) (by decide +kernel)) (by decide +kernel)
theorem wd_1195 : Cond.instanceMethod yX11_step ∈ mGood := mGood_in (List.mem_of_getElem? (i := 1195) (by decide +kernel)) (by decide +kernel)
theorem wd_37 : Cond.selects RX11 yX11_step yX11_step ∈ mGood := mGood_in (List.mem_of_getElem? (i := 37) (by decide +kernel)) (by decide +kernel)
theorem wd_1192 : Cond.code yX11_restOf cX11_restOf 4 (some .int) ∈ mGood := mGood_in (List.mem_of_getElem? (i := 1192) (by decide +kernel)) (by decide +kernel)
theorem wd_1189 : Cond.methodLink RX11 190 yX11_restOf ∈ mGood := mGood_in (List.mem_of_getElem? (i := 1189) (by decide +kernel)) (by decide +kernel)
theorem wd_1191 : Cond.instanceMethod yX11_restOf ∈ mGood := mGood_in (List.mem_of_getElem? (i := 1191) (by decide +kernel)) (by decide +kernel)
theorem wd_36 : Cond.selects RX11 yX11_restOf yX11_restOf ∈ mGood := mGood_in (List.mem_of_getElem? (i := 36) (by decide +kernel)) (by decide +kernel)
theorem wd_915 : Cond.fieldLink RX11 193 "PuppetStageModel" "rested" "I" ∈ mGood := mGood_in (List.mem_of_getElem? (i := 915) (by decide +kernel)) (by decide +kernel)
theorem wd_1188 : Cond.code yX11_rest cX11_rest 4 (some .long) ∈ mGood := mGood_in (List.mem_of_getElem? (i := 1188) (by decide +kernel)) (by decide +kernel)
theorem wd_1216 : Cond.code yX11_noteBends cX11_noteBends 3 none ∈ mGood := mGood_in (List.mem_of_getElem? (i := 1216) (by decide +kernel)) (by decide +kernel)
theorem wd_1220 : Cond.code yX11_bringBends cX11_bringBends 3 none ∈ mGood := mGood_in (List.mem_of_getElem? (i := 1220) (by decide +kernel)) (by decide +kernel)
theorem wd_1213 : Cond.methodLink RX11 196 yX11_noteBends ∈ mGood := mGood_in (List.mem_of_getElem? (i := 1213) (by decide +kernel)) (by decide +kernel)
theorem wd_1215 : Cond.instanceMethod yX11_noteBends ∈ mGood := mGood_in (List.mem_of_getElem? (i := 1215) (by decide +kernel)) (by decide +kernel)
theorem wd_41 : Cond.selects RX11 yX11_noteBends yX11_noteBends ∈ mGood := mGood_in (List.mem_of_getElem? (i := 41) (by decide +kernel)) (by decide +kernel)
theorem wd_1217 : Cond.methodLink RX11 199 yX11_bringBends ∈ mGood := mGood_in (List.mem_of_getElem? (i := 1217) (by decide +kernel)) (by decide +kernel)
theorem wd_1219 : Cond.instanceMethod yX11_bringBends ∈ mGood := mGood_in (List.mem_of_getElem? (i := 1219) (by decide +kernel)) (by decide +kernel)
theorem wd_42 : Cond.selects RX11 yX11_bringBends yX11_bringBends ∈ mGood := mGood_in (List.mem_of_getElem? (i := 42) (by decide +kernel)) (by decide +kernel)
theorem wd_1212 : Cond.code yX11_isStill cX11_isStill 3 (some .long) ∈ mGood := mGood_in (List.mem_of_getElem? (i := 1212) (by decide +kernel)) (by decide +kernel)
theorem wd_1224 : Cond.code yX11_lowest cX11_lowest 10 (some .long) ∈ mGood := mGood_in (List.mem_of_getElem? (i := 1224) (by decide +kernel)) (by decide +kernel)
theorem wd_1228 : Cond.code yX11_tick cX11_tick 6 (some .long) ∈ mGood := mGood_in (List.mem_of_getElem? (i := 1228) (by decide +kernel)) (by decide +kernel)
theorem wd_1232 : Cond.code yX11_calm cX11_calm 4 (some .long) ∈ mGood := mGood_in (List.mem_of_getElem? (i := 1232) (by decide +kernel)) (by decide +kernel)
theorem wd_1236 : Cond.code yX11_play cX11_play 6 (some .long) ∈ mGood := mGood_in (List.mem_of_getElem? (i := 1236) (by decide +kernel)) (by decide +kernel)
theorem wd_1240 : Cond.code yX11_pose cX11_pose 4 (some .long) ∈ mGood := mGood_in (List.mem_of_getElem? (i := 1240) (by decide +kernel)) (by decide +kernel)
theorem wd_1244 : Cond.code yX11_round cX11_round 5 (some .long) ∈ mGood := mGood_in (List.mem_of_getElem? (i := 1244) (by decide +kernel)) (by decide +kernel)
theorem wd_1249 : Cond.constantLong RX11 202 (-1) ∈ mGood := mGood_in (List.mem_of_getElem? (i := 1249) (by decide +kernel)) (by decide +kernel)
theorem wd_1248 : Cond.code yX11_reach cX11_reach 14 (some .long) ∈ mGood := mGood_in (List.mem_of_getElem? (i := 1248) (by decide +kernel)) (by decide +kernel)
theorem wd_1264 : Cond.code yX11_side cX11_side 14 (some .int) ∈ mGood := mGood_in (List.mem_of_getElem? (i := 1264) (by decide +kernel)) (by decide +kernel)
theorem wd_926 : Cond.fieldLink RX11 204 "PuppetStageModel" "ax" "J" ∈ mGood := mGood_in (List.mem_of_getElem? (i := 926) (by decide +kernel)) (by decide +kernel)
theorem wd_927 : Cond.fieldLink RX11 207 "PuppetStageModel" "ay" "J" ∈ mGood := mGood_in (List.mem_of_getElem? (i := 927) (by decide +kernel)) (by decide +kernel)
theorem wd_928 : Cond.fieldLink RX11 210 "PuppetStageModel" "bx" "J" ∈ mGood := mGood_in (List.mem_of_getElem? (i := 928) (by decide +kernel)) (by decide +kernel)
theorem wd_929 : Cond.fieldLink RX11 213 "PuppetStageModel" "by" "J" ∈ mGood := mGood_in (List.mem_of_getElem? (i := 929) (by decide +kernel)) (by decide +kernel)
theorem wd_930 : Cond.fieldLink RX11 216 "PuppetStageModel" "cx" "J" ∈ mGood := mGood_in (List.mem_of_getElem? (i := 930) (by decide +kernel)) (by decide +kernel)
theorem wd_931 : Cond.fieldLink RX11 219 "PuppetStageModel" "cy" "J" ∈ mGood := mGood_in (List.mem_of_getElem? (i := 931) (by decide +kernel)) (by decide +kernel)
theorem wd_1262 : Cond.methodLink RX11 222 yX11_side ∈ mGood := mGood_in (List.mem_of_getElem? (i := 1262) (by decide +kernel)) (by decide +kernel)
theorem wd_1263 : Cond.static yX11_side ∈ mGood := mGood_in (List.mem_of_getElem? (i := 1263) (by decide +kernel)) (by decide +kernel)
theorem wd_932 : Cond.fieldLink RX11 226 "PuppetStageModel" "dx" "J" ∈ mGood := mGood_in (List.mem_of_getElem? (i := 932) (by decide +kernel)) (by decide +kernel)
theorem wd_933 : Cond.fieldLink RX11 229 "PuppetStageModel" "dy" "J" ∈ mGood := mGood_in (List.mem_of_getElem? (i := 933) (by decide +kernel)) (by decide +kernel)
theorem wd_1261 : Cond.code yX11_crosses cX11_crosses 1 (some .boolean) ∈ mGood := mGood_in (List.mem_of_getElem? (i := 1261) (by decide +kernel)) (by decide +kernel)
theorem wd_1279 : Cond.code yX11_isBetween cX11_isBetween 6 (some .boolean) ∈ mGood := mGood_in (List.mem_of_getElem? (i := 1279) (by decide +kernel)) (by decide +kernel)
theorem wd_1277 : Cond.methodLink RX11 232 yX11_isBetween ∈ mGood := mGood_in (List.mem_of_getElem? (i := 1277) (by decide +kernel)) (by decide +kernel)
theorem wd_1278 : Cond.static yX11_isBetween ∈ mGood := mGood_in (List.mem_of_getElem? (i := 1278) (by decide +kernel)) (by decide +kernel)
theorem wd_1276 : Cond.code yX11_isOn cX11_isOn 12 (some .boolean) ∈ mGood := mGood_in (List.mem_of_getElem? (i := 1276) (by decide +kernel)) (by decide +kernel)
theorem wd_1258 : Cond.methodLink RX11 236 yX11_crosses ∈ mGood := mGood_in (List.mem_of_getElem? (i := 1258) (by decide +kernel)) (by decide +kernel)
theorem wd_1260 : Cond.instanceMethod yX11_crosses ∈ mGood := mGood_in (List.mem_of_getElem? (i := 1260) (by decide +kernel)) (by decide +kernel)
theorem wd_44 : Cond.selects RX11 yX11_crosses yX11_crosses ∈ mGood := mGood_in (List.mem_of_getElem? (i := 44) (by decide +kernel)) (by decide +kernel)
theorem wd_1274 : Cond.methodLink RX11 240 yX11_isOn ∈ mGood := mGood_in (List.mem_of_getElem? (i := 1274) (by decide +kernel)) (by decide +kernel)
theorem wd_1275 : Cond.static yX11_isOn ∈ mGood := mGood_in (List.mem_of_getElem? (i := 1275) (by decide +kernel)) (by decide +kernel)
theorem wd_1273 : Cond.code yX11_meets cX11_meets 1 (some .boolean) ∈ mGood := mGood_in (List.mem_of_getElem? (i := 1273) (by decide +kernel)) (by decide +kernel)
theorem wd_1257 : Cond.code yX11_lineA cX11_lineA 3 none ∈ mGood := mGood_in (List.mem_of_getElem? (i := 1257) (by decide +kernel)) (by decide +kernel)
theorem wd_1254 : Cond.methodLink RX11 244 yX11_lineA ∈ mGood := mGood_in (List.mem_of_getElem? (i := 1254) (by decide +kernel)) (by decide +kernel)
theorem wd_1256 : Cond.instanceMethod yX11_lineA ∈ mGood := mGood_in (List.mem_of_getElem? (i := 1256) (by decide +kernel)) (by decide +kernel)
theorem wd_43 : Cond.selects RX11 yX11_lineA yX11_lineA ∈ mGood := mGood_in (List.mem_of_getElem? (i := 43) (by decide +kernel)) (by decide +kernel)
theorem wd_1265 : Cond.constantLong RX11 247 (12) ∈ mGood := mGood_in (List.mem_of_getElem? (i := 1265) (by decide +kernel)) (by decide +kernel)
theorem wd_1253 : Cond.code yX11_tangle cX11_tangle 4 (some .long) ∈ mGood := mGood_in (List.mem_of_getElem? (i := 1253) (by decide +kernel)) (by decide +kernel)
theorem wd_1270 : Cond.methodLink RX11 249 yX11_meets ∈ mGood := mGood_in (List.mem_of_getElem? (i := 1270) (by decide +kernel)) (by decide +kernel)
theorem wd_1272 : Cond.instanceMethod yX11_meets ∈ mGood := mGood_in (List.mem_of_getElem? (i := 1272) (by decide +kernel)) (by decide +kernel)
theorem wd_45 : Cond.selects RX11 yX11_meets yX11_meets ∈ mGood := mGood_in (List.mem_of_getElem? (i := 45) (by decide +kernel)) (by decide +kernel)
theorem wd_1280 : Cond.constantLong RX11 252 (6) ∈ mGood := mGood_in (List.mem_of_getElem? (i := 1280) (by decide +kernel)) (by decide +kernel)
theorem wd_1269 : Cond.code yX11_meet cX11_meet 3 (some .long) ∈ mGood := mGood_in (List.mem_of_getElem? (i := 1269) (by decide +kernel)) (by decide +kernel)
theorem wd_1288 : Cond.code yX11_mayMirror cX11_mayMirror 5 (some .boolean) ∈ mGood := mGood_in (List.mem_of_getElem? (i := 1288) (by decide +kernel)) (by decide +kernel)
theorem wd_1292 : Cond.code yX11_turn cX11_turn 3 none ∈ mGood := mGood_in (List.mem_of_getElem? (i := 1292) (by decide +kernel)) (by decide +kernel)
theorem wd_1285 : Cond.methodLink RX11 254 yX11_mayMirror ∈ mGood := mGood_in (List.mem_of_getElem? (i := 1285) (by decide +kernel)) (by decide +kernel)
theorem wd_1287 : Cond.instanceMethod yX11_mayMirror ∈ mGood := mGood_in (List.mem_of_getElem? (i := 1287) (by decide +kernel)) (by decide +kernel)
theorem wd_46 : Cond.selects RX11 yX11_mayMirror yX11_mayMirror ∈ mGood := mGood_in (List.mem_of_getElem? (i := 46) (by decide +kernel)) (by decide +kernel)
theorem wd_1289 : Cond.methodLink RX11 257 yX11_turn ∈ mGood := mGood_in (List.mem_of_getElem? (i := 1289) (by decide +kernel)) (by decide +kernel)
theorem wd_1291 : Cond.instanceMethod yX11_turn ∈ mGood := mGood_in (List.mem_of_getElem? (i := 1291) (by decide +kernel)) (by decide +kernel)
theorem wd_47 : Cond.selects RX11 yX11_turn yX11_turn ∈ mGood := mGood_in (List.mem_of_getElem? (i := 47) (by decide +kernel)) (by decide +kernel)
theorem wd_1284 : Cond.code yX11_mirror cX11_mirror 4 (some .long) ∈ mGood := mGood_in (List.mem_of_getElem? (i := 1284) (by decide +kernel)) (by decide +kernel)
theorem wd_1296 : Cond.code yX11_count cX11_count 2 (some .long) ∈ mGood := mGood_in (List.mem_of_getElem? (i := 1296) (by decide +kernel)) (by decide +kernel)
theorem wd_64 : Cond.classLink RL 7 RX10 ∈ mGood := mGood_in (List.mem_of_getElem? (i := 64) (by decide +kernel)) (by decide +kernel)
theorem wd_65 : Cond.instantiable RX10 11 ∈ mGood := mGood_in (List.mem_of_getElem? (i := 65) (by decide +kernel)) (by decide +kernel)
theorem wd_66 : Cond.methodLink RL 9 yX10_init ∈ mGood := mGood_in (List.mem_of_getElem? (i := 66) (by decide +kernel)) (by decide +kernel)
theorem wd_67 : Cond.instanceMethod yX10_init ∈ mGood := mGood_in (List.mem_of_getElem? (i := 67) (by decide +kernel)) (by decide +kernel)
theorem wd_902 : Cond.classLink RL 10 RX11 ∈ mGood := mGood_in (List.mem_of_getElem? (i := 902) (by decide +kernel)) (by decide +kernel)
theorem wd_903 : Cond.instantiable RX11 22 ∈ mGood := mGood_in (List.mem_of_getElem? (i := 903) (by decide +kernel)) (by decide +kernel)
theorem wd_904 : Cond.methodLink RL 12 yX11_init ∈ mGood := mGood_in (List.mem_of_getElem? (i := 904) (by decide +kernel)) (by decide +kernel)
theorem wd_905 : Cond.instanceMethod yX11_init ∈ mGood := mGood_in (List.mem_of_getElem? (i := 905) (by decide +kernel)) (by decide +kernel)
theorem wd_421 : Cond.methodLink RL 13 yX10_limb ∈ mGood := mGood_in (List.mem_of_getElem? (i := 421) (by decide +kernel)) (by decide +kernel)
theorem wd_422 : Cond.instanceMethod yX10_limb ∈ mGood := mGood_in (List.mem_of_getElem? (i := 422) (by decide +kernel)) (by decide +kernel)
theorem wd_423 : Cond.selects RX10 yX10_limb yX10_limb ∈ mGood := mGood_in (List.mem_of_getElem? (i := 423) (by decide +kernel)) (by decide +kernel)
theorem wd_985 : Cond.methodLink RL 17 yX11_limb ∈ mGood := mGood_in (List.mem_of_getElem? (i := 985) (by decide +kernel)) (by decide +kernel)
theorem wd_986 : Cond.instanceMethod yX11_limb ∈ mGood := mGood_in (List.mem_of_getElem? (i := 986) (by decide +kernel)) (by decide +kernel)
theorem wd_987 : Cond.selects RX11 yX11_limb yX11_limb ∈ mGood := mGood_in (List.mem_of_getElem? (i := 987) (by decide +kernel)) (by decide +kernel)
theorem wd_501 : Cond.methodLink RL 18 yX10_lose ∈ mGood := mGood_in (List.mem_of_getElem? (i := 501) (by decide +kernel)) (by decide +kernel)
theorem wd_502 : Cond.instanceMethod yX10_lose ∈ mGood := mGood_in (List.mem_of_getElem? (i := 502) (by decide +kernel)) (by decide +kernel)
theorem wd_503 : Cond.selects RX10 yX10_lose yX10_lose ∈ mGood := mGood_in (List.mem_of_getElem? (i := 503) (by decide +kernel)) (by decide +kernel)
theorem wd_1017 : Cond.methodLink RL 22 yX11_lose ∈ mGood := mGood_in (List.mem_of_getElem? (i := 1017) (by decide +kernel)) (by decide +kernel)
theorem wd_1018 : Cond.instanceMethod yX11_lose ∈ mGood := mGood_in (List.mem_of_getElem? (i := 1018) (by decide +kernel)) (by decide +kernel)
theorem wd_1019 : Cond.selects RX11 yX11_lose yX11_lose ∈ mGood := mGood_in (List.mem_of_getElem? (i := 1019) (by decide +kernel)) (by decide +kernel)
theorem wd_521 : Cond.methodLink RL 23 yX10_pin ∈ mGood := mGood_in (List.mem_of_getElem? (i := 521) (by decide +kernel)) (by decide +kernel)
theorem wd_522 : Cond.instanceMethod yX10_pin ∈ mGood := mGood_in (List.mem_of_getElem? (i := 522) (by decide +kernel)) (by decide +kernel)
theorem wd_523 : Cond.selects RX10 yX10_pin yX10_pin ∈ mGood := mGood_in (List.mem_of_getElem? (i := 523) (by decide +kernel)) (by decide +kernel)
theorem wd_1029 : Cond.methodLink RL 27 yX11_pin ∈ mGood := mGood_in (List.mem_of_getElem? (i := 1029) (by decide +kernel)) (by decide +kernel)
theorem wd_1030 : Cond.instanceMethod yX11_pin ∈ mGood := mGood_in (List.mem_of_getElem? (i := 1030) (by decide +kernel)) (by decide +kernel)
theorem wd_1031 : Cond.selects RX11 yX11_pin yX11_pin ∈ mGood := mGood_in (List.mem_of_getElem? (i := 1031) (by decide +kernel)) (by decide +kernel)
theorem wd_528 : Cond.methodLink RL 28 yX10_spans ∈ mGood := mGood_in (List.mem_of_getElem? (i := 528) (by decide +kernel)) (by decide +kernel)
theorem wd_529 : Cond.instanceMethod yX10_spans ∈ mGood := mGood_in (List.mem_of_getElem? (i := 529) (by decide +kernel)) (by decide +kernel)
theorem wd_530 : Cond.selects RX10 yX10_spans yX10_spans ∈ mGood := mGood_in (List.mem_of_getElem? (i := 530) (by decide +kernel)) (by decide +kernel)
theorem wd_1036 : Cond.methodLink RL 32 yX11_spans ∈ mGood := mGood_in (List.mem_of_getElem? (i := 1036) (by decide +kernel)) (by decide +kernel)
theorem wd_1037 : Cond.instanceMethod yX11_spans ∈ mGood := mGood_in (List.mem_of_getElem? (i := 1037) (by decide +kernel)) (by decide +kernel)
theorem wd_1038 : Cond.selects RX11 yX11_spans yX11_spans ∈ mGood := mGood_in (List.mem_of_getElem? (i := 1038) (by decide +kernel)) (by decide +kernel)
theorem wd_536 : Cond.methodLink RL 33 yX10_span ∈ mGood := mGood_in (List.mem_of_getElem? (i := 536) (by decide +kernel)) (by decide +kernel)
theorem wd_537 : Cond.instanceMethod yX10_span ∈ mGood := mGood_in (List.mem_of_getElem? (i := 537) (by decide +kernel)) (by decide +kernel)
theorem wd_538 : Cond.selects RX10 yX10_span yX10_span ∈ mGood := mGood_in (List.mem_of_getElem? (i := 538) (by decide +kernel)) (by decide +kernel)
theorem wd_1040 : Cond.methodLink RL 36 yX11_span ∈ mGood := mGood_in (List.mem_of_getElem? (i := 1040) (by decide +kernel)) (by decide +kernel)
theorem wd_1041 : Cond.instanceMethod yX11_span ∈ mGood := mGood_in (List.mem_of_getElem? (i := 1041) (by decide +kernel)) (by decide +kernel)
theorem wd_1042 : Cond.selects RX11 yX11_span yX11_span ∈ mGood := mGood_in (List.mem_of_getElem? (i := 1042) (by decide +kernel)) (by decide +kernel)
theorem wd_550 : Cond.methodLink RL 37 yX10_cross ∈ mGood := mGood_in (List.mem_of_getElem? (i := 550) (by decide +kernel)) (by decide +kernel)
theorem wd_551 : Cond.instanceMethod yX10_cross ∈ mGood := mGood_in (List.mem_of_getElem? (i := 551) (by decide +kernel)) (by decide +kernel)
theorem wd_552 : Cond.selects RX10 yX10_cross yX10_cross ∈ mGood := mGood_in (List.mem_of_getElem? (i := 552) (by decide +kernel)) (by decide +kernel)
theorem wd_1046 : Cond.methodLink RL 40 yX11_cross ∈ mGood := mGood_in (List.mem_of_getElem? (i := 1046) (by decide +kernel)) (by decide +kernel)
theorem wd_1047 : Cond.instanceMethod yX11_cross ∈ mGood := mGood_in (List.mem_of_getElem? (i := 1047) (by decide +kernel)) (by decide +kernel)
theorem wd_1048 : Cond.selects RX11 yX11_cross yX11_cross ∈ mGood := mGood_in (List.mem_of_getElem? (i := 1048) (by decide +kernel)) (by decide +kernel)
theorem wd_555 : Cond.methodLink RL 41 yX10_bar ∈ mGood := mGood_in (List.mem_of_getElem? (i := 555) (by decide +kernel)) (by decide +kernel)
theorem wd_556 : Cond.instanceMethod yX10_bar ∈ mGood := mGood_in (List.mem_of_getElem? (i := 556) (by decide +kernel)) (by decide +kernel)
theorem wd_557 : Cond.selects RX10 yX10_bar yX10_bar ∈ mGood := mGood_in (List.mem_of_getElem? (i := 557) (by decide +kernel)) (by decide +kernel)
theorem wd_1054 : Cond.methodLink RL 44 yX11_bar ∈ mGood := mGood_in (List.mem_of_getElem? (i := 1054) (by decide +kernel)) (by decide +kernel)
theorem wd_1055 : Cond.instanceMethod yX11_bar ∈ mGood := mGood_in (List.mem_of_getElem? (i := 1055) (by decide +kernel)) (by decide +kernel)
theorem wd_1056 : Cond.selects RX11 yX11_bar yX11_bar ∈ mGood := mGood_in (List.mem_of_getElem? (i := 1056) (by decide +kernel)) (by decide +kernel)
theorem wd_562 : Cond.methodLink RL 45 yX10_bend ∈ mGood := mGood_in (List.mem_of_getElem? (i := 562) (by decide +kernel)) (by decide +kernel)
theorem wd_563 : Cond.instanceMethod yX10_bend ∈ mGood := mGood_in (List.mem_of_getElem? (i := 563) (by decide +kernel)) (by decide +kernel)
theorem wd_564 : Cond.selects RX10 yX10_bend yX10_bend ∈ mGood := mGood_in (List.mem_of_getElem? (i := 564) (by decide +kernel)) (by decide +kernel)
theorem wd_1058 : Cond.methodLink RL 48 yX11_bend ∈ mGood := mGood_in (List.mem_of_getElem? (i := 1058) (by decide +kernel)) (by decide +kernel)
theorem wd_1059 : Cond.instanceMethod yX11_bend ∈ mGood := mGood_in (List.mem_of_getElem? (i := 1059) (by decide +kernel)) (by decide +kernel)
theorem wd_1060 : Cond.selects RX11 yX11_bend yX11_bend ∈ mGood := mGood_in (List.mem_of_getElem? (i := 1060) (by decide +kernel)) (by decide +kernel)
theorem wd_566 : Cond.methodLink RL 49 yX10_hand ∈ mGood := mGood_in (List.mem_of_getElem? (i := 566) (by decide +kernel)) (by decide +kernel)
theorem wd_567 : Cond.instanceMethod yX10_hand ∈ mGood := mGood_in (List.mem_of_getElem? (i := 567) (by decide +kernel)) (by decide +kernel)
theorem wd_568 : Cond.selects RX10 yX10_hand yX10_hand ∈ mGood := mGood_in (List.mem_of_getElem? (i := 568) (by decide +kernel)) (by decide +kernel)
theorem wd_1070 : Cond.methodLink RL 52 yX11_hand ∈ mGood := mGood_in (List.mem_of_getElem? (i := 1070) (by decide +kernel)) (by decide +kernel)
theorem wd_1071 : Cond.instanceMethod yX11_hand ∈ mGood := mGood_in (List.mem_of_getElem? (i := 1071) (by decide +kernel)) (by decide +kernel)
theorem wd_1072 : Cond.selects RX11 yX11_hand yX11_hand ∈ mGood := mGood_in (List.mem_of_getElem? (i := 1072) (by decide +kernel)) (by decide +kernel)
theorem wd_570 : Cond.methodLink RL 53 yX10_about ∈ mGood := mGood_in (List.mem_of_getElem? (i := 570) (by decide +kernel)) (by decide +kernel)
theorem wd_571 : Cond.instanceMethod yX10_about ∈ mGood := mGood_in (List.mem_of_getElem? (i := 571) (by decide +kernel)) (by decide +kernel)
theorem wd_572 : Cond.selects RX10 yX10_about yX10_about ∈ mGood := mGood_in (List.mem_of_getElem? (i := 572) (by decide +kernel)) (by decide +kernel)
theorem wd_1074 : Cond.methodLink RL 56 yX11_about ∈ mGood := mGood_in (List.mem_of_getElem? (i := 1074) (by decide +kernel)) (by decide +kernel)
theorem wd_1075 : Cond.instanceMethod yX11_about ∈ mGood := mGood_in (List.mem_of_getElem? (i := 1075) (by decide +kernel)) (by decide +kernel)
theorem wd_1076 : Cond.selects RX11 yX11_about yX11_about ∈ mGood := mGood_in (List.mem_of_getElem? (i := 1076) (by decide +kernel)) (by decide +kernel)
theorem wd_575 : Cond.methodLink RL 57 yX10_told ∈ mGood := mGood_in (List.mem_of_getElem? (i := 575) (by decide +kernel)) (by decide +kernel)
theorem wd_576 : Cond.instanceMethod yX10_told ∈ mGood := mGood_in (List.mem_of_getElem? (i := 576) (by decide +kernel)) (by decide +kernel)
theorem wd_577 : Cond.selects RX10 yX10_told yX10_told ∈ mGood := mGood_in (List.mem_of_getElem? (i := 577) (by decide +kernel)) (by decide +kernel)
theorem wd_1079 : Cond.methodLink RL 60 yX11_told ∈ mGood := mGood_in (List.mem_of_getElem? (i := 1079) (by decide +kernel)) (by decide +kernel)
theorem wd_1080 : Cond.instanceMethod yX11_told ∈ mGood := mGood_in (List.mem_of_getElem? (i := 1080) (by decide +kernel)) (by decide +kernel)
theorem wd_1081 : Cond.selects RX11 yX11_told yX11_told ∈ mGood := mGood_in (List.mem_of_getElem? (i := 1081) (by decide +kernel)) (by decide +kernel)
theorem wd_601 : Cond.methodLink RL 61 yX10_at ∈ mGood := mGood_in (List.mem_of_getElem? (i := 601) (by decide +kernel)) (by decide +kernel)
theorem wd_602 : Cond.instanceMethod yX10_at ∈ mGood := mGood_in (List.mem_of_getElem? (i := 602) (by decide +kernel)) (by decide +kernel)
theorem wd_603 : Cond.selects RX10 yX10_at yX10_at ∈ mGood := mGood_in (List.mem_of_getElem? (i := 603) (by decide +kernel)) (by decide +kernel)
theorem wd_1104 : Cond.methodLink RL 64 yX11_at ∈ mGood := mGood_in (List.mem_of_getElem? (i := 1104) (by decide +kernel)) (by decide +kernel)
theorem wd_1105 : Cond.instanceMethod yX11_at ∈ mGood := mGood_in (List.mem_of_getElem? (i := 1105) (by decide +kernel)) (by decide +kernel)
theorem wd_1106 : Cond.selects RX11 yX11_at yX11_at ∈ mGood := mGood_in (List.mem_of_getElem? (i := 1106) (by decide +kernel)) (by decide +kernel)
theorem wd_607 : Cond.methodLink RL 65 yX10_barAt ∈ mGood := mGood_in (List.mem_of_getElem? (i := 607) (by decide +kernel)) (by decide +kernel)
theorem wd_608 : Cond.instanceMethod yX10_barAt ∈ mGood := mGood_in (List.mem_of_getElem? (i := 608) (by decide +kernel)) (by decide +kernel)
theorem wd_609 : Cond.selects RX10 yX10_barAt yX10_barAt ∈ mGood := mGood_in (List.mem_of_getElem? (i := 609) (by decide +kernel)) (by decide +kernel)
theorem wd_1108 : Cond.methodLink RL 68 yX11_barAt ∈ mGood := mGood_in (List.mem_of_getElem? (i := 1108) (by decide +kernel)) (by decide +kernel)
theorem wd_1109 : Cond.instanceMethod yX11_barAt ∈ mGood := mGood_in (List.mem_of_getElem? (i := 1109) (by decide +kernel)) (by decide +kernel)
theorem wd_1110 : Cond.selects RX11 yX11_barAt yX11_barAt ∈ mGood := mGood_in (List.mem_of_getElem? (i := 1110) (by decide +kernel)) (by decide +kernel)
theorem wd_615 : Cond.methodLink RL 69 yX10_hold ∈ mGood := mGood_in (List.mem_of_getElem? (i := 615) (by decide +kernel)) (by decide +kernel)
theorem wd_616 : Cond.instanceMethod yX10_hold ∈ mGood := mGood_in (List.mem_of_getElem? (i := 616) (by decide +kernel)) (by decide +kernel)
theorem wd_617 : Cond.selects RX10 yX10_hold yX10_hold ∈ mGood := mGood_in (List.mem_of_getElem? (i := 617) (by decide +kernel)) (by decide +kernel)
theorem wd_1120 : Cond.methodLink RL 73 yX11_hold ∈ mGood := mGood_in (List.mem_of_getElem? (i := 1120) (by decide +kernel)) (by decide +kernel)
theorem wd_1121 : Cond.instanceMethod yX11_hold ∈ mGood := mGood_in (List.mem_of_getElem? (i := 1121) (by decide +kernel)) (by decide +kernel)
theorem wd_1122 : Cond.selects RX11 yX11_hold yX11_hold ∈ mGood := mGood_in (List.mem_of_getElem? (i := 1122) (by decide +kernel)) (by decide +kernel)
theorem wd_626 : Cond.methodLink RL 74 yX10_drop ∈ mGood := mGood_in (List.mem_of_getElem? (i := 626) (by decide +kernel)) (by decide +kernel)
theorem wd_627 : Cond.instanceMethod yX10_drop ∈ mGood := mGood_in (List.mem_of_getElem? (i := 627) (by decide +kernel)) (by decide +kernel)
theorem wd_628 : Cond.selects RX10 yX10_drop yX10_drop ∈ mGood := mGood_in (List.mem_of_getElem? (i := 628) (by decide +kernel)) (by decide +kernel)
theorem wd_1124 : Cond.methodLink RL 77 yX11_drop ∈ mGood := mGood_in (List.mem_of_getElem? (i := 1124) (by decide +kernel)) (by decide +kernel)
theorem wd_1125 : Cond.instanceMethod yX11_drop ∈ mGood := mGood_in (List.mem_of_getElem? (i := 1125) (by decide +kernel)) (by decide +kernel)
theorem wd_1126 : Cond.selects RX11 yX11_drop yX11_drop ∈ mGood := mGood_in (List.mem_of_getElem? (i := 1126) (by decide +kernel)) (by decide +kernel)
theorem wd_635 : Cond.methodLink RL 78 yX10_pluck ∈ mGood := mGood_in (List.mem_of_getElem? (i := 635) (by decide +kernel)) (by decide +kernel)
theorem wd_636 : Cond.instanceMethod yX10_pluck ∈ mGood := mGood_in (List.mem_of_getElem? (i := 636) (by decide +kernel)) (by decide +kernel)
theorem wd_637 : Cond.selects RX10 yX10_pluck yX10_pluck ∈ mGood := mGood_in (List.mem_of_getElem? (i := 637) (by decide +kernel)) (by decide +kernel)
theorem wd_1132 : Cond.methodLink RL 81 yX11_pluck ∈ mGood := mGood_in (List.mem_of_getElem? (i := 1132) (by decide +kernel)) (by decide +kernel)
theorem wd_1133 : Cond.instanceMethod yX11_pluck ∈ mGood := mGood_in (List.mem_of_getElem? (i := 1133) (by decide +kernel)) (by decide +kernel)
theorem wd_1134 : Cond.selects RX11 yX11_pluck yX11_pluck ∈ mGood := mGood_in (List.mem_of_getElem? (i := 1134) (by decide +kernel)) (by decide +kernel)
theorem wd_639 : Cond.methodLink RL 82 yX10_holds ∈ mGood := mGood_in (List.mem_of_getElem? (i := 639) (by decide +kernel)) (by decide +kernel)
theorem wd_640 : Cond.instanceMethod yX10_holds ∈ mGood := mGood_in (List.mem_of_getElem? (i := 640) (by decide +kernel)) (by decide +kernel)
theorem wd_641 : Cond.selects RX10 yX10_holds yX10_holds ∈ mGood := mGood_in (List.mem_of_getElem? (i := 641) (by decide +kernel)) (by decide +kernel)
theorem wd_1136 : Cond.methodLink RL 85 yX11_holds ∈ mGood := mGood_in (List.mem_of_getElem? (i := 1136) (by decide +kernel)) (by decide +kernel)
theorem wd_1137 : Cond.instanceMethod yX11_holds ∈ mGood := mGood_in (List.mem_of_getElem? (i := 1137) (by decide +kernel)) (by decide +kernel)
theorem wd_1138 : Cond.selects RX11 yX11_holds yX11_holds ∈ mGood := mGood_in (List.mem_of_getElem? (i := 1138) (by decide +kernel)) (by decide +kernel)
theorem wd_685 : Cond.methodLink RL 86 yX10_isOf ∈ mGood := mGood_in (List.mem_of_getElem? (i := 685) (by decide +kernel)) (by decide +kernel)
theorem wd_686 : Cond.instanceMethod yX10_isOf ∈ mGood := mGood_in (List.mem_of_getElem? (i := 686) (by decide +kernel)) (by decide +kernel)
theorem wd_687 : Cond.selects RX10 yX10_isOf yX10_isOf ∈ mGood := mGood_in (List.mem_of_getElem? (i := 687) (by decide +kernel)) (by decide +kernel)
theorem wd_1165 : Cond.methodLink RL 89 yX11_isOf ∈ mGood := mGood_in (List.mem_of_getElem? (i := 1165) (by decide +kernel)) (by decide +kernel)
theorem wd_1166 : Cond.instanceMethod yX11_isOf ∈ mGood := mGood_in (List.mem_of_getElem? (i := 1166) (by decide +kernel)) (by decide +kernel)
theorem wd_1167 : Cond.selects RX11 yX11_isOf yX11_isOf ∈ mGood := mGood_in (List.mem_of_getElem? (i := 1167) (by decide +kernel)) (by decide +kernel)
theorem wd_689 : Cond.methodLink RL 90 yX10_lies ∈ mGood := mGood_in (List.mem_of_getElem? (i := 689) (by decide +kernel)) (by decide +kernel)
theorem wd_690 : Cond.instanceMethod yX10_lies ∈ mGood := mGood_in (List.mem_of_getElem? (i := 690) (by decide +kernel)) (by decide +kernel)
theorem wd_691 : Cond.selects RX10 yX10_lies yX10_lies ∈ mGood := mGood_in (List.mem_of_getElem? (i := 691) (by decide +kernel)) (by decide +kernel)
theorem wd_1169 : Cond.methodLink RL 93 yX11_lies ∈ mGood := mGood_in (List.mem_of_getElem? (i := 1169) (by decide +kernel)) (by decide +kernel)
theorem wd_1170 : Cond.instanceMethod yX11_lies ∈ mGood := mGood_in (List.mem_of_getElem? (i := 1170) (by decide +kernel)) (by decide +kernel)
theorem wd_1171 : Cond.selects RX11 yX11_lies yX11_lies ∈ mGood := mGood_in (List.mem_of_getElem? (i := 1171) (by decide +kernel)) (by decide +kernel)
theorem wd_709 : Cond.methodLink RL 94 yX10_why ∈ mGood := mGood_in (List.mem_of_getElem? (i := 709) (by decide +kernel)) (by decide +kernel)
theorem wd_710 : Cond.instanceMethod yX10_why ∈ mGood := mGood_in (List.mem_of_getElem? (i := 710) (by decide +kernel)) (by decide +kernel)
theorem wd_711 : Cond.selects RX10 yX10_why yX10_why ∈ mGood := mGood_in (List.mem_of_getElem? (i := 711) (by decide +kernel)) (by decide +kernel)
theorem wd_1181 : Cond.methodLink RL 97 yX11_why ∈ mGood := mGood_in (List.mem_of_getElem? (i := 1181) (by decide +kernel)) (by decide +kernel)
theorem wd_1182 : Cond.instanceMethod yX11_why ∈ mGood := mGood_in (List.mem_of_getElem? (i := 1182) (by decide +kernel)) (by decide +kernel)
theorem wd_1183 : Cond.selects RX11 yX11_why yX11_why ∈ mGood := mGood_in (List.mem_of_getElem? (i := 1183) (by decide +kernel)) (by decide +kernel)
theorem wd_713 : Cond.methodLink RL 98 yX10_rest ∈ mGood := mGood_in (List.mem_of_getElem? (i := 713) (by decide +kernel)) (by decide +kernel)
theorem wd_714 : Cond.instanceMethod yX10_rest ∈ mGood := mGood_in (List.mem_of_getElem? (i := 714) (by decide +kernel)) (by decide +kernel)
theorem wd_715 : Cond.selects RX10 yX10_rest yX10_rest ∈ mGood := mGood_in (List.mem_of_getElem? (i := 715) (by decide +kernel)) (by decide +kernel)
theorem wd_1185 : Cond.methodLink RL 101 yX11_rest ∈ mGood := mGood_in (List.mem_of_getElem? (i := 1185) (by decide +kernel)) (by decide +kernel)
theorem wd_1186 : Cond.instanceMethod yX11_rest ∈ mGood := mGood_in (List.mem_of_getElem? (i := 1186) (by decide +kernel)) (by decide +kernel)
theorem wd_1187 : Cond.selects RX11 yX11_rest yX11_rest ∈ mGood := mGood_in (List.mem_of_getElem? (i := 1187) (by decide +kernel)) (by decide +kernel)
theorem wd_745 : Cond.methodLink RL 102 yX10_isStill ∈ mGood := mGood_in (List.mem_of_getElem? (i := 745) (by decide +kernel)) (by decide +kernel)
theorem wd_746 : Cond.instanceMethod yX10_isStill ∈ mGood := mGood_in (List.mem_of_getElem? (i := 746) (by decide +kernel)) (by decide +kernel)
theorem wd_747 : Cond.selects RX10 yX10_isStill yX10_isStill ∈ mGood := mGood_in (List.mem_of_getElem? (i := 747) (by decide +kernel)) (by decide +kernel)
theorem wd_1209 : Cond.methodLink RL 105 yX11_isStill ∈ mGood := mGood_in (List.mem_of_getElem? (i := 1209) (by decide +kernel)) (by decide +kernel)
theorem wd_1210 : Cond.instanceMethod yX11_isStill ∈ mGood := mGood_in (List.mem_of_getElem? (i := 1210) (by decide +kernel)) (by decide +kernel)
theorem wd_1211 : Cond.selects RX11 yX11_isStill yX11_isStill ∈ mGood := mGood_in (List.mem_of_getElem? (i := 1211) (by decide +kernel)) (by decide +kernel)
theorem wd_750 : Cond.methodLink RL 106 yX10_lowest ∈ mGood := mGood_in (List.mem_of_getElem? (i := 750) (by decide +kernel)) (by decide +kernel)
theorem wd_751 : Cond.instanceMethod yX10_lowest ∈ mGood := mGood_in (List.mem_of_getElem? (i := 751) (by decide +kernel)) (by decide +kernel)
theorem wd_752 : Cond.selects RX10 yX10_lowest yX10_lowest ∈ mGood := mGood_in (List.mem_of_getElem? (i := 752) (by decide +kernel)) (by decide +kernel)
theorem wd_1221 : Cond.methodLink RL 109 yX11_lowest ∈ mGood := mGood_in (List.mem_of_getElem? (i := 1221) (by decide +kernel)) (by decide +kernel)
theorem wd_1222 : Cond.instanceMethod yX11_lowest ∈ mGood := mGood_in (List.mem_of_getElem? (i := 1222) (by decide +kernel)) (by decide +kernel)
theorem wd_1223 : Cond.selects RX11 yX11_lowest yX11_lowest ∈ mGood := mGood_in (List.mem_of_getElem? (i := 1223) (by decide +kernel)) (by decide +kernel)
theorem wd_761 : Cond.methodLink RL 110 yX10_tick ∈ mGood := mGood_in (List.mem_of_getElem? (i := 761) (by decide +kernel)) (by decide +kernel)
theorem wd_762 : Cond.instanceMethod yX10_tick ∈ mGood := mGood_in (List.mem_of_getElem? (i := 762) (by decide +kernel)) (by decide +kernel)
theorem wd_763 : Cond.selects RX10 yX10_tick yX10_tick ∈ mGood := mGood_in (List.mem_of_getElem? (i := 763) (by decide +kernel)) (by decide +kernel)
theorem wd_1225 : Cond.methodLink RL 113 yX11_tick ∈ mGood := mGood_in (List.mem_of_getElem? (i := 1225) (by decide +kernel)) (by decide +kernel)
theorem wd_1226 : Cond.instanceMethod yX11_tick ∈ mGood := mGood_in (List.mem_of_getElem? (i := 1226) (by decide +kernel)) (by decide +kernel)
theorem wd_1227 : Cond.selects RX11 yX11_tick yX11_tick ∈ mGood := mGood_in (List.mem_of_getElem? (i := 1227) (by decide +kernel)) (by decide +kernel)
theorem wd_769 : Cond.methodLink RL 114 yX10_calm ∈ mGood := mGood_in (List.mem_of_getElem? (i := 769) (by decide +kernel)) (by decide +kernel)
theorem wd_770 : Cond.instanceMethod yX10_calm ∈ mGood := mGood_in (List.mem_of_getElem? (i := 770) (by decide +kernel)) (by decide +kernel)
theorem wd_771 : Cond.selects RX10 yX10_calm yX10_calm ∈ mGood := mGood_in (List.mem_of_getElem? (i := 771) (by decide +kernel)) (by decide +kernel)
theorem wd_1229 : Cond.methodLink RL 117 yX11_calm ∈ mGood := mGood_in (List.mem_of_getElem? (i := 1229) (by decide +kernel)) (by decide +kernel)
theorem wd_1230 : Cond.instanceMethod yX11_calm ∈ mGood := mGood_in (List.mem_of_getElem? (i := 1230) (by decide +kernel)) (by decide +kernel)
theorem wd_1231 : Cond.selects RX11 yX11_calm yX11_calm ∈ mGood := mGood_in (List.mem_of_getElem? (i := 1231) (by decide +kernel)) (by decide +kernel)
theorem wd_773 : Cond.methodLink RL 118 yX10_play ∈ mGood := mGood_in (List.mem_of_getElem? (i := 773) (by decide +kernel)) (by decide +kernel)
theorem wd_774 : Cond.instanceMethod yX10_play ∈ mGood := mGood_in (List.mem_of_getElem? (i := 774) (by decide +kernel)) (by decide +kernel)
theorem wd_775 : Cond.selects RX10 yX10_play yX10_play ∈ mGood := mGood_in (List.mem_of_getElem? (i := 775) (by decide +kernel)) (by decide +kernel)
theorem wd_1233 : Cond.methodLink RL 121 yX11_play ∈ mGood := mGood_in (List.mem_of_getElem? (i := 1233) (by decide +kernel)) (by decide +kernel)
theorem wd_1234 : Cond.instanceMethod yX11_play ∈ mGood := mGood_in (List.mem_of_getElem? (i := 1234) (by decide +kernel)) (by decide +kernel)
theorem wd_1235 : Cond.selects RX11 yX11_play yX11_play ∈ mGood := mGood_in (List.mem_of_getElem? (i := 1235) (by decide +kernel)) (by decide +kernel)
theorem wd_781 : Cond.methodLink RL 122 yX10_pose ∈ mGood := mGood_in (List.mem_of_getElem? (i := 781) (by decide +kernel)) (by decide +kernel)
theorem wd_782 : Cond.instanceMethod yX10_pose ∈ mGood := mGood_in (List.mem_of_getElem? (i := 782) (by decide +kernel)) (by decide +kernel)
theorem wd_783 : Cond.selects RX10 yX10_pose yX10_pose ∈ mGood := mGood_in (List.mem_of_getElem? (i := 783) (by decide +kernel)) (by decide +kernel)
theorem wd_1237 : Cond.methodLink RL 125 yX11_pose ∈ mGood := mGood_in (List.mem_of_getElem? (i := 1237) (by decide +kernel)) (by decide +kernel)
theorem wd_1238 : Cond.instanceMethod yX11_pose ∈ mGood := mGood_in (List.mem_of_getElem? (i := 1238) (by decide +kernel)) (by decide +kernel)
theorem wd_1239 : Cond.selects RX11 yX11_pose yX11_pose ∈ mGood := mGood_in (List.mem_of_getElem? (i := 1239) (by decide +kernel)) (by decide +kernel)
theorem wd_789 : Cond.methodLink RL 126 yX10_round ∈ mGood := mGood_in (List.mem_of_getElem? (i := 789) (by decide +kernel)) (by decide +kernel)
theorem wd_790 : Cond.instanceMethod yX10_round ∈ mGood := mGood_in (List.mem_of_getElem? (i := 790) (by decide +kernel)) (by decide +kernel)
theorem wd_791 : Cond.selects RX10 yX10_round yX10_round ∈ mGood := mGood_in (List.mem_of_getElem? (i := 791) (by decide +kernel)) (by decide +kernel)
theorem wd_1241 : Cond.methodLink RL 129 yX11_round ∈ mGood := mGood_in (List.mem_of_getElem? (i := 1241) (by decide +kernel)) (by decide +kernel)
theorem wd_1242 : Cond.instanceMethod yX11_round ∈ mGood := mGood_in (List.mem_of_getElem? (i := 1242) (by decide +kernel)) (by decide +kernel)
theorem wd_1243 : Cond.selects RX11 yX11_round yX11_round ∈ mGood := mGood_in (List.mem_of_getElem? (i := 1243) (by decide +kernel)) (by decide +kernel)
theorem wd_798 : Cond.methodLink RL 130 yX10_reach ∈ mGood := mGood_in (List.mem_of_getElem? (i := 798) (by decide +kernel)) (by decide +kernel)
theorem wd_799 : Cond.instanceMethod yX10_reach ∈ mGood := mGood_in (List.mem_of_getElem? (i := 799) (by decide +kernel)) (by decide +kernel)
theorem wd_800 : Cond.selects RX10 yX10_reach yX10_reach ∈ mGood := mGood_in (List.mem_of_getElem? (i := 800) (by decide +kernel)) (by decide +kernel)
theorem wd_1245 : Cond.methodLink RL 133 yX11_reach ∈ mGood := mGood_in (List.mem_of_getElem? (i := 1245) (by decide +kernel)) (by decide +kernel)
theorem wd_1246 : Cond.instanceMethod yX11_reach ∈ mGood := mGood_in (List.mem_of_getElem? (i := 1246) (by decide +kernel)) (by decide +kernel)
theorem wd_1247 : Cond.selects RX11 yX11_reach yX11_reach ∈ mGood := mGood_in (List.mem_of_getElem? (i := 1247) (by decide +kernel)) (by decide +kernel)
theorem wd_806 : Cond.methodLink RL 134 yX10_tangle ∈ mGood := mGood_in (List.mem_of_getElem? (i := 806) (by decide +kernel)) (by decide +kernel)
theorem wd_807 : Cond.instanceMethod yX10_tangle ∈ mGood := mGood_in (List.mem_of_getElem? (i := 807) (by decide +kernel)) (by decide +kernel)
theorem wd_808 : Cond.selects RX10 yX10_tangle yX10_tangle ∈ mGood := mGood_in (List.mem_of_getElem? (i := 808) (by decide +kernel)) (by decide +kernel)
theorem wd_1250 : Cond.methodLink RL 137 yX11_tangle ∈ mGood := mGood_in (List.mem_of_getElem? (i := 1250) (by decide +kernel)) (by decide +kernel)
theorem wd_1251 : Cond.instanceMethod yX11_tangle ∈ mGood := mGood_in (List.mem_of_getElem? (i := 1251) (by decide +kernel)) (by decide +kernel)
theorem wd_1252 : Cond.selects RX11 yX11_tangle yX11_tangle ∈ mGood := mGood_in (List.mem_of_getElem? (i := 1252) (by decide +kernel)) (by decide +kernel)
theorem wd_837 : Cond.methodLink RL 138 yX10_meet ∈ mGood := mGood_in (List.mem_of_getElem? (i := 837) (by decide +kernel)) (by decide +kernel)
theorem wd_838 : Cond.instanceMethod yX10_meet ∈ mGood := mGood_in (List.mem_of_getElem? (i := 838) (by decide +kernel)) (by decide +kernel)
theorem wd_839 : Cond.selects RX10 yX10_meet yX10_meet ∈ mGood := mGood_in (List.mem_of_getElem? (i := 839) (by decide +kernel)) (by decide +kernel)
theorem wd_1266 : Cond.methodLink RL 142 yX11_meet ∈ mGood := mGood_in (List.mem_of_getElem? (i := 1266) (by decide +kernel)) (by decide +kernel)
theorem wd_1267 : Cond.instanceMethod yX11_meet ∈ mGood := mGood_in (List.mem_of_getElem? (i := 1267) (by decide +kernel)) (by decide +kernel)
theorem wd_1268 : Cond.selects RX11 yX11_meet yX11_meet ∈ mGood := mGood_in (List.mem_of_getElem? (i := 1268) (by decide +kernel)) (by decide +kernel)
theorem wd_854 : Cond.methodLink RL 143 yX10_mirror ∈ mGood := mGood_in (List.mem_of_getElem? (i := 854) (by decide +kernel)) (by decide +kernel)
theorem wd_855 : Cond.instanceMethod yX10_mirror ∈ mGood := mGood_in (List.mem_of_getElem? (i := 855) (by decide +kernel)) (by decide +kernel)
theorem wd_856 : Cond.selects RX10 yX10_mirror yX10_mirror ∈ mGood := mGood_in (List.mem_of_getElem? (i := 856) (by decide +kernel)) (by decide +kernel)
theorem wd_1281 : Cond.methodLink RL 146 yX11_mirror ∈ mGood := mGood_in (List.mem_of_getElem? (i := 1281) (by decide +kernel)) (by decide +kernel)
theorem wd_1282 : Cond.instanceMethod yX11_mirror ∈ mGood := mGood_in (List.mem_of_getElem? (i := 1282) (by decide +kernel)) (by decide +kernel)
theorem wd_1283 : Cond.selects RX11 yX11_mirror yX11_mirror ∈ mGood := mGood_in (List.mem_of_getElem? (i := 1283) (by decide +kernel)) (by decide +kernel)
theorem wd_890 : Cond.methodLink RL 147 yX10_undo ∈ mGood := mGood_in (List.mem_of_getElem? (i := 890) (by decide +kernel)) (by decide +kernel)
theorem wd_891 : Cond.instanceMethod yX10_undo ∈ mGood := mGood_in (List.mem_of_getElem? (i := 891) (by decide +kernel)) (by decide +kernel)
theorem wd_892 : Cond.selects RX10 yX10_undo yX10_undo ∈ mGood := mGood_in (List.mem_of_getElem? (i := 892) (by decide +kernel)) (by decide +kernel)
theorem wd_980 : Cond.methodLink RL 150 yX11_undo ∈ mGood := mGood_in (List.mem_of_getElem? (i := 980) (by decide +kernel)) (by decide +kernel)
theorem wd_981 : Cond.instanceMethod yX11_undo ∈ mGood := mGood_in (List.mem_of_getElem? (i := 981) (by decide +kernel)) (by decide +kernel)
theorem wd_982 : Cond.selects RX11 yX11_undo yX11_undo ∈ mGood := mGood_in (List.mem_of_getElem? (i := 982) (by decide +kernel)) (by decide +kernel)
theorem wd_898 : Cond.methodLink RL 151 yX10_count ∈ mGood := mGood_in (List.mem_of_getElem? (i := 898) (by decide +kernel)) (by decide +kernel)
theorem wd_899 : Cond.instanceMethod yX10_count ∈ mGood := mGood_in (List.mem_of_getElem? (i := 899) (by decide +kernel)) (by decide +kernel)
theorem wd_900 : Cond.selects RX10 yX10_count yX10_count ∈ mGood := mGood_in (List.mem_of_getElem? (i := 900) (by decide +kernel)) (by decide +kernel)
theorem wd_1293 : Cond.methodLink RL 154 yX11_count ∈ mGood := mGood_in (List.mem_of_getElem? (i := 1293) (by decide +kernel)) (by decide +kernel)
theorem wd_1294 : Cond.instanceMethod yX11_count ∈ mGood := mGood_in (List.mem_of_getElem? (i := 1294) (by decide +kernel)) (by decide +kernel)
theorem wd_1295 : Cond.selects RX11 yX11_count yX11_count ∈ mGood := mGood_in (List.mem_of_getElem? (i := 1295) (by decide +kernel)) (by decide +kernel)
theorem wd_170 : Cond.laysFinal "PuppetStage$Cross" "PuppetStage$Cross" "barA" "[I" ∈ mGood := mGood_in (List.mem_of_getElem? (i := 170) (by decide +kernel)) (by decide +kernel)
theorem wd_172 : Cond.laysFinal "PuppetStage$Cross" "PuppetStage$Cross" "barB" "[I" ∈ mGood := mGood_in (List.mem_of_getElem? (i := 172) (by decide +kernel)) (by decide +kernel)
theorem wd_174 : Cond.lays "PuppetStage$Cross" "PuppetStage$Cross" "x" "I" ∈ mGood := mGood_in (List.mem_of_getElem? (i := 174) (by decide +kernel)) (by decide +kernel)
theorem wd_176 : Cond.lays "PuppetStage$Cross" "PuppetStage$Cross" "y" "I" ∈ mGood := mGood_in (List.mem_of_getElem? (i := 176) (by decide +kernel)) (by decide +kernel)
theorem wd_178 : Cond.lays "PuppetStage$Cross" "PuppetStage$Cross" "tilt" "I" ∈ mGood := mGood_in (List.mem_of_getElem? (i := 178) (by decide +kernel)) (by decide +kernel)
theorem wd_333 : Cond.laysFinal "PuppetStage$Figure" "PuppetStage$Figure" "direction" "[I" ∈ mGood := mGood_in (List.mem_of_getElem? (i := 333) (by decide +kernel)) (by decide +kernel)
theorem wd_335 : Cond.laysFinal "PuppetStage$Figure" "PuppetStage$Figure" "stepX" "[I" ∈ mGood := mGood_in (List.mem_of_getElem? (i := 335) (by decide +kernel)) (by decide +kernel)
theorem wd_337 : Cond.laysFinal "PuppetStage$Figure" "PuppetStage$Figure" "stepY" "[I" ∈ mGood := mGood_in (List.mem_of_getElem? (i := 337) (by decide +kernel)) (by decide +kernel)
theorem wd_339 : Cond.laysFinal "PuppetStage$Figure" "PuppetStage$Figure" "startX" "[I" ∈ mGood := mGood_in (List.mem_of_getElem? (i := 339) (by decide +kernel)) (by decide +kernel)
theorem wd_341 : Cond.laysFinal "PuppetStage$Figure" "PuppetStage$Figure" "startY" "[I" ∈ mGood := mGood_in (List.mem_of_getElem? (i := 341) (by decide +kernel)) (by decide +kernel)
theorem wd_343 : Cond.laysFinal "PuppetStage$Figure" "PuppetStage$Figure" "endX" "[I" ∈ mGood := mGood_in (List.mem_of_getElem? (i := 343) (by decide +kernel)) (by decide +kernel)
theorem wd_345 : Cond.laysFinal "PuppetStage$Figure" "PuppetStage$Figure" "endY" "[I" ∈ mGood := mGood_in (List.mem_of_getElem? (i := 345) (by decide +kernel)) (by decide +kernel)
theorem wd_347 : Cond.laysFinal "PuppetStage$Figure" "PuppetStage$Figure" "barX" "[I" ∈ mGood := mGood_in (List.mem_of_getElem? (i := 347) (by decide +kernel)) (by decide +kernel)
theorem wd_349 : Cond.laysFinal "PuppetStage$Figure" "PuppetStage$Figure" "barY" "[I" ∈ mGood := mGood_in (List.mem_of_getElem? (i := 349) (by decide +kernel)) (by decide +kernel)
theorem wd_351 : Cond.lays "PuppetStage$Figure" "PuppetStage$Figure" "excess" "J" ∈ mGood := mGood_in (List.mem_of_getElem? (i := 351) (by decide +kernel)) (by decide +kernel)
theorem wd_353 : Cond.lays "PuppetStage$Figure" "PuppetStage$Figure" "depth" "J" ∈ mGood := mGood_in (List.mem_of_getElem? (i := 353) (by decide +kernel)) (by decide +kernel)
theorem wd_242 : Cond.laysFinal "PuppetStage$Gesture" "PuppetStage$Gesture" "x" "[I" ∈ mGood := mGood_in (List.mem_of_getElem? (i := 242) (by decide +kernel)) (by decide +kernel)
theorem wd_244 : Cond.laysFinal "PuppetStage$Gesture" "PuppetStage$Gesture" "y" "[I" ∈ mGood := mGood_in (List.mem_of_getElem? (i := 244) (by decide +kernel)) (by decide +kernel)
theorem wd_246 : Cond.laysFinal "PuppetStage$Gesture" "PuppetStage$Gesture" "tilt" "[I" ∈ mGood := mGood_in (List.mem_of_getElem? (i := 246) (by decide +kernel)) (by decide +kernel)
theorem wd_248 : Cond.laysFinal "PuppetStage$Gesture" "PuppetStage$Gesture" "bends" "[I" ∈ mGood := mGood_in (List.mem_of_getElem? (i := 248) (by decide +kernel)) (by decide +kernel)
theorem wd_250 : Cond.lays "PuppetStage$Gesture" "PuppetStage$Gesture" "ticks" "I" ∈ mGood := mGood_in (List.mem_of_getElem? (i := 250) (by decide +kernel)) (by decide +kernel)
theorem wd_252 : Cond.lays "PuppetStage$Gesture" "PuppetStage$Gesture" "poses" "I" ∈ mGood := mGood_in (List.mem_of_getElem? (i := 252) (by decide +kernel)) (by decide +kernel)
theorem wd_301 : Cond.laysFinal "PuppetStage$History" "PuppetStage$History" "firsts" "[LPuppetStage$Puppet;" ∈ mGood := mGood_in (List.mem_of_getElem? (i := 301) (by decide +kernel)) (by decide +kernel)
theorem wd_303 : Cond.laysFinal "PuppetStage$History" "PuppetStage$History" "seconds" "[LPuppetStage$Puppet;" ∈ mGood := mGood_in (List.mem_of_getElem? (i := 303) (by decide +kernel)) (by decide +kernel)
theorem wd_305 : Cond.lays "PuppetStage$History" "PuppetStage$History" "next" "I" ∈ mGood := mGood_in (List.mem_of_getElem? (i := 305) (by decide +kernel)) (by decide +kernel)
theorem wd_307 : Cond.lays "PuppetStage$History" "PuppetStage$History" "kept" "I" ∈ mGood := mGood_in (List.mem_of_getElem? (i := 307) (by decide +kernel)) (by decide +kernel)
theorem wd_206 : Cond.laysFinal "PuppetStage$Holds" "PuppetStage$Holds" "kind" "[I" ∈ mGood := mGood_in (List.mem_of_getElem? (i := 206) (by decide +kernel)) (by decide +kernel)
theorem wd_208 : Cond.laysFinal "PuppetStage$Holds" "PuppetStage$Holds" "bar" "[I" ∈ mGood := mGood_in (List.mem_of_getElem? (i := 208) (by decide +kernel)) (by decide +kernel)
theorem wd_210 : Cond.laysFinal "PuppetStage$Holds" "PuppetStage$Holds" "limb" "[I" ∈ mGood := mGood_in (List.mem_of_getElem? (i := 210) (by decide +kernel)) (by decide +kernel)
theorem wd_212 : Cond.laysFinal "PuppetStage$Holds" "PuppetStage$Holds" "spot" "[I" ∈ mGood := mGood_in (List.mem_of_getElem? (i := 212) (by decide +kernel)) (by decide +kernel)
theorem wd_214 : Cond.laysFinal "PuppetStage$Holds" "PuppetStage$Holds" "length" "[I" ∈ mGood := mGood_in (List.mem_of_getElem? (i := 214) (by decide +kernel)) (by decide +kernel)
theorem wd_216 : Cond.laysFinal "PuppetStage$Holds" "PuppetStage$Holds" "taken" "[I" ∈ mGood := mGood_in (List.mem_of_getElem? (i := 216) (by decide +kernel)) (by decide +kernel)
theorem wd_218 : Cond.lays "PuppetStage$Holds" "PuppetStage$Holds" "count" "I" ∈ mGood := mGood_in (List.mem_of_getElem? (i := 218) (by decide +kernel)) (by decide +kernel)
theorem wd_111 : Cond.laysFinal "PuppetStage$Limbs" "PuppetStage$Limbs" "length" "[I" ∈ mGood := mGood_in (List.mem_of_getElem? (i := 111) (by decide +kernel)) (by decide +kernel)
theorem wd_113 : Cond.laysFinal "PuppetStage$Limbs" "PuppetStage$Limbs" "weight" "[I" ∈ mGood := mGood_in (List.mem_of_getElem? (i := 113) (by decide +kernel)) (by decide +kernel)
theorem wd_115 : Cond.laysFinal "PuppetStage$Limbs" "PuppetStage$Limbs" "parent" "[I" ∈ mGood := mGood_in (List.mem_of_getElem? (i := 115) (by decide +kernel)) (by decide +kernel)
theorem wd_117 : Cond.laysFinal "PuppetStage$Limbs" "PuppetStage$Limbs" "bend" "[I" ∈ mGood := mGood_in (List.mem_of_getElem? (i := 117) (by decide +kernel)) (by decide +kernel)
theorem wd_119 : Cond.lays "PuppetStage$Limbs" "PuppetStage$Limbs" "count" "I" ∈ mGood := mGood_in (List.mem_of_getElem? (i := 119) (by decide +kernel)) (by decide +kernel)
theorem wd_121 : Cond.lays "PuppetStage$Limbs" "PuppetStage$Limbs" "pinX" "I" ∈ mGood := mGood_in (List.mem_of_getElem? (i := 121) (by decide +kernel)) (by decide +kernel)
theorem wd_123 : Cond.lays "PuppetStage$Limbs" "PuppetStage$Limbs" "pinY" "I" ∈ mGood := mGood_in (List.mem_of_getElem? (i := 123) (by decide +kernel)) (by decide +kernel)
theorem wd_378 : Cond.lays "PuppetStage$Line" "PuppetStage$Line" "fromX" "J" ∈ mGood := mGood_in (List.mem_of_getElem? (i := 378) (by decide +kernel)) (by decide +kernel)
theorem wd_380 : Cond.lays "PuppetStage$Line" "PuppetStage$Line" "fromY" "J" ∈ mGood := mGood_in (List.mem_of_getElem? (i := 380) (by decide +kernel)) (by decide +kernel)
theorem wd_382 : Cond.lays "PuppetStage$Line" "PuppetStage$Line" "toX" "J" ∈ mGood := mGood_in (List.mem_of_getElem? (i := 382) (by decide +kernel)) (by decide +kernel)
theorem wd_384 : Cond.lays "PuppetStage$Line" "PuppetStage$Line" "toY" "J" ∈ mGood := mGood_in (List.mem_of_getElem? (i := 384) (by decide +kernel)) (by decide +kernel)
theorem wd_274 : Cond.laysFinal "PuppetStage$Puppet" "PuppetStage$Puppet" "limbs" "LPuppetStage$Limbs;" ∈ mGood := mGood_in (List.mem_of_getElem? (i := 274) (by decide +kernel)) (by decide +kernel)
theorem wd_276 : Cond.laysFinal "PuppetStage$Puppet" "PuppetStage$Puppet" "spans" "LPuppetStage$Spans;" ∈ mGood := mGood_in (List.mem_of_getElem? (i := 276) (by decide +kernel)) (by decide +kernel)
theorem wd_278 : Cond.laysFinal "PuppetStage$Puppet" "PuppetStage$Puppet" "cross" "LPuppetStage$Cross;" ∈ mGood := mGood_in (List.mem_of_getElem? (i := 278) (by decide +kernel)) (by decide +kernel)
theorem wd_280 : Cond.laysFinal "PuppetStage$Puppet" "PuppetStage$Puppet" "holds" "LPuppetStage$Holds;" ∈ mGood := mGood_in (List.mem_of_getElem? (i := 280) (by decide +kernel)) (by decide +kernel)
theorem wd_282 : Cond.laysFinal "PuppetStage$Puppet" "PuppetStage$Puppet" "gesture" "LPuppetStage$Gesture;" ∈ mGood := mGood_in (List.mem_of_getElem? (i := 282) (by decide +kernel)) (by decide +kernel)
theorem wd_284 : Cond.lays "PuppetStage$Puppet" "PuppetStage$Puppet" "hand" "I" ∈ mGood := mGood_in (List.mem_of_getElem? (i := 284) (by decide +kernel)) (by decide +kernel)
theorem wd_365 : Cond.laysFinal "PuppetStage$Settler" "PuppetStage$Settler" "figure" "LPuppetStage$Figure;" ∈ mGood := mGood_in (List.mem_of_getElem? (i := 365) (by decide +kernel)) (by decide +kernel)
theorem wd_141 : Cond.laysFinal "PuppetStage$Spans" "PuppetStage$Spans" "least" "[I" ∈ mGood := mGood_in (List.mem_of_getElem? (i := 141) (by decide +kernel)) (by decide +kernel)
theorem wd_143 : Cond.laysFinal "PuppetStage$Spans" "PuppetStage$Spans" "greatest" "[I" ∈ mGood := mGood_in (List.mem_of_getElem? (i := 143) (by decide +kernel)) (by decide +kernel)
theorem wd_145 : Cond.lays "PuppetStage$Spans" "PuppetStage$Spans" "pairs" "I" ∈ mGood := mGood_in (List.mem_of_getElem? (i := 145) (by decide +kernel)) (by decide +kernel)
theorem wd_398 : Cond.laysFinal "PuppetStage" "PuppetStage" "first" "LPuppetStage$Puppet;" ∈ mGood := mGood_in (List.mem_of_getElem? (i := 398) (by decide +kernel)) (by decide +kernel)
theorem wd_400 : Cond.laysFinal "PuppetStage" "PuppetStage" "second" "LPuppetStage$Puppet;" ∈ mGood := mGood_in (List.mem_of_getElem? (i := 400) (by decide +kernel)) (by decide +kernel)
theorem wd_402 : Cond.laysFinal "PuppetStage" "PuppetStage" "history" "LPuppetStage$History;" ∈ mGood := mGood_in (List.mem_of_getElem? (i := 402) (by decide +kernel)) (by decide +kernel)
theorem wd_404 : Cond.laysFinal "PuppetStage" "PuppetStage" "figure" "LPuppetStage$Figure;" ∈ mGood := mGood_in (List.mem_of_getElem? (i := 404) (by decide +kernel)) (by decide +kernel)
theorem wd_406 : Cond.laysFinal "PuppetStage" "PuppetStage" "otherFigure" "LPuppetStage$Figure;" ∈ mGood := mGood_in (List.mem_of_getElem? (i := 406) (by decide +kernel)) (by decide +kernel)
theorem wd_408 : Cond.laysFinal "PuppetStage" "PuppetStage" "settler" "LPuppetStage$Settler;" ∈ mGood := mGood_in (List.mem_of_getElem? (i := 408) (by decide +kernel)) (by decide +kernel)
theorem wd_410 : Cond.laysFinal "PuppetStage" "PuppetStage" "line" "LPuppetStage$Line;" ∈ mGood := mGood_in (List.mem_of_getElem? (i := 410) (by decide +kernel)) (by decide +kernel)
theorem wd_412 : Cond.laysFinal "PuppetStage" "PuppetStage" "otherLine" "LPuppetStage$Line;" ∈ mGood := mGood_in (List.mem_of_getElem? (i := 412) (by decide +kernel)) (by decide +kernel)
theorem wd_414 : Cond.laysFinal "PuppetStage" "PuppetStage" "bendsBefore" "[I" ∈ mGood := mGood_in (List.mem_of_getElem? (i := 414) (by decide +kernel)) (by decide +kernel)
theorem wd_416 : Cond.laysFinal "PuppetStage" "PuppetStage" "bendsBest" "[I" ∈ mGood := mGood_in (List.mem_of_getElem? (i := 416) (by decide +kernel)) (by decide +kernel)
theorem wd_418 : Cond.lays "PuppetStage" "PuppetStage" "restChanges" "J" ∈ mGood := mGood_in (List.mem_of_getElem? (i := 418) (by decide +kernel)) (by decide +kernel)
theorem wd_934 : Cond.laysFinal "PuppetStageModel" "PuppetStageModel" "s" "[I" ∈ mGood := mGood_in (List.mem_of_getElem? (i := 934) (by decide +kernel)) (by decide +kernel)
theorem wd_936 : Cond.laysFinal "PuppetStageModel" "PuppetStageModel" "before" "[I" ∈ mGood := mGood_in (List.mem_of_getElem? (i := 936) (by decide +kernel)) (by decide +kernel)
theorem wd_938 : Cond.lays "PuppetStageModel" "PuppetStageModel" "kept" "I" ∈ mGood := mGood_in (List.mem_of_getElem? (i := 938) (by decide +kernel)) (by decide +kernel)
theorem wd_940 : Cond.lays "PuppetStageModel" "PuppetStageModel" "rested" "I" ∈ mGood := mGood_in (List.mem_of_getElem? (i := 940) (by decide +kernel)) (by decide +kernel)
theorem wd_942 : Cond.laysFinal "PuppetStageModel" "PuppetStageModel" "sines" "[I" ∈ mGood := mGood_in (List.mem_of_getElem? (i := 942) (by decide +kernel)) (by decide +kernel)
theorem wd_944 : Cond.laysFinal "PuppetStageModel" "PuppetStageModel" "fromX" "[J" ∈ mGood := mGood_in (List.mem_of_getElem? (i := 944) (by decide +kernel)) (by decide +kernel)
theorem wd_946 : Cond.laysFinal "PuppetStageModel" "PuppetStageModel" "fromY" "[J" ∈ mGood := mGood_in (List.mem_of_getElem? (i := 946) (by decide +kernel)) (by decide +kernel)
theorem wd_948 : Cond.laysFinal "PuppetStageModel" "PuppetStageModel" "toX" "[J" ∈ mGood := mGood_in (List.mem_of_getElem? (i := 948) (by decide +kernel)) (by decide +kernel)
theorem wd_950 : Cond.laysFinal "PuppetStageModel" "PuppetStageModel" "toY" "[J" ∈ mGood := mGood_in (List.mem_of_getElem? (i := 950) (by decide +kernel)) (by decide +kernel)
theorem wd_952 : Cond.laysFinal "PuppetStageModel" "PuppetStageModel" "way" "[I" ∈ mGood := mGood_in (List.mem_of_getElem? (i := 952) (by decide +kernel)) (by decide +kernel)
theorem wd_954 : Cond.lays "PuppetStageModel" "PuppetStageModel" "hadExcess" "J" ∈ mGood := mGood_in (List.mem_of_getElem? (i := 954) (by decide +kernel)) (by decide +kernel)
theorem wd_956 : Cond.lays "PuppetStageModel" "PuppetStageModel" "hadDepth" "J" ∈ mGood := mGood_in (List.mem_of_getElem? (i := 956) (by decide +kernel)) (by decide +kernel)
theorem wd_958 : Cond.laysFinal "PuppetStageModel" "PuppetStageModel" "bends" "[I" ∈ mGood := mGood_in (List.mem_of_getElem? (i := 958) (by decide +kernel)) (by decide +kernel)
theorem wd_960 : Cond.laysFinal "PuppetStageModel" "PuppetStageModel" "found" "[I" ∈ mGood := mGood_in (List.mem_of_getElem? (i := 960) (by decide +kernel)) (by decide +kernel)
theorem wd_962 : Cond.lays "PuppetStageModel" "PuppetStageModel" "ax" "J" ∈ mGood := mGood_in (List.mem_of_getElem? (i := 962) (by decide +kernel)) (by decide +kernel)
theorem wd_964 : Cond.lays "PuppetStageModel" "PuppetStageModel" "ay" "J" ∈ mGood := mGood_in (List.mem_of_getElem? (i := 964) (by decide +kernel)) (by decide +kernel)
theorem wd_966 : Cond.lays "PuppetStageModel" "PuppetStageModel" "bx" "J" ∈ mGood := mGood_in (List.mem_of_getElem? (i := 966) (by decide +kernel)) (by decide +kernel)
theorem wd_968 : Cond.lays "PuppetStageModel" "PuppetStageModel" "by" "J" ∈ mGood := mGood_in (List.mem_of_getElem? (i := 968) (by decide +kernel)) (by decide +kernel)
theorem wd_970 : Cond.lays "PuppetStageModel" "PuppetStageModel" "cx" "J" ∈ mGood := mGood_in (List.mem_of_getElem? (i := 970) (by decide +kernel)) (by decide +kernel)
theorem wd_972 : Cond.lays "PuppetStageModel" "PuppetStageModel" "cy" "J" ∈ mGood := mGood_in (List.mem_of_getElem? (i := 972) (by decide +kernel)) (by decide +kernel)
theorem wd_974 : Cond.lays "PuppetStageModel" "PuppetStageModel" "dx" "J" ∈ mGood := mGood_in (List.mem_of_getElem? (i := 974) (by decide +kernel)) (by decide +kernel)
theorem wd_976 : Cond.lays "PuppetStageModel" "PuppetStageModel" "dy" "J" ∈ mGood := mGood_in (List.mem_of_getElem? (i := 976) (by decide +kernel)) (by decide +kernel)
theorem inw_0 : ∀ w ∈ u_ws RX0 TX0 5, w ∈ mGood := fun w hw => by
  obtain ⟨k, hk, rfl⟩ := List.mem_map.mp hw
  have hk := List.mem_range.mp hk
  match k, hk with
  | 0, _ => exact wd_170
  | 1, _ => exact wd_172
  | 2, _ => exact wd_174
  | 3, _ => exact wd_176
  | 4, _ => exact wd_178
  | k + 5, h => exact absurd h (by omega)
theorem inw_1 : ∀ w ∈ u_ws RX1 TX1 11, w ∈ mGood := fun w hw => by
  obtain ⟨k, hk, rfl⟩ := List.mem_map.mp hw
  have hk := List.mem_range.mp hk
  match k, hk with
  | 0, _ => exact wd_333
  | 1, _ => exact wd_335
  | 2, _ => exact wd_337
  | 3, _ => exact wd_339
  | 4, _ => exact wd_341
  | 5, _ => exact wd_343
  | 6, _ => exact wd_345
  | 7, _ => exact wd_347
  | 8, _ => exact wd_349
  | 9, _ => exact wd_351
  | 10, _ => exact wd_353
  | k + 11, h => exact absurd h (by omega)
theorem inw_2 : ∀ w ∈ u_ws RX2 TX2 6, w ∈ mGood := fun w hw => by
  obtain ⟨k, hk, rfl⟩ := List.mem_map.mp hw
  have hk := List.mem_range.mp hk
  match k, hk with
  | 0, _ => exact wd_242
  | 1, _ => exact wd_244
  | 2, _ => exact wd_246
  | 3, _ => exact wd_248
  | 4, _ => exact wd_250
  | 5, _ => exact wd_252
  | k + 6, h => exact absurd h (by omega)
theorem inw_3 : ∀ w ∈ u_ws RX3 TX3 4, w ∈ mGood := fun w hw => by
  obtain ⟨k, hk, rfl⟩ := List.mem_map.mp hw
  have hk := List.mem_range.mp hk
  match k, hk with
  | 0, _ => exact wd_301
  | 1, _ => exact wd_303
  | 2, _ => exact wd_305
  | 3, _ => exact wd_307
  | k + 4, h => exact absurd h (by omega)
theorem inw_4 : ∀ w ∈ u_ws RX4 TX4 7, w ∈ mGood := fun w hw => by
  obtain ⟨k, hk, rfl⟩ := List.mem_map.mp hw
  have hk := List.mem_range.mp hk
  match k, hk with
  | 0, _ => exact wd_206
  | 1, _ => exact wd_208
  | 2, _ => exact wd_210
  | 3, _ => exact wd_212
  | 4, _ => exact wd_214
  | 5, _ => exact wd_216
  | 6, _ => exact wd_218
  | k + 7, h => exact absurd h (by omega)
theorem inw_5 : ∀ w ∈ u_ws RX5 TX5 7, w ∈ mGood := fun w hw => by
  obtain ⟨k, hk, rfl⟩ := List.mem_map.mp hw
  have hk := List.mem_range.mp hk
  match k, hk with
  | 0, _ => exact wd_111
  | 1, _ => exact wd_113
  | 2, _ => exact wd_115
  | 3, _ => exact wd_117
  | 4, _ => exact wd_119
  | 5, _ => exact wd_121
  | 6, _ => exact wd_123
  | k + 7, h => exact absurd h (by omega)
theorem inw_6 : ∀ w ∈ u_ws RX6 TX6 4, w ∈ mGood := fun w hw => by
  obtain ⟨k, hk, rfl⟩ := List.mem_map.mp hw
  have hk := List.mem_range.mp hk
  match k, hk with
  | 0, _ => exact wd_378
  | 1, _ => exact wd_380
  | 2, _ => exact wd_382
  | 3, _ => exact wd_384
  | k + 4, h => exact absurd h (by omega)
theorem inw_7 : ∀ w ∈ u_ws RX7 TX7 6, w ∈ mGood := fun w hw => by
  obtain ⟨k, hk, rfl⟩ := List.mem_map.mp hw
  have hk := List.mem_range.mp hk
  match k, hk with
  | 0, _ => exact wd_274
  | 1, _ => exact wd_276
  | 2, _ => exact wd_278
  | 3, _ => exact wd_280
  | 4, _ => exact wd_282
  | 5, _ => exact wd_284
  | k + 6, h => exact absurd h (by omega)
theorem inw_8 : ∀ w ∈ u_ws RX8 TX8 1, w ∈ mGood := fun w hw => by
  obtain ⟨k, hk, rfl⟩ := List.mem_map.mp hw
  have hk := List.mem_range.mp hk
  match k, hk with
  | 0, _ => exact wd_365
  | k + 1, h => exact absurd h (by omega)
theorem inw_9 : ∀ w ∈ u_ws RX9 TX9 3, w ∈ mGood := fun w hw => by
  obtain ⟨k, hk, rfl⟩ := List.mem_map.mp hw
  have hk := List.mem_range.mp hk
  match k, hk with
  | 0, _ => exact wd_141
  | 1, _ => exact wd_143
  | 2, _ => exact wd_145
  | k + 3, h => exact absurd h (by omega)
theorem inw_10 : ∀ w ∈ u_ws RX10 TX10 11, w ∈ mGood := fun w hw => by
  obtain ⟨k, hk, rfl⟩ := List.mem_map.mp hw
  have hk := List.mem_range.mp hk
  match k, hk with
  | 0, _ => exact wd_398
  | 1, _ => exact wd_400
  | 2, _ => exact wd_402
  | 3, _ => exact wd_404
  | 4, _ => exact wd_406
  | 5, _ => exact wd_408
  | 6, _ => exact wd_410
  | 7, _ => exact wd_412
  | 8, _ => exact wd_414
  | 9, _ => exact wd_416
  | 10, _ => exact wd_418
  | k + 11, h => exact absurd h (by omega)
theorem inw_11 : ∀ w ∈ u_ws RX11 TX11 22, w ∈ mGood := fun w hw => by
  obtain ⟨k, hk, rfl⟩ := List.mem_map.mp hw
  have hk := List.mem_range.mp hk
  match k, hk with
  | 0, _ => exact wd_934
  | 1, _ => exact wd_936
  | 2, _ => exact wd_938
  | 3, _ => exact wd_940
  | 4, _ => exact wd_942
  | 5, _ => exact wd_944
  | 6, _ => exact wd_946
  | 7, _ => exact wd_948
  | 8, _ => exact wd_950
  | 9, _ => exact wd_952
  | 10, _ => exact wd_954
  | 11, _ => exact wd_956
  | 12, _ => exact wd_958
  | 13, _ => exact wd_960
  | 14, _ => exact wd_962
  | 15, _ => exact wd_964
  | 16, _ => exact wd_966
  | 17, _ => exact wd_968
  | 18, _ => exact wd_970
  | 19, _ => exact wd_972
  | 20, _ => exact wd_974
  | 21, _ => exact wd_976
  | k + 22, h => exact absurd h (by omega)
theorem fd_X0_9 : mFok RX0 0 0 2 9 RX0 TX0 5 := ⟨rfl, inw_0, by decide, rfl, rfl, wd_154⟩
theorem fd_X0_15 : mFok RX0 0 1 2 15 RX0 TX0 5 := ⟨rfl, inw_0, by decide, rfl, rfl, wd_157⟩
theorem fd_X0_18 : mFok RX0 0 2 0 18 RX0 TX0 5 := ⟨rfl, inw_0, by decide, rfl, rfl, wd_160⟩
theorem fd_X0_22 : mFok RX0 0 3 0 22 RX0 TX0 5 := ⟨rfl, inw_0, by decide, rfl, rfl, wd_163⟩
theorem fd_X0_25 : mFok RX0 0 4 0 25 RX0 TX0 5 := ⟨rfl, inw_0, by decide, rfl, rfl, wd_166⟩
theorem fd_X1_9 : mFok RX1 1 0 2 9 RX1 TX1 11 := ⟨rfl, inw_1, by decide, rfl, rfl, wd_317⟩
theorem fd_X1_15 : mFok RX1 1 1 2 15 RX1 TX1 11 := ⟨rfl, inw_1, by decide, rfl, rfl, wd_319⟩
theorem fd_X1_18 : mFok RX1 1 2 2 18 RX1 TX1 11 := ⟨rfl, inw_1, by decide, rfl, rfl, wd_320⟩
theorem fd_X1_21 : mFok RX1 1 3 2 21 RX1 TX1 11 := ⟨rfl, inw_1, by decide, rfl, rfl, wd_321⟩
theorem fd_X1_24 : mFok RX1 1 4 2 24 RX1 TX1 11 := ⟨rfl, inw_1, by decide, rfl, rfl, wd_322⟩
theorem fd_X1_27 : mFok RX1 1 5 2 27 RX1 TX1 11 := ⟨rfl, inw_1, by decide, rfl, rfl, wd_323⟩
theorem fd_X1_30 : mFok RX1 1 6 2 30 RX1 TX1 11 := ⟨rfl, inw_1, by decide, rfl, rfl, wd_325⟩
theorem fd_X1_33 : mFok RX1 1 7 2 33 RX1 TX1 11 := ⟨rfl, inw_1, by decide, rfl, rfl, wd_327⟩
theorem fd_X1_36 : mFok RX1 1 8 2 36 RX1 TX1 11 := ⟨rfl, inw_1, by decide, rfl, rfl, wd_329⟩
theorem fd_X1_41 : mFok RX1 1 9 1 41 RX1 TX1 11 := ⟨rfl, inw_1, by decide, rfl, rfl, wd_331⟩
theorem fd_X1_45 : mFok RX1 1 10 1 45 RX1 TX1 11 := ⟨rfl, inw_1, by decide, rfl, rfl, wd_332⟩
theorem fd_X1_66 : mFok RX1 0 4 0 66 RX0 TX0 5 := ⟨rfl, inw_0, by decide, rfl, rfl, wd_167⟩
theorem fd_X1_72 : mFok RX1 0 2 0 72 RX0 TX0 5 := ⟨rfl, inw_0, by decide, rfl, rfl, wd_161⟩
theorem fd_X1_75 : mFok RX1 0 0 2 75 RX0 TX0 5 := ⟨rfl, inw_0, by decide, rfl, rfl, wd_155⟩
theorem fd_X1_82 : mFok RX1 0 1 2 82 RX0 TX0 5 := ⟨rfl, inw_0, by decide, rfl, rfl, wd_158⟩
theorem fd_X1_85 : mFok RX1 0 3 0 85 RX0 TX0 5 := ⟨rfl, inw_0, by decide, rfl, rfl, wd_164⟩
theorem fd_X1_91 : mFok RX1 5 4 0 91 RX5 TX5 7 := ⟨rfl, inw_5, by decide, rfl, rfl, wd_104⟩
theorem fd_X1_96 : mFok RX1 5 2 2 96 RX5 TX5 7 := ⟨rfl, inw_5, by decide, rfl, rfl, wd_91⟩
theorem fd_X1_99 : mFok RX1 5 3 2 99 RX5 TX5 7 := ⟨rfl, inw_5, by decide, rfl, rfl, wd_97⟩
theorem fd_X1_102 : mFok RX1 5 5 0 102 RX5 TX5 7 := ⟨rfl, inw_5, by decide, rfl, rfl, wd_107⟩
theorem fd_X1_105 : mFok RX1 5 6 0 105 RX5 TX5 7 := ⟨rfl, inw_5, by decide, rfl, rfl, wd_110⟩
theorem fd_X1_108 : mFok RX1 5 0 2 108 RX5 TX5 7 := ⟨rfl, inw_5, by decide, rfl, rfl, wd_85⟩
theorem fd_X1_48 : mFok RX1 7 2 2 48 RX7 TX7 6 := ⟨rfl, inw_7, by decide, rfl, rfl, wd_263⟩
theorem fd_X1_58 : mFok RX1 7 0 2 58 RX7 TX7 6 := ⟨rfl, inw_7, by decide, rfl, rfl, wd_256⟩
theorem fd_X1_118 : mFok RX1 4 0 2 118 RX4 TX4 7 := ⟨rfl, inw_4, by decide, rfl, rfl, wd_188⟩
theorem fd_X1_123 : mFok RX1 4 1 2 123 RX4 TX4 7 := ⟨rfl, inw_4, by decide, rfl, rfl, wd_191⟩
theorem fd_X1_126 : mFok RX1 4 2 2 126 RX4 TX4 7 := ⟨rfl, inw_4, by decide, rfl, rfl, wd_194⟩
theorem fd_X1_129 : mFok RX1 4 3 2 129 RX4 TX4 7 := ⟨rfl, inw_4, by decide, rfl, rfl, wd_197⟩
theorem fd_X4_24 : mFok RX4 4 4 2 24 RX4 TX4 7 := ⟨rfl, inw_4, by decide, rfl, rfl, wd_199⟩
theorem fd_X4_27 : mFok RX4 4 5 2 27 RX4 TX4 7 := ⟨rfl, inw_4, by decide, rfl, rfl, wd_201⟩
theorem fd_X1_150 : mFok RX1 5 1 2 150 RX5 TX5 7 := ⟨rfl, inw_5, by decide, rfl, rfl, wd_88⟩
theorem fd_X1_153 : mFok RX1 7 3 2 153 RX7 TX7 6 := ⟨rfl, inw_7, by decide, rfl, rfl, wd_268⟩
theorem fd_X1_157 : mFok RX1 4 6 0 157 RX4 TX4 7 := ⟨rfl, inw_4, by decide, rfl, rfl, wd_204⟩
theorem fd_X6_7 : mFok RX6 6 0 1 7 RX6 TX6 4 := ⟨rfl, inw_6, by decide, rfl, rfl, wd_374⟩
theorem fd_X6_13 : mFok RX6 6 1 1 13 RX6 TX6 4 := ⟨rfl, inw_6, by decide, rfl, rfl, wd_375⟩
theorem fd_X6_16 : mFok RX6 6 2 1 16 RX6 TX6 4 := ⟨rfl, inw_6, by decide, rfl, rfl, wd_376⟩
theorem fd_X6_19 : mFok RX6 6 3 1 19 RX6 TX6 4 := ⟨rfl, inw_6, by decide, rfl, rfl, wd_377⟩
theorem fd_X2_9 : mFok RX2 2 0 2 9 RX2 TX2 6 := ⟨rfl, inw_2, by decide, rfl, rfl, wd_227⟩
theorem fd_X2_15 : mFok RX2 2 1 2 15 RX2 TX2 6 := ⟨rfl, inw_2, by decide, rfl, rfl, wd_229⟩
theorem fd_X2_18 : mFok RX2 2 2 2 18 RX2 TX2 6 := ⟨rfl, inw_2, by decide, rfl, rfl, wd_231⟩
theorem fd_X2_21 : mFok RX2 2 3 2 21 RX2 TX2 6 := ⟨rfl, inw_2, by decide, rfl, rfl, wd_234⟩
theorem fd_X2_24 : mFok RX2 2 4 0 24 RX2 TX2 6 := ⟨rfl, inw_2, by decide, rfl, rfl, wd_236⟩
theorem fd_X2_28 : mFok RX2 2 5 0 28 RX2 TX2 6 := ⟨rfl, inw_2, by decide, rfl, rfl, wd_239⟩
theorem fd_X2_31 : mFok RX2 5 4 0 31 RX5 TX5 7 := ⟨rfl, inw_5, by decide, rfl, rfl, wd_102⟩
theorem fd_X2_36 : mFok RX2 5 3 2 36 RX5 TX5 7 := ⟨rfl, inw_5, by decide, rfl, rfl, wd_95⟩
theorem fd_X5_9 : mFok RX5 5 0 2 9 RX5 TX5 7 := ⟨rfl, inw_5, by decide, rfl, rfl, wd_84⟩
theorem fd_X5_15 : mFok RX5 5 1 2 15 RX5 TX5 7 := ⟨rfl, inw_5, by decide, rfl, rfl, wd_87⟩
theorem fd_X5_18 : mFok RX5 5 2 2 18 RX5 TX5 7 := ⟨rfl, inw_5, by decide, rfl, rfl, wd_90⟩
theorem fd_X5_21 : mFok RX5 5 3 2 21 RX5 TX5 7 := ⟨rfl, inw_5, by decide, rfl, rfl, wd_93⟩
theorem fd_X5_24 : mFok RX5 5 4 0 24 RX5 TX5 7 := ⟨rfl, inw_5, by decide, rfl, rfl, wd_99⟩
theorem fd_X5_28 : mFok RX5 5 5 0 28 RX5 TX5 7 := ⟨rfl, inw_5, by decide, rfl, rfl, wd_105⟩
theorem fd_X5_31 : mFok RX5 5 6 0 31 RX5 TX5 7 := ⟨rfl, inw_5, by decide, rfl, rfl, wd_108⟩
theorem fd_X9_9 : mFok RX9 9 0 2 9 RX9 TX9 3 := ⟨rfl, inw_9, by decide, rfl, rfl, wd_133⟩
theorem fd_X9_15 : mFok RX9 9 1 2 15 RX9 TX9 3 := ⟨rfl, inw_9, by decide, rfl, rfl, wd_136⟩
theorem fd_X9_18 : mFok RX9 9 2 0 18 RX9 TX9 3 := ⟨rfl, inw_9, by decide, rfl, rfl, wd_138⟩
theorem fd_X4_9 : mFok RX4 4 0 2 9 RX4 TX4 7 := ⟨rfl, inw_4, by decide, rfl, rfl, wd_187⟩
theorem fd_X4_15 : mFok RX4 4 1 2 15 RX4 TX4 7 := ⟨rfl, inw_4, by decide, rfl, rfl, wd_190⟩
theorem fd_X4_18 : mFok RX4 4 2 2 18 RX4 TX4 7 := ⟨rfl, inw_4, by decide, rfl, rfl, wd_193⟩
theorem fd_X4_21 : mFok RX4 4 3 2 21 RX4 TX4 7 := ⟨rfl, inw_4, by decide, rfl, rfl, wd_196⟩
theorem fd_X4_30 : mFok RX4 4 6 0 30 RX4 TX4 7 := ⟨rfl, inw_4, by decide, rfl, rfl, wd_203⟩
theorem fd_X7_12 : mFok RX7 7 0 2 12 RX7 TX7 6 := ⟨rfl, inw_7, by decide, rfl, rfl, wd_255⟩
theorem fd_X7_21 : mFok RX7 7 1 2 21 RX7 TX7 6 := ⟨rfl, inw_7, by decide, rfl, rfl, wd_259⟩
theorem fd_X7_28 : mFok RX7 7 2 2 28 RX7 TX7 6 := ⟨rfl, inw_7, by decide, rfl, rfl, wd_262⟩
theorem fd_X7_35 : mFok RX7 7 3 2 35 RX7 TX7 6 := ⟨rfl, inw_7, by decide, rfl, rfl, wd_266⟩
theorem fd_X7_42 : mFok RX7 7 4 2 42 RX7 TX7 6 := ⟨rfl, inw_7, by decide, rfl, rfl, wd_269⟩
theorem fd_X7_46 : mFok RX7 7 5 0 46 RX7 TX7 6 := ⟨rfl, inw_7, by decide, rfl, rfl, wd_271⟩
theorem fd_X3_11 : mFok RX3 3 0 2 11 RX3 TX3 4 := ⟨rfl, inw_3, by decide, rfl, rfl, wd_296⟩
theorem fd_X3_17 : mFok RX3 3 1 2 17 RX3 TX3 4 := ⟨rfl, inw_3, by decide, rfl, rfl, wd_297⟩
theorem fd_X3_20 : mFok RX3 3 2 0 20 RX3 TX3 4 := ⟨rfl, inw_3, by decide, rfl, rfl, wd_298⟩
theorem fd_X3_24 : mFok RX3 3 3 0 24 RX3 TX3 4 := ⟨rfl, inw_3, by decide, rfl, rfl, wd_299⟩
theorem fd_X7_66 : mFok RX7 0 4 0 66 RX0 TX0 5 := ⟨rfl, inw_0, by decide, rfl, rfl, wd_168⟩
theorem fd_X7_69 : mFok RX7 5 3 2 69 RX5 TX5 7 := ⟨rfl, inw_5, by decide, rfl, rfl, wd_94⟩
theorem fd_X7_73 : mFok RX7 5 4 0 73 RX5 TX5 7 := ⟨rfl, inw_5, by decide, rfl, rfl, wd_103⟩
theorem fd_X7_80 : mFok RX7 9 0 2 80 RX9 TX9 3 := ⟨rfl, inw_9, by decide, rfl, rfl, wd_134⟩
theorem fd_X7_83 : mFok RX7 9 2 0 83 RX9 TX9 3 := ⟨rfl, inw_9, by decide, rfl, rfl, wd_139⟩
theorem fd_X7_86 : mFok RX7 2 2 2 86 RX2 TX2 6 := ⟨rfl, inw_2, by decide, rfl, rfl, wd_232⟩
theorem fd_X7_88 : mFok RX7 2 4 0 88 RX2 TX2 6 := ⟨rfl, inw_2, by decide, rfl, rfl, wd_237⟩
theorem fd_X7_91 : mFok RX7 2 3 2 91 RX2 TX2 6 := ⟨rfl, inw_2, by decide, rfl, rfl, wd_235⟩
theorem fd_X7_94 : mFok RX7 2 5 0 94 RX2 TX2 6 := ⟨rfl, inw_2, by decide, rfl, rfl, wd_241⟩
theorem fd_X8_10 : mFok RX8 8 0 2 10 RX8 TX8 1 := ⟨rfl, inw_8, by decide, rfl, rfl, wd_364⟩
theorem fd_X8_37 : mFok RX8 7 0 2 37 RX7 TX7 6 := ⟨rfl, inw_7, by decide, rfl, rfl, wd_258⟩
theorem fd_X8_54 : mFok RX8 5 3 2 54 RX5 TX5 7 := ⟨rfl, inw_5, by decide, rfl, rfl, wd_96⟩
theorem fd_X8_58 : mFok RX8 7 1 2 58 RX7 TX7 6 := ⟨rfl, inw_7, by decide, rfl, rfl, wd_261⟩
theorem fd_X8_33 : mFok RX8 7 5 0 33 RX7 TX7 6 := ⟨rfl, inw_7, by decide, rfl, rfl, wd_272⟩
theorem fd_X8_41 : mFok RX8 5 4 0 41 RX5 TX5 7 := ⟨rfl, inw_5, by decide, rfl, rfl, wd_101⟩
theorem fd_X8_16 : mFok RX8 7 2 2 16 RX7 TX7 6 := ⟨rfl, inw_7, by decide, rfl, rfl, wd_264⟩
theorem fd_X10_10 : mFok RX10 10 0 2 10 RX10 TX10 11 := ⟨rfl, inw_10, by decide, rfl, rfl, wd_387⟩
theorem fd_X10_16 : mFok RX10 10 1 2 16 RX10 TX10 11 := ⟨rfl, inw_10, by decide, rfl, rfl, wd_388⟩
theorem fd_X10_22 : mFok RX10 10 2 2 22 RX10 TX10 11 := ⟨rfl, inw_10, by decide, rfl, rfl, wd_389⟩
theorem fd_X10_29 : mFok RX10 10 3 2 29 RX10 TX10 11 := ⟨rfl, inw_10, by decide, rfl, rfl, wd_390⟩
theorem fd_X10_33 : mFok RX10 10 4 2 33 RX10 TX10 11 := ⟨rfl, inw_10, by decide, rfl, rfl, wd_391⟩
theorem fd_X10_39 : mFok RX10 10 5 2 39 RX10 TX10 11 := ⟨rfl, inw_10, by decide, rfl, rfl, wd_392⟩
theorem fd_X10_46 : mFok RX10 10 6 2 46 RX10 TX10 11 := ⟨rfl, inw_10, by decide, rfl, rfl, wd_393⟩
theorem fd_X10_50 : mFok RX10 10 7 2 50 RX10 TX10 11 := ⟨rfl, inw_10, by decide, rfl, rfl, wd_394⟩
theorem fd_X10_53 : mFok RX10 10 8 2 53 RX10 TX10 11 := ⟨rfl, inw_10, by decide, rfl, rfl, wd_395⟩
theorem fd_X10_57 : mFok RX10 10 9 2 57 RX10 TX10 11 := ⟨rfl, inw_10, by decide, rfl, rfl, wd_396⟩
theorem fd_X10_60 : mFok RX10 10 10 1 60 RX10 TX10 11 := ⟨rfl, inw_10, by decide, rfl, rfl, wd_397⟩
theorem fd_X10_68 : mFok RX10 7 0 2 68 RX7 TX7 6 := ⟨rfl, inw_7, by decide, rfl, rfl, wd_257⟩
theorem fd_X10_72 : mFok RX10 5 4 0 72 RX5 TX5 7 := ⟨rfl, inw_5, by decide, rfl, rfl, wd_100⟩
theorem fd_X10_84 : mFok RX10 7 1 2 84 RX7 TX7 6 := ⟨rfl, inw_7, by decide, rfl, rfl, wd_260⟩
theorem fd_X10_102 : mFok RX10 7 4 2 102 RX7 TX7 6 := ⟨rfl, inw_7, by decide, rfl, rfl, wd_270⟩
theorem fd_X10_106 : mFok RX10 2 5 0 106 RX2 TX2 6 := ⟨rfl, inw_2, by decide, rfl, rfl, wd_240⟩
theorem fd_X10_115 : mFok RX10 7 3 2 115 RX7 TX7 6 := ⟨rfl, inw_7, by decide, rfl, rfl, wd_267⟩
theorem fd_X10_132 : mFok RX10 5 5 0 132 RX5 TX5 7 := ⟨rfl, inw_5, by decide, rfl, rfl, wd_106⟩
theorem fd_X10_135 : mFok RX10 5 6 0 135 RX5 TX5 7 := ⟨rfl, inw_5, by decide, rfl, rfl, wd_109⟩
theorem fd_X10_145 : mFok RX10 9 2 0 145 RX9 TX9 3 := ⟨rfl, inw_9, by decide, rfl, rfl, wd_140⟩
theorem fd_X10_156 : mFok RX10 5 3 2 156 RX5 TX5 7 := ⟨rfl, inw_5, by decide, rfl, rfl, wd_98⟩
theorem fd_X10_159 : mFok RX10 9 0 2 159 RX9 TX9 3 := ⟨rfl, inw_9, by decide, rfl, rfl, wd_135⟩
theorem fd_X10_162 : mFok RX10 9 1 2 162 RX9 TX9 3 := ⟨rfl, inw_9, by decide, rfl, rfl, wd_137⟩
theorem fd_X10_165 : mFok RX10 7 2 2 165 RX7 TX7 6 := ⟨rfl, inw_7, by decide, rfl, rfl, wd_265⟩
theorem fd_X10_178 : mFok RX10 0 0 2 178 RX0 TX0 5 := ⟨rfl, inw_0, by decide, rfl, rfl, wd_156⟩
theorem fd_X10_181 : mFok RX10 0 1 2 181 RX0 TX0 5 := ⟨rfl, inw_0, by decide, rfl, rfl, wd_159⟩
theorem fd_X10_184 : mFok RX10 7 5 0 184 RX7 TX7 6 := ⟨rfl, inw_7, by decide, rfl, rfl, wd_273⟩
theorem fd_X10_187 : mFok RX10 4 6 0 187 RX4 TX4 7 := ⟨rfl, inw_4, by decide, rfl, rfl, wd_205⟩
theorem fd_X10_188 : mFok RX10 0 2 0 188 RX0 TX0 5 := ⟨rfl, inw_0, by decide, rfl, rfl, wd_162⟩
theorem fd_X10_191 : mFok RX10 0 3 0 191 RX0 TX0 5 := ⟨rfl, inw_0, by decide, rfl, rfl, wd_165⟩
theorem fd_X10_194 : mFok RX10 0 4 0 194 RX0 TX0 5 := ⟨rfl, inw_0, by decide, rfl, rfl, wd_169⟩
theorem fd_X10_197 : mFok RX10 2 4 0 197 RX2 TX2 6 := ⟨rfl, inw_2, by decide, rfl, rfl, wd_238⟩
theorem fd_X10_202 : mFok RX10 5 0 2 202 RX5 TX5 7 := ⟨rfl, inw_5, by decide, rfl, rfl, wd_86⟩
theorem fd_X10_205 : mFok RX10 5 1 2 205 RX5 TX5 7 := ⟨rfl, inw_5, by decide, rfl, rfl, wd_89⟩
theorem fd_X10_208 : mFok RX10 5 2 2 208 RX5 TX5 7 := ⟨rfl, inw_5, by decide, rfl, rfl, wd_92⟩
theorem fd_X10_215 : mFok RX10 1 0 2 215 RX1 TX1 11 := ⟨rfl, inw_1, by decide, rfl, rfl, wd_318⟩
theorem fd_X10_236 : mFok RX10 1 7 2 236 RX1 TX1 11 := ⟨rfl, inw_1, by decide, rfl, rfl, wd_328⟩
theorem fd_X10_239 : mFok RX10 1 8 2 239 RX1 TX1 11 := ⟨rfl, inw_1, by decide, rfl, rfl, wd_330⟩
theorem fd_X10_249 : mFok RX10 4 0 2 249 RX4 TX4 7 := ⟨rfl, inw_4, by decide, rfl, rfl, wd_189⟩
theorem fd_X10_255 : mFok RX10 4 4 2 255 RX4 TX4 7 := ⟨rfl, inw_4, by decide, rfl, rfl, wd_200⟩
theorem fd_X10_256 : mFok RX10 4 5 2 256 RX4 TX4 7 := ⟨rfl, inw_4, by decide, rfl, rfl, wd_202⟩
theorem fd_X10_267 : mFok RX10 4 2 2 267 RX4 TX4 7 := ⟨rfl, inw_4, by decide, rfl, rfl, wd_195⟩
theorem fd_X10_270 : mFok RX10 4 3 2 270 RX4 TX4 7 := ⟨rfl, inw_4, by decide, rfl, rfl, wd_198⟩
theorem fd_X10_273 : mFok RX10 4 1 2 273 RX4 TX4 7 := ⟨rfl, inw_4, by decide, rfl, rfl, wd_192⟩
theorem fd_X10_312 : mFok RX10 2 0 2 312 RX2 TX2 6 := ⟨rfl, inw_2, by decide, rfl, rfl, wd_228⟩
theorem fd_X10_314 : mFok RX10 2 1 2 314 RX2 TX2 6 := ⟨rfl, inw_2, by decide, rfl, rfl, wd_230⟩
theorem fd_X10_316 : mFok RX10 2 2 2 316 RX2 TX2 6 := ⟨rfl, inw_2, by decide, rfl, rfl, wd_233⟩
theorem fd_X10_338 : mFok RX10 1 5 2 338 RX1 TX1 11 := ⟨rfl, inw_1, by decide, rfl, rfl, wd_324⟩
theorem fd_X10_341 : mFok RX10 1 6 2 341 RX1 TX1 11 := ⟨rfl, inw_1, by decide, rfl, rfl, wd_326⟩
theorem fd_X10_367 : mFok RX10 3 3 0 367 RX3 TX3 4 := ⟨rfl, inw_3, by decide, rfl, rfl, wd_300⟩
theorem fd_X11_16 : mFok RX11 11 4 2 16 RX11 TX11 22 := ⟨rfl, inw_11, by decide, rfl, rfl, wd_916⟩
theorem fd_X11_7 : mFok RX11 11 0 2 7 RX11 TX11 22 := ⟨rfl, inw_11, by decide, rfl, rfl, wd_912⟩
theorem fd_X11_13 : mFok RX11 11 1 2 13 RX11 TX11 22 := ⟨rfl, inw_11, by decide, rfl, rfl, wd_913⟩
theorem fd_X11_19 : mFok RX11 11 5 2 19 RX11 TX11 22 := ⟨rfl, inw_11, by decide, rfl, rfl, wd_917⟩
theorem fd_X11_23 : mFok RX11 11 6 2 23 RX11 TX11 22 := ⟨rfl, inw_11, by decide, rfl, rfl, wd_918⟩
theorem fd_X11_26 : mFok RX11 11 7 2 26 RX11 TX11 22 := ⟨rfl, inw_11, by decide, rfl, rfl, wd_919⟩
theorem fd_X11_29 : mFok RX11 11 8 2 29 RX11 TX11 22 := ⟨rfl, inw_11, by decide, rfl, rfl, wd_920⟩
theorem fd_X11_32 : mFok RX11 11 9 2 32 RX11 TX11 22 := ⟨rfl, inw_11, by decide, rfl, rfl, wd_921⟩
theorem fd_X11_35 : mFok RX11 11 12 2 35 RX11 TX11 22 := ⟨rfl, inw_11, by decide, rfl, rfl, wd_924⟩
theorem fd_X11_38 : mFok RX11 11 13 2 38 RX11 TX11 22 := ⟨rfl, inw_11, by decide, rfl, rfl, wd_925⟩
theorem fd_X11_57 : mFok RX11 11 2 0 57 RX11 TX11 22 := ⟨rfl, inw_11, by decide, rfl, rfl, wd_914⟩
theorem fd_X11_170 : mFok RX11 11 10 1 170 RX11 TX11 22 := ⟨rfl, inw_11, by decide, rfl, rfl, wd_922⟩
theorem fd_X11_174 : mFok RX11 11 11 1 174 RX11 TX11 22 := ⟨rfl, inw_11, by decide, rfl, rfl, wd_923⟩
theorem fd_X11_193 : mFok RX11 11 3 0 193 RX11 TX11 22 := ⟨rfl, inw_11, by decide, rfl, rfl, wd_915⟩
theorem fd_X11_204 : mFok RX11 11 14 1 204 RX11 TX11 22 := ⟨rfl, inw_11, by decide, rfl, rfl, wd_926⟩
theorem fd_X11_207 : mFok RX11 11 15 1 207 RX11 TX11 22 := ⟨rfl, inw_11, by decide, rfl, rfl, wd_927⟩
theorem fd_X11_210 : mFok RX11 11 16 1 210 RX11 TX11 22 := ⟨rfl, inw_11, by decide, rfl, rfl, wd_928⟩
theorem fd_X11_213 : mFok RX11 11 17 1 213 RX11 TX11 22 := ⟨rfl, inw_11, by decide, rfl, rfl, wd_929⟩
theorem fd_X11_216 : mFok RX11 11 18 1 216 RX11 TX11 22 := ⟨rfl, inw_11, by decide, rfl, rfl, wd_930⟩
theorem fd_X11_219 : mFok RX11 11 19 1 219 RX11 TX11 22 := ⟨rfl, inw_11, by decide, rfl, rfl, wd_931⟩
theorem fd_X11_226 : mFok RX11 11 20 1 226 RX11 TX11 22 := ⟨rfl, inw_11, by decide, rfl, rfl, wd_932⟩
theorem fd_X11_229 : mFok RX11 11 21 1 229 RX11 TX11 22 := ⟨rfl, inw_11, by decide, rfl, rfl, wd_933⟩
