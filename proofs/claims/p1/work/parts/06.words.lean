theorem wg_objInit : Cond.code objectInit ⟨#[0xb1]⟩ 1 none ∈ GW := mG 188 (by decide +kernel) rfl
theorem wg_490 : Cond.fieldLink "RulerWord" 108 "RulerWord" "convened" "Z" ∈ GW := mG 490 (by decide +kernel) rfl
theorem inX10 : ∀ w ∈ u_ws RX10 TX10 18, w ∈ GW := by
  have h : (u_ws RX10 TX10 18).all (fun w => decide (w ∈ lw_tbl) && goodWord w) = true := by decide +kernel
  intro w hw
  have h1 := List.all_eq_true.mp h w hw
  simp only [Bool.and_eq_true, decide_eq_true_eq] at h1
  exact List.mem_filter.mpr h1
theorem wg_956 : Cond.methodLink "RulerWord" 273 yX10_phasesOver ∈ GW := mG 956 (by decide +kernel) rfl
theorem wg_157 : Cond.initialized "RulerWord" ∈ GW := mG 157 (by decide +kernel) rfl
theorem wg_958 : Cond.instanceMethod yX10_phasesOver ∈ GW := mG 958 (by decide +kernel) rfl
theorem wg_55 : Cond.selects "RulerWord" yX10_phasesOver yX10_phasesOver ∈ GW := mG 55 (by decide +kernel) rfl
theorem cV_X10_phasesOver : CV yX10_phasesOver cX10_phasesOver 1 (some .int) 0 := ⟨mG 959 (by decide +kernel) rfl, wg_157, wg_958, wg_55, by decide +kernel, by decide +kernel, by decide +kernel⟩
theorem wg_489 : Cond.fieldLink "RulerWord" 87 "RulerWord" "refused" "[I" ∈ GW := mG 489 (by decide +kernel) rfl
theorem wg_228 : Cond.fieldLink "RulerWord$Council" 15 "RulerWord$Council" "size" "I" ∈ GW := mG 228 (by decide +kernel) rfl
theorem inX2 : ∀ w ∈ u_ws RX2 TX2 8, w ∈ GW := by
  have h : (u_ws RX2 TX2 8).all (fun w => decide (w ∈ lw_tbl) && goodWord w) = true := by decide +kernel
  intro w hw
  have h1 := List.all_eq_true.mp h w hw
  simp only [Bool.and_eq_true, decide_eq_true_eq] at h1
  exact List.mem_filter.mpr h1
theorem wg_224 : Cond.fieldLink "RulerWord$Council" 9 "RulerWord$Council" "form" "I" ∈ GW := mG 224 (by decide +kernel) rfl
theorem wg_738 : Cond.methodLink "RulerWord$Council" 112 yX2_rounds ∈ GW := mG 738 (by decide +kernel) rfl
theorem wg_159 : Cond.initialized "RulerWord$Council" ∈ GW := mG 159 (by decide +kernel) rfl
theorem wg_740 : Cond.instanceMethod yX2_rounds ∈ GW := mG 740 (by decide +kernel) rfl
theorem wg_21 : Cond.selects "RulerWord$Council" yX2_rounds yX2_rounds ∈ GW := mG 21 (by decide +kernel) rfl
theorem cV_X2_rounds : CV yX2_rounds cX2_rounds 1 (some .int) 0 := ⟨mG 741 (by decide +kernel) rfl, wg_159, wg_740, wg_21, by decide +kernel, by decide +kernel, by decide +kernel⟩
theorem wg_340 : Cond.fieldLink "RulerWord$Course" 47 "RulerWord$Course" "gone" "I" ∈ GW := mG 340 (by decide +kernel) rfl
theorem inX3 : ∀ w ∈ u_ws RX3 TX3 18, w ∈ GW := by
  have h : (u_ws RX3 TX3 18).all (fun w => decide (w ∈ lw_tbl) && goodWord w) = true := by decide +kernel
  intro w hw
  have h1 := List.all_eq_true.mp h w hw
  simp only [Bool.and_eq_true, decide_eq_true_eq] at h1
  exact List.mem_filter.mpr h1
theorem wn_775 : Cond.methodLinkNest "RulerWord$Course" 89 yX2_phaseAt "RulerWord" ∈ NW := mN 775 (by decide +kernel) rfl
theorem wg_736 : Cond.instanceMethod yX2_phaseAt ∈ GW := mG 736 (by decide +kernel) rfl
theorem wg_20 : Cond.selects "RulerWord$Council" yX2_phaseAt yX2_phaseAt ∈ GW := mG 20 (by decide +kernel) rfl
theorem cV_X2_phaseAt : CV yX2_phaseAt cX2_phaseAt 2 (some .int) 1 := ⟨mG 737 (by decide +kernel) rfl, wg_159, wg_736, wg_20, by decide +kernel, by decide +kernel, by decide +kernel⟩
theorem wg_415 : Cond.fieldLink "RulerWord$Acts" 24 "RulerWord$Acts" "depth" "I" ∈ GW := mG 415 (by decide +kernel) rfl
theorem inX0 : ∀ w ∈ u_ws RX0 TX0 3, w ∈ GW := by
  have h : (u_ws RX0 TX0 3).all (fun w => decide (w ∈ lw_tbl) && goodWord w) = true := by decide +kernel
  intro w hw
  have h1 := List.all_eq_true.mp h w hw
  simp only [Bool.and_eq_true, decide_eq_true_eq] at h1
  exact List.mem_filter.mpr h1
theorem wg_751 : Cond.methodLink "RulerWord" 183 yX10_roundsLeft ∈ GW := mG 751 (by decide +kernel) rfl
theorem wg_753 : Cond.instanceMethod yX10_roundsLeft ∈ GW := mG 753 (by decide +kernel) rfl
theorem wg_23 : Cond.selects "RulerWord" yX10_roundsLeft yX10_roundsLeft ∈ GW := mG 23 (by decide +kernel) rfl
theorem cV_X10_roundsLeft : CV yX10_roundsLeft cX10_roundsLeft 1 (some .int) 0 := ⟨mG 754 (by decide +kernel) rfl, wg_157, wg_753, wg_23, by decide +kernel, by decide +kernel, by decide +kernel⟩
theorem wg_897 : Cond.methodLink "RulerWord" 217 yX10_isPeer ∈ GW := mG 897 (by decide +kernel) rfl
theorem wg_899 : Cond.instanceMethod yX10_isPeer ∈ GW := mG 899 (by decide +kernel) rfl
theorem wg_46 : Cond.selects "RulerWord" yX10_isPeer yX10_isPeer ∈ GW := mG 46 (by decide +kernel) rfl
theorem cV_X10_isPeer : CV yX10_isPeer cX10_isPeer 2 (some .boolean) 1 := ⟨mG 900 (by decide +kernel) rfl, wg_157, wg_899, wg_46, by decide +kernel, by decide +kernel, by decide +kernel⟩
theorem wg_475 : Cond.fieldLink "RulerWord" 10 "RulerWord" "tape" "LRulerWord$Tape;" ∈ GW := mG 475 (by decide +kernel) rfl
theorem wn_197 : Cond.fieldLinkNest "RulerWord" 91 "RulerWord$Tape" "length" "I" "RulerWord" ∈ NW := mN 197 (by decide +kernel) rfl
theorem inX8 : ∀ w ∈ u_ws RX8 TX8 5, w ∈ GW := by
  have h : (u_ws RX8 TX8 5).all (fun w => decide (w ∈ lw_tbl) && goodWord w) = true := by decide +kernel
  intro w hw
  have h1 := List.all_eq_true.mp h w hw
  simp only [Bool.and_eq_true, decide_eq_true_eq] at h1
  exact List.mem_filter.mpr h1
theorem wg_733 : Cond.constant "RulerWord" 144 (-1000000) ∈ GW := mG 733 (by decide +kernel) rfl
theorem wg_480 : Cond.fieldLink "RulerWord" 39 "RulerWord" "planned" "LRulerWord$Planned;" ∈ GW := mG 480 (by decide +kernel) rfl
theorem wn_289 : Cond.fieldLinkNest "RulerWord" 135 "RulerWord$Planned" "plan" "LRulerWord$Plan;" "RulerWord" ∈ NW := mN 289 (by decide +kernel) rfl
theorem inX6 : ∀ w ∈ u_ws RX6 TX6 3, w ∈ GW := by
  have h : (u_ws RX6 TX6 3).all (fun w => decide (w ∈ lw_tbl) && goodWord w) = true := by decide +kernel
  intro w hw
  have h1 := List.all_eq_true.mp h w hw
  simp only [Bool.and_eq_true, decide_eq_true_eq] at h1
  exact List.mem_filter.mpr h1
theorem wn_271 : Cond.fieldLinkNest "RulerWord" 141 "RulerWord$Plan" "lines" "I" "RulerWord" ∈ NW := mN 271 (by decide +kernel) rfl
theorem inX5 : ∀ w ∈ u_ws RX5 TX5 2, w ∈ GW := by
  have h : (u_ws RX5 TX5 2).all (fun w => decide (w ∈ lw_tbl) && goodWord w) = true := by decide +kernel
  intro w hw
  have h1 := List.all_eq_true.mp h w hw
  simp only [Bool.and_eq_true, decide_eq_true_eq] at h1
  exact List.mem_filter.mpr h1
theorem wg_889 : Cond.methodLink "RulerWord" 194 yX10_whyNotSaid ∈ GW := mG 889 (by decide +kernel) rfl
theorem wg_891 : Cond.instanceMethod yX10_whyNotSaid ∈ GW := mG 891 (by decide +kernel) rfl
theorem wg_44 : Cond.selects "RulerWord" yX10_whyNotSaid yX10_whyNotSaid ∈ GW := mG 44 (by decide +kernel) rfl
theorem cV_X10_whyNotSaid : CV yX10_whyNotSaid cX10_whyNotSaid 6 (some .int) 5 := ⟨mG 892 (by decide +kernel) rfl, wg_157, wg_891, wg_44, by decide +kernel, by decide +kernel, by decide +kernel⟩
theorem wg_906 : Cond.methodLink "RulerWord" 198 yX10_refuse ∈ GW := mG 906 (by decide +kernel) rfl
theorem wg_908 : Cond.instanceMethod yX10_refuse ∈ GW := mG 908 (by decide +kernel) rfl
theorem wg_48 : Cond.selects "RulerWord" yX10_refuse yX10_refuse ∈ GW := mG 48 (by decide +kernel) rfl
theorem cV_X10_refuse : CV yX10_refuse cX10_refuse 2 (some .int) 1 := ⟨mG 909 (by decide +kernel) rfl, wg_157, wg_908, wg_48, by decide +kernel, by decide +kernel, by decide +kernel⟩
theorem wg_477 : Cond.fieldLink "RulerWord" 23 "RulerWord" "council" "LRulerWord$Council;" ∈ GW := mG 477 (by decide +kernel) rfl
theorem wn_918 : Cond.methodLinkNest "RulerWord" 205 yX2_everybody "RulerWord" ∈ NW := mN 918 (by decide +kernel) rfl
theorem wg_920 : Cond.instanceMethod yX2_everybody ∈ GW := mG 920 (by decide +kernel) rfl
theorem wg_50 : Cond.selects "RulerWord$Council" yX2_everybody yX2_everybody ∈ GW := mG 50 (by decide +kernel) rfl
theorem cV_X2_everybody : CV yX2_everybody cX2_everybody 1 (some .int) 0 := ⟨mG 921 (by decide +kernel) rfl, wg_159, wg_920, wg_50, by decide +kernel, by decide +kernel, by decide +kernel⟩
theorem wg_922 : Cond.methodLink "RulerWord" 208 yX10_whyNotTold ∈ GW := mG 922 (by decide +kernel) rfl
theorem wg_924 : Cond.instanceMethod yX10_whyNotTold ∈ GW := mG 924 (by decide +kernel) rfl
theorem wg_51 : Cond.selects "RulerWord" yX10_whyNotTold yX10_whyNotTold ∈ GW := mG 51 (by decide +kernel) rfl
theorem cV_X10_whyNotTold : CV yX10_whyNotTold cX10_whyNotTold 3 (some .int) 2 := ⟨mG 925 (by decide +kernel) rfl, wg_157, wg_924, wg_51, by decide +kernel, by decide +kernel, by decide +kernel⟩
theorem wg_483 : Cond.fieldLink "RulerWord" 60 "RulerWord" "now" "LRulerWord$Course;" ∈ GW := mG 483 (by decide +kernel) rfl
theorem wn_968 : Cond.methodLinkNest "RulerWord" 269 yX3_agreedFrom "RulerWord" ∈ NW := mN 968 (by decide +kernel) rfl
theorem wg_165 : Cond.initialized "RulerWord$Course" ∈ GW := mG 165 (by decide +kernel) rfl
theorem wg_970 : Cond.instanceMethod yX3_agreedFrom ∈ GW := mG 970 (by decide +kernel) rfl
theorem wg_56 : Cond.selects "RulerWord$Course" yX3_agreedFrom yX3_agreedFrom ∈ GW := mG 56 (by decide +kernel) rfl
theorem cV_X3_agreedFrom : CV yX3_agreedFrom cX3_agreedFrom 4 (some .int) 1 := ⟨mG 971 (by decide +kernel) rfl, wg_165, wg_970, wg_56, by decide +kernel, by decide +kernel, by decide +kernel⟩
theorem wg_1013 : Cond.methodLink "RulerWord" 303 yX10_greatestBound ∈ GW := mG 1013 (by decide +kernel) rfl
theorem wg_674 : Cond.static yX10_greatestBound ∈ GW := mG 674 (by decide +kernel) rfl
theorem cS_X10_greatestBound : CS yX10_greatestBound cX10_greatestBound 2 (some .int) 2 := ⟨mG 675 (by decide +kernel) rfl, wg_157, wg_674, by decide +kernel, by decide +kernel, by decide +kernel⟩
theorem wn_339 : Cond.fieldLinkNest "RulerWord" 155 "RulerWord$Course" "falses" "I" "RulerWord" ∈ NW := mN 339 (by decide +kernel) rfl
theorem wg_1032 : Cond.methodLink "RulerWord" 309 yX10_isAsked ∈ GW := mG 1032 (by decide +kernel) rfl
theorem wg_1034 : Cond.instanceMethod yX10_isAsked ∈ GW := mG 1034 (by decide +kernel) rfl
theorem wg_63 : Cond.selects "RulerWord" yX10_isAsked yX10_isAsked ∈ GW := mG 63 (by decide +kernel) rfl
theorem cV_X10_isAsked : CV yX10_isAsked cX10_isAsked 2 (some .boolean) 1 := ⟨mG 1035 (by decide +kernel) rfl, wg_157, wg_1034, wg_63, by decide +kernel, by decide +kernel, by decide +kernel⟩
theorem wg_1126 : Cond.methodLink "RulerWord" 325 yX10_broken ∈ GW := mG 1126 (by decide +kernel) rfl
theorem wg_1029 : Cond.instanceMethod yX10_broken ∈ GW := mG 1029 (by decide +kernel) rfl
theorem wg_1030 : Cond.selects "RulerWord" yX10_broken yX10_broken ∈ GW := mG 1030 (by decide +kernel) rfl
theorem cV_X10_broken : CV yX10_broken cX10_broken 1 (some .int) 0 := ⟨mG 1031 (by decide +kernel) rfl, wg_157, wg_1029, wg_1030, by decide +kernel, by decide +kernel, by decide +kernel⟩
theorem wg_952 : Cond.methodLink "RulerWord" 241 yX10_isOver ∈ GW := mG 952 (by decide +kernel) rfl
theorem wg_954 : Cond.instanceMethod yX10_isOver ∈ GW := mG 954 (by decide +kernel) rfl
theorem wg_54 : Cond.selects "RulerWord" yX10_isOver yX10_isOver ∈ GW := mG 54 (by decide +kernel) rfl
theorem cV_X10_isOver : CV yX10_isOver cX10_isOver 2 (some .boolean) 1 := ⟨mG 955 (by decide +kernel) rfl, wg_157, wg_954, wg_54, by decide +kernel, by decide +kernel, by decide +kernel⟩
theorem wg_486 : Cond.fieldLink "RulerWord" 73 "RulerWord" "acts" "LRulerWord$Acts;" ∈ GW := mG 486 (by decide +kernel) rfl
theorem wn_1210 : Cond.methodLinkNest "RulerWord" 380 yX0_takeBack "RulerWord" ∈ NW := mN 1210 (by decide +kernel) rfl
theorem wg_166 : Cond.initialized "RulerWord$Acts" ∈ GW := mG 166 (by decide +kernel) rfl
theorem wg_1212 : Cond.instanceMethod yX0_takeBack ∈ GW := mG 1212 (by decide +kernel) rfl
theorem wg_89 : Cond.selects "RulerWord$Acts" yX0_takeBack yX0_takeBack ∈ GW := mG 89 (by decide +kernel) rfl
theorem cV_X0_takeBack : CV yX0_takeBack cX0_takeBack 2 (some .boolean) 1 := ⟨mG 1213 (by decide +kernel) rfl, wg_166, wg_1212, wg_89, by decide +kernel, by decide +kernel, by decide +kernel⟩
theorem wg_491 : Cond.fieldLink "RulerWord" 112 "RulerWord" "imaged" "Z" ∈ GW := mG 491 (by decide +kernel) rfl
theorem wn_416 : Cond.fieldLinkNest "RulerWord" 119 "RulerWord$Acts" "depth" "I" "RulerWord" ∈ NW := mN 416 (by decide +kernel) rfl
theorem wn_341 : Cond.fieldLinkNest "RulerWord" 159 "RulerWord$Course" "gone" "I" "RulerWord" ∈ NW := mN 341 (by decide +kernel) rfl
theorem wg_202 : Cond.fieldLink "RulerWord$Tape" 36 "RulerWord$Tape" "behind" "I" ∈ GW := mG 202 (by decide +kernel) rfl
theorem wg_198 : Cond.fieldLink "RulerWord$Tape" 19 "RulerWord$Tape" "length" "I" ∈ GW := mG 198 (by decide +kernel) rfl
theorem wg_201 : Cond.fieldLink "RulerWord$Tape" 42 "RulerWord$Tape" "at" "I" ∈ GW := mG 201 (by decide +kernel) rfl
theorem wg_205 : Cond.fieldLink "RulerWord$Tape" 45 "RulerWord$Tape" "kind" "I" ∈ GW := mG 205 (by decide +kernel) rfl
theorem wg_562 : Cond.methodLink "RulerWord$Tape" 39 yX8_nextPart ∈ GW := mG 562 (by decide +kernel) rfl
theorem wg_158 : Cond.initialized "RulerWord$Tape" ∈ GW := mG 158 (by decide +kernel) rfl
theorem wg_564 : Cond.instanceMethod yX8_nextPart ∈ GW := mG 564 (by decide +kernel) rfl
theorem wg_5 : Cond.selects "RulerWord$Tape" yX8_nextPart yX8_nextPart ∈ GW := mG 5 (by decide +kernel) rfl
theorem cV_X8_nextPart : CV yX8_nextPart cX8_nextPart 3 none 0 := ⟨mG 565 (by decide +kernel) rfl, wg_158, wg_564, wg_5, by decide +kernel, by decide +kernel, by decide +kernel⟩
theorem wg_651 : Cond.methodLink "RulerWord$Tape" 52 yX8_digits ∈ GW := mG 651 (by decide +kernel) rfl
theorem wg_653 : Cond.instanceMethod yX8_digits ∈ GW := mG 653 (by decide +kernel) rfl
theorem wg_10 : Cond.selects "RulerWord$Tape" yX8_digits yX8_digits ∈ GW := mG 10 (by decide +kernel) rfl
theorem cV_X8_digits : CV yX8_digits cX8_digits 1 (some .int) 0 := ⟨mG 654 (by decide +kernel) rfl, wg_158, wg_653, wg_10, by decide +kernel, by decide +kernel, by decide +kernel⟩
theorem wg_245 : Cond.fieldLink "RulerWord$Council" 70 "RulerWord$Council" "toldPieces" "I" ∈ GW := mG 245 (by decide +kernel) rfl
theorem wg_237 : Cond.fieldLink "RulerWord$Council" 24 "RulerWord$Council" "starts" "I" ∈ GW := mG 237 (by decide +kernel) rfl
theorem wg_239 : Cond.fieldLink "RulerWord$Council" 27 "RulerWord$Council" "falses" "I" ∈ GW := mG 239 (by decide +kernel) rfl
theorem wg_241 : Cond.fieldLink "RulerWord$Council" 30 "RulerWord$Council" "skip" "Z" ∈ GW := mG 241 (by decide +kernel) rfl
theorem wg_554 : Cond.methodLink "RulerWord$Council" 34 yX2_clear ∈ GW := mG 554 (by decide +kernel) rfl
theorem wg_556 : Cond.instanceMethod yX2_clear ∈ GW := mG 556 (by decide +kernel) rfl
theorem wg_3 : Cond.selects "RulerWord$Council" yX2_clear yX2_clear ∈ GW := mG 3 (by decide +kernel) rfl
theorem cV_X2_clear : CV yX2_clear cX2_clear 1 none 0 := ⟨mG 557 (by decide +kernel) rfl, wg_159, wg_556, wg_3, by decide +kernel, by decide +kernel, by decide +kernel⟩
theorem wn_558 : Cond.methodLinkNest "RulerWord$Council" 37 yX8_firstPart "RulerWord" ∈ NW := mN 558 (by decide +kernel) rfl
theorem wg_560 : Cond.instanceMethod yX8_firstPart ∈ GW := mG 560 (by decide +kernel) rfl
theorem wg_4 : Cond.selects "RulerWord$Tape" yX8_firstPart yX8_firstPart ∈ GW := mG 4 (by decide +kernel) rfl
theorem cV_X8_firstPart : CV yX8_firstPart cX8_firstPart 1 none 0 := ⟨mG 561 (by decide +kernel) rfl, wg_158, wg_560, wg_4, by decide +kernel, by decide +kernel, by decide +kernel⟩
theorem wn_570 : Cond.methodLinkNest "RulerWord$Council" 44 yX8_isWord "RulerWord" ∈ NW := mN 570 (by decide +kernel) rfl
theorem wg_572 : Cond.instanceMethod yX8_isWord ∈ GW := mG 572 (by decide +kernel) rfl
theorem wg_6 : Cond.selects "RulerWord$Tape" yX8_isWord yX8_isWord ∈ GW := mG 6 (by decide +kernel) rfl
theorem cV_X8_isWord : CV yX8_isWord cX8_isWord 3 (some .boolean) 1 := ⟨mG 573 (by decide +kernel) rfl, wg_158, wg_572, wg_6, by decide +kernel, by decide +kernel, by decide +kernel⟩
theorem wn_199 : Cond.fieldLinkNest "RulerWord$Council" 50 "RulerWord$Tape" "at" "I" "RulerWord" ∈ NW := mN 199 (by decide +kernel) rfl
theorem wn_692 : Cond.methodLinkNest "RulerWord$Plan" 47 yX8_isWord "RulerWord" ∈ NW := mN 692 (by decide +kernel) rfl
theorem wn_697 : Cond.methodLinkNest "RulerWord$Plan" 55 yX8_number "RulerWord" ∈ NW := mN 697 (by decide +kernel) rfl
theorem wg_649 : Cond.instanceMethod yX8_number ∈ GW := mG 649 (by decide +kernel) rfl
theorem wg_9 : Cond.selects "RulerWord$Tape" yX8_number yX8_number ∈ GW := mG 9 (by decide +kernel) rfl
theorem cV_X8_number : CV yX8_number cX8_number 4 (some .int) 2 := ⟨mG 650 (by decide +kernel) rfl, wg_158, wg_649, wg_9, by decide +kernel, by decide +kernel, by decide +kernel⟩
theorem wg_269 : Cond.fieldLink "RulerWord$Plan" 11 "RulerWord$Plan" "parts" "[I" ∈ GW := mG 269 (by decide +kernel) rfl
theorem wg_685 : Cond.methodLink "RulerWord$Plan" 43 yX5_wordOf ∈ GW := mG 685 (by decide +kernel) rfl
theorem wg_160 : Cond.initialized "RulerWord$Plan" ∈ GW := mG 160 (by decide +kernel) rfl
theorem wg_686 : Cond.static yX5_wordOf ∈ GW := mG 686 (by decide +kernel) rfl
theorem cS_X5_wordOf : CS yX5_wordOf cX5_wordOf 1 (some (.object "java/lang/String")) 1 := ⟨mG 687 (by decide +kernel) rfl, wg_160, wg_686, by decide +kernel, by decide +kernel, by decide +kernel⟩
theorem wg_698 : Cond.methodLink "RulerWord$Plan" 59 yX5_actOf ∈ GW := mG 698 (by decide +kernel) rfl
theorem wg_699 : Cond.static yX5_actOf ∈ GW := mG 699 (by decide +kernel) rfl
theorem cS_X5_actOf : CS yX5_actOf cX5_actOf 1 (some .int) 1 := ⟨mG 700 (by decide +kernel) rfl, wg_160, wg_699, by decide +kernel, by decide +kernel, by decide +kernel⟩
theorem wg_270 : Cond.fieldLink "RulerWord$Plan" 21 "RulerWord$Plan" "lines" "I" ∈ GW := mG 270 (by decide +kernel) rfl
theorem wn_680 : Cond.methodLinkNest "RulerWord$Plan" 25 yX8_firstPart "RulerWord" ∈ NW := mN 680 (by decide +kernel) rfl
theorem wg_681 : Cond.methodLink "RulerWord$Plan" 30 yX5_readLine ∈ GW := mG 681 (by decide +kernel) rfl
theorem wg_683 : Cond.instanceMethod yX5_readLine ∈ GW := mG 683 (by decide +kernel) rfl
theorem wg_16 : Cond.selects "RulerWord$Plan" yX5_readLine yX5_readLine ∈ GW := mG 16 (by decide +kernel) rfl
theorem cV_X5_readLine : CV yX5_readLine cX5_readLine 5 (some .boolean) 2 := ⟨mG 684 (by decide +kernel) rfl, wg_160, wg_683, wg_16, by decide +kernel, by decide +kernel, by decide +kernel⟩
theorem wn_200 : Cond.fieldLinkNest "RulerWord$Plan" 34 "RulerWord$Tape" "at" "I" "RulerWord" ∈ NW := mN 200 (by decide +kernel) rfl
theorem wg_476 : Cond.fieldLink "RulerWord" 19 "RulerWord" "draft" "LRulerWord$Council;" ∈ GW := mG 476 (by decide +kernel) rfl
theorem wn_550 : Cond.methodLinkNest "RulerWord" 99 yX2_readFrom "RulerWord" ∈ NW := mN 550 (by decide +kernel) rfl
theorem wg_552 : Cond.instanceMethod yX2_readFrom ∈ GW := mG 552 (by decide +kernel) rfl
theorem wg_2 : Cond.selects "RulerWord$Council" yX2_readFrom yX2_readFrom ∈ GW := mG 2 (by decide +kernel) rfl
theorem cV_X2_readFrom : CV yX2_readFrom cX2_readFrom 3 (some .int) 1 := ⟨mG 553 (by decide +kernel) rfl, wg_159, wg_552, wg_2, by decide +kernel, by decide +kernel, by decide +kernel⟩
theorem wg_479 : Cond.fieldLink "RulerWord" 32 "RulerWord" "draftPlan" "LRulerWord$Plan;" ∈ GW := mG 479 (by decide +kernel) rfl
theorem wn_676 : Cond.methodLinkNest "RulerWord" 103 yX5_readFrom "RulerWord" ∈ NW := mN 676 (by decide +kernel) rfl
theorem wg_678 : Cond.instanceMethod yX5_readFrom ∈ GW := mG 678 (by decide +kernel) rfl
theorem wg_15 : Cond.selects "RulerWord$Plan" yX5_readFrom yX5_readFrom ∈ GW := mG 15 (by decide +kernel) rfl
theorem cV_X5_readFrom : CV yX5_readFrom cX5_readFrom 3 (some .int) 1 := ⟨mG 679 (by decide +kernel) rfl, wg_160, wg_678, wg_15, by decide +kernel, by decide +kernel, by decide +kernel⟩
theorem wg_195 : Cond.fieldLink "RulerWord$Tape" 11 "RulerWord$Tape" "bytes" "[I" ∈ GW := mG 195 (by decide +kernel) rfl
theorem wg_538 : Cond.methodLink "RulerWord$Tape" 15 yX8_add ∈ GW := mG 538 (by decide +kernel) rfl
theorem wg_540 : Cond.instanceMethod yX8_add ∈ GW := mG 540 (by decide +kernel) rfl
theorem wg_1 : Cond.selects "RulerWord$Tape" yX8_add yX8_add ∈ GW := mG 1 (by decide +kernel) rfl
theorem cV_X8_add : CV yX8_add cX8_add 2 none 1 := ⟨mG 541 (by decide +kernel) rfl, wg_158, wg_540, wg_1, by decide +kernel, by decide +kernel, by decide +kernel⟩
theorem wn_534 : Cond.methodLinkNest "RulerWord" 95 yX8_put "RulerWord" ∈ NW := mN 534 (by decide +kernel) rfl
theorem wg_536 : Cond.instanceMethod yX8_put ∈ GW := mG 536 (by decide +kernel) rfl
theorem wg_0 : Cond.selects "RulerWord$Tape" yX8_put yX8_put ∈ GW := mG 0 (by decide +kernel) rfl
theorem cV_X8_put : CV yX8_put cX8_put 4 none 1 := ⟨mG 537 (by decide +kernel) rfl, wg_158, wg_536, wg_0, by decide +kernel, by decide +kernel, by decide +kernel⟩
theorem wg_582 : Cond.fieldLink "java/lang/String" 38 "java/lang/String" "COMPACT_STRINGS" "Z" ∈ GW := mG 582 (by decide +kernel) rfl
theorem wg_1971 : Cond.fieldLink "java/lang/String" 9 "java/lang/String" "value" "[B" ∈ GW := mG 1971 (by decide +kernel) rfl
theorem wg_1972 : Cond.fieldLink "java/lang/String" 15 "java/lang/String" "coder" "B" ∈ GW := mG 1972 (by decide +kernel) rfl
theorem wg_578 : Cond.methodLink "java/lang/String" 335 yJ0_coder_7d493 ∈ GW := mG 578 (by decide +kernel) rfl
theorem wg_169 : Cond.initialized "java/lang/String" ∈ GW := mG 169 (by decide +kernel) rfl
theorem wg_579 : Cond.instanceMethod yJ0_coder_7d493 ∈ GW := mG 579 (by decide +kernel) rfl
theorem wg_580 : Cond.selects "java/lang/String" yJ0_coder_7d493 yJ0_coder_7d493 ∈ GW := mG 580 (by decide +kernel) rfl
theorem cV_J0_coder_7d493 : CV yJ0_coder_7d493 cJ0_coder_7d493 1 (some .byte) 0 := ⟨mG 581 (by decide +kernel) rfl, wg_169, wg_579, wg_580, by decide +kernel, by decide +kernel, by decide +kernel⟩
theorem wg_575 : Cond.instanceMethod yJ0_length_8abf5 ∈ GW := mG 575 (by decide +kernel) rfl
theorem wg_576 : Cond.selects "java/lang/String" yJ0_length_8abf5 yJ0_length_8abf5 ∈ GW := mG 576 (by decide +kernel) rfl
theorem cV_J0_length_8abf5 : CV yJ0_length_8abf5 cJ0_length_8abf5 1 (some .int) 0 := ⟨mG 577 (by decide +kernel) rfl, wg_169, wg_575, wg_576, by decide +kernel, by decide +kernel, by decide +kernel⟩
theorem wg_1339 : Cond.fieldLink "RulerWordModel" 95 "RulerWordModel" "at" "I" ∈ GW := mG 1339 (by decide +kernel) rfl
theorem inX11 : ∀ w ∈ u_ws RX11 TX11 56, w ∈ GW := by
  have h : (u_ws RX11 TX11 56).all (fun w => decide (w ∈ lw_tbl) && goodWord w) = true := by decide +kernel
  intro w hw
  have h1 := List.all_eq_true.mp h w hw
  simp only [Bool.and_eq_true, decide_eq_true_eq] at h1
  exact List.mem_filter.mpr h1
theorem wg_1338 : Cond.fieldLink "RulerWordModel" 84 "RulerWordModel" "length" "I" ∈ GW := mG 1338 (by decide +kernel) rfl
theorem wg_1537 : Cond.methodLink "RulerWordModel" 98 yX11_here ∈ GW := mG 1537 (by decide +kernel) rfl
theorem wg_168 : Cond.initialized "RulerWordModel" ∈ GW := mG 168 (by decide +kernel) rfl
theorem wg_1539 : Cond.instanceMethod yX11_here ∈ GW := mG 1539 (by decide +kernel) rfl
theorem wg_100 : Cond.selects "RulerWordModel" yX11_here yX11_here ∈ GW := mG 100 (by decide +kernel) rfl
theorem cV_X11_here : CV yX11_here cX11_here 1 (some .int) 0 := ⟨mG 1540 (by decide +kernel) rfl, wg_168, wg_1539, wg_100, by decide +kernel, by decide +kernel, by decide +kernel⟩
theorem wg_1533 : Cond.methodLink "RulerWordModel" 105 yX11_look ∈ GW := mG 1533 (by decide +kernel) rfl
theorem wg_1535 : Cond.instanceMethod yX11_look ∈ GW := mG 1535 (by decide +kernel) rfl
theorem wg_99 : Cond.selects "RulerWordModel" yX11_look yX11_look ∈ GW := mG 99 (by decide +kernel) rfl
theorem cV_X11_look : CV yX11_look cX11_look 1 (some .int) 0 := ⟨mG 1536 (by decide +kernel) rfl, wg_168, wg_1535, wg_99, by decide +kernel, by decide +kernel, by decide +kernel⟩
theorem wg_1546 : Cond.methodLink "RulerWordModel" 108 yJ0_length_8abf5 ∈ GW := mG 1546 (by decide +kernel) rfl
theorem wg_1340 : Cond.fieldLink "RulerWordModel" 102 "RulerWordModel" "fault" "I" ∈ GW := mG 1340 (by decide +kernel) rfl
theorem wg_1345 : Cond.fieldLink "RulerWordModel" 158 "RulerWordModel" "toldRead" "I" ∈ GW := mG 1345 (by decide +kernel) rfl
theorem wg_1343 : Cond.fieldLink "RulerWordModel" 13 "RulerWordModel" "read" "[I" ∈ GW := mG 1343 (by decide +kernel) rfl
theorem wg_1542 : Cond.methodLink "RulerWordModel" 141 yX11_takes ∈ GW := mG 1542 (by decide +kernel) rfl
theorem wg_1544 : Cond.instanceMethod yX11_takes ∈ GW := mG 1544 (by decide +kernel) rfl
theorem wg_101 : Cond.selects "RulerWordModel" yX11_takes yX11_takes ∈ GW := mG 101 (by decide +kernel) rfl
theorem cV_X11_takes : CV yX11_takes cX11_takes 4 (some .boolean) 1 := ⟨mG 1545 (by decide +kernel) rfl, wg_168, wg_1544, wg_101, by decide +kernel, by decide +kernel, by decide +kernel⟩
theorem wg_1344 : Cond.fieldLink "RulerWordModel" 178 "RulerWordModel" "formRead" "I" ∈ GW := mG 1344 (by decide +kernel) rfl
theorem wg_1549 : Cond.methodLink "RulerWordModel" 136 yX11_fails ∈ GW := mG 1549 (by decide +kernel) rfl
theorem wg_1551 : Cond.instanceMethod yX11_fails ∈ GW := mG 1551 (by decide +kernel) rfl
theorem wg_102 : Cond.selects "RulerWordModel" yX11_fails yX11_fails ∈ GW := mG 102 (by decide +kernel) rfl
theorem cV_X11_fails : CV yX11_fails cX11_fails 2 none 1 := ⟨mG 1552 (by decide +kernel) rfl, wg_168, wg_1551, wg_102, by decide +kernel, by decide +kernel, by decide +kernel⟩
theorem wg_1567 : Cond.methodLink "RulerWordModel" 161 yX11_has ∈ GW := mG 1567 (by decide +kernel) rfl
theorem wg_1568 : Cond.static yX11_has ∈ GW := mG 1568 (by decide +kernel) rfl
theorem cS_X11_has : CS yX11_has cX11_has 2 (some .boolean) 2 := ⟨mG 1569 (by decide +kernel) rfl, wg_168, wg_1568, by decide +kernel, by decide +kernel, by decide +kernel⟩
theorem wg_1349 : Cond.fieldLink "RulerWordModel" 184 "RulerWordModel" "linesRead" "I" ∈ GW := mG 1349 (by decide +kernel) rfl
theorem wg_1347 : Cond.fieldLink "RulerWordModel" 20 "RulerWordModel" "lineRead" "[I" ∈ GW := mG 1347 (by decide +kernel) rfl
theorem wg_1578 : Cond.methodLink "RulerWordModel" 119 yX11_isDigit ∈ GW := mG 1578 (by decide +kernel) rfl
theorem wg_1579 : Cond.static yX11_isDigit ∈ GW := mG 1579 (by decide +kernel) rfl
theorem cS_X11_isDigit : CS yX11_isDigit cX11_isDigit 1 (some .boolean) 1 := ⟨mG 1580 (by decide +kernel) rfl, wg_168, wg_1579, by decide +kernel, by decide +kernel, by decide +kernel⟩
theorem wg_1600 : Cond.methodLink "RulerWordModel" 203 yX11_planLine ∈ GW := mG 1600 (by decide +kernel) rfl
theorem wg_1602 : Cond.instanceMethod yX11_planLine ∈ GW := mG 1602 (by decide +kernel) rfl
theorem wg_111 : Cond.selects "RulerWordModel" yX11_planLine yX11_planLine ∈ GW := mG 111 (by decide +kernel) rfl
theorem cV_X11_planLine : CV yX11_planLine cX11_planLine 3 none 0 := ⟨mG 1603 (by decide +kernel) rfl, wg_168, wg_1602, wg_111, by decide +kernel, by decide +kernel, by decide +kernel⟩
theorem wg_1359 : Cond.fieldLink "RulerWordModel" 232 "RulerWordModel" "hasCouncil" "Z" ∈ GW := mG 1359 (by decide +kernel) rfl
theorem wg_1336 : Cond.fieldLink "RulerWordModel" 80 "RulerWordModel" "thrown" "I" ∈ GW := mG 1336 (by decide +kernel) rfl
theorem wg_1348 : Cond.fieldLink "RulerWordModel" 248 "RulerWordModel" "lines" "I" ∈ GW := mG 1348 (by decide +kernel) rfl
theorem wg_1585 : Cond.methodLink "RulerWordModel" 132 yX11_isIn ∈ GW := mG 1585 (by decide +kernel) rfl
theorem wg_1586 : Cond.static yX11_isIn ∈ GW := mG 1586 (by decide +kernel) rfl
theorem cS_X11_isIn : CS yX11_isIn cX11_isIn 6 (some .boolean) 3 := ⟨mG 1587 (by decide +kernel) rfl, wg_168, wg_1586, by decide +kernel, by decide +kernel, by decide +kernel⟩
theorem wg_1773 : Cond.methodLink "RulerWordModel" 358 yX11_over ∈ GW := mG 1773 (by decide +kernel) rfl
theorem wg_1775 : Cond.instanceMethod yX11_over ∈ GW := mG 1775 (by decide +kernel) rfl
theorem wg_133 : Cond.selects "RulerWordModel" yX11_over yX11_over ∈ GW := mG 133 (by decide +kernel) rfl
theorem cV_X11_over : CV yX11_over cX11_over 1 (some .int) 0 := ⟨mG 1776 (by decide +kernel) rfl, wg_168, wg_1775, wg_133, by decide +kernel, by decide +kernel, by decide +kernel⟩
theorem wg_1822 : Cond.constantLong "RulerWordModel" 381 (100) ∈ GW := mG 1822 (by decide +kernel) rfl
theorem wg_1751 : Cond.constantLong "RulerWordModel" 355 (4) ∈ GW := mG 1751 (by decide +kernel) rfl
theorem wg_1385 : Cond.fieldLink "RulerWordModel" 71 "RulerWordModel" "refused" "[I" ∈ GW := mG 1385 (by decide +kernel) rfl
theorem wg_1337 : Cond.fieldLink "RulerWordModel" 9 "RulerWordModel" "tape" "[B" ∈ GW := mG 1337 (by decide +kernel) rfl
theorem wg_1514 : Cond.methodLink "RulerWordModel" 87 yX11_bytesOf ∈ GW := mG 1514 (by decide +kernel) rfl
theorem wg_1515 : Cond.static yX11_bytesOf ∈ GW := mG 1515 (by decide +kernel) rfl
theorem cS_X11_bytesOf : CS yX11_bytesOf cX11_bytesOf 3 (some .int) 1 := ⟨mG 1516 (by decide +kernel) rfl, wg_168, wg_1515, by decide +kernel, by decide +kernel, by decide +kernel⟩
theorem wg_1517 : Cond.methodLink "RulerWordModel" 91 yX11_brings ∈ GW := mG 1517 (by decide +kernel) rfl
theorem wg_1519 : Cond.instanceMethod yX11_brings ∈ GW := mG 1519 (by decide +kernel) rfl
theorem wg_97 : Cond.selects "RulerWordModel" yX11_brings yX11_brings ∈ GW := mG 97 (by decide +kernel) rfl
theorem cV_X11_brings : CV yX11_brings cX11_brings 4 none 1 := ⟨mG 1520 (by decide +kernel) rfl, wg_168, wg_1519, wg_97, by decide +kernel, by decide +kernel, by decide +kernel⟩
theorem wg_1596 : Cond.methodLink "RulerWordModel" 209 yX11_readsPlan ∈ GW := mG 1596 (by decide +kernel) rfl
theorem wg_1598 : Cond.instanceMethod yX11_readsPlan ∈ GW := mG 1598 (by decide +kernel) rfl
theorem wg_110 : Cond.selects "RulerWordModel" yX11_readsPlan yX11_readsPlan ∈ GW := mG 110 (by decide +kernel) rfl
theorem cV_X11_readsPlan : CV yX11_readsPlan cX11_readsPlan 1 (some .int) 0 := ⟨mG 1599 (by decide +kernel) rfl, wg_168, wg_1598, wg_110, by decide +kernel, by decide +kernel, by decide +kernel⟩
theorem wg_1529 : Cond.methodLink "RulerWordModel" 206 yX11_readsCouncil ∈ GW := mG 1529 (by decide +kernel) rfl
theorem wg_1531 : Cond.instanceMethod yX11_readsCouncil ∈ GW := mG 1531 (by decide +kernel) rfl
theorem wg_98 : Cond.selects "RulerWordModel" yX11_readsCouncil yX11_readsCouncil ∈ GW := mG 98 (by decide +kernel) rfl
theorem cV_X11_readsCouncil : CV yX11_readsCouncil cX11_readsCouncil 2 (some .int) 0 := ⟨mG 1532 (by decide +kernel) rfl, wg_168, wg_1531, wg_98, by decide +kernel, by decide +kernel, by decide +kernel⟩
theorem wg_1756 : Cond.constant "RulerWordModel" 357 (-1000000) ∈ GW := mG 1756 (by decide +kernel) rfl
theorem wg_1714 : Cond.methodLink "RulerWordModel" 341 yX11_refuse ∈ GW := mG 1714 (by decide +kernel) rfl
theorem wg_1716 : Cond.instanceMethod yX11_refuse ∈ GW := mG 1716 (by decide +kernel) rfl
theorem wg_130 : Cond.selects "RulerWordModel" yX11_refuse yX11_refuse ∈ GW := mG 130 (by decide +kernel) rfl
theorem cV_X11_refuse : CV yX11_refuse cX11_refuse 2 (some .int) 1 := ⟨mG 1717 (by decide +kernel) rfl, wg_168, wg_1716, wg_130, by decide +kernel, by decide +kernel, by decide +kernel⟩
theorem wg_1718 : Cond.methodLink "RulerWordModel" 344 yX11_isRound ∈ GW := mG 1718 (by decide +kernel) rfl
theorem wg_1720 : Cond.instanceMethod yX11_isRound ∈ GW := mG 1720 (by decide +kernel) rfl
theorem wg_131 : Cond.selects "RulerWordModel" yX11_isRound yX11_isRound ∈ GW := mG 131 (by decide +kernel) rfl
theorem cV_X11_isRound : CV yX11_isRound cX11_isRound 3 (some .boolean) 2 := ⟨mG 1721 (by decide +kernel) rfl, wg_168, wg_1720, wg_131, by decide +kernel, by decide +kernel, by decide +kernel⟩
theorem wg_1722 : Cond.methodLink "RulerWordModel" 347 yX11_isPeer ∈ GW := mG 1722 (by decide +kernel) rfl
theorem wg_1724 : Cond.instanceMethod yX11_isPeer ∈ GW := mG 1724 (by decide +kernel) rfl
theorem wg_132 : Cond.selects "RulerWordModel" yX11_isPeer yX11_isPeer ∈ GW := mG 132 (by decide +kernel) rfl
theorem cV_X11_isPeer : CV yX11_isPeer cX11_isPeer 2 (some .boolean) 1 := ⟨mG 1725 (by decide +kernel) rfl, wg_168, wg_1724, wg_132, by decide +kernel, by decide +kernel, by decide +kernel⟩
theorem wg_1353 : Cond.fieldLink "RulerWordModel" 220 "RulerWordModel" "phases" "I" ∈ GW := mG 1353 (by decide +kernel) rfl
theorem wg_1838 : Cond.methodLink "RulerWordModel" 396 yX11_canSearch ∈ GW := mG 1838 (by decide +kernel) rfl
theorem wg_1840 : Cond.instanceMethod yX11_canSearch ∈ GW := mG 1840 (by decide +kernel) rfl
theorem wg_141 : Cond.selects "RulerWordModel" yX11_canSearch yX11_canSearch ∈ GW := mG 141 (by decide +kernel) rfl
theorem cV_X11_canSearch : CV yX11_canSearch cX11_canSearch 1 (some .boolean) 0 := ⟨mG 1841 (by decide +kernel) rfl, wg_168, wg_1840, wg_141, by decide +kernel, by decide +kernel, by decide +kernel⟩
theorem wg_1383 : Cond.fieldLink "RulerWordModel" 239 "RulerWordModel" "acts" "I" ∈ GW := mG 1383 (by decide +kernel) rfl
theorem wg_1384 : Cond.fieldLink "RulerWordModel" 242 "RulerWordModel" "hasImage" "Z" ∈ GW := mG 1384 (by decide +kernel) rfl
