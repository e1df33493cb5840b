theorem wg_objInit : Cond.code objectInit ⟨#[0xb1]⟩ 1 none ∈ GW := mG 188 (by decide +kernel) rfl
theorem wg_490 : Cond.fieldLink "RulerWord" 108 "RulerWord" "convened" "Z" ∈ GW := mG 490 (by decide +kernel) rfl
theorem inX10 : ∀ w ∈ u_ws RX10 TX10 18, w ∈ GW := by
  have h : (u_ws RX10 TX10 18).all (fun w => decide (w ∈ lw_tbl) && goodWord w) = true := by decide +kernel
  intro w hw
  have h1 := List.all_eq_true.mp h w hw
  simp only [Bool.and_eq_true, decide_eq_true_eq] at h1
  exact List.mem_filter.mpr h1
theorem wg_956 : Cond.methodLink "RulerWord" 273 yX10_phasesOver ∈ GW := mG 956 (by decide +kernel) rfl
theorem wg_157 : Cond.initialized "RulerWord" ∈ GW := mG 157 (by decide +kernel) rfl
theorem wg_958 : Cond.instanceMethod yX10_phasesOver ∈ GW := mG 958 (by decide +kernel) rfl
theorem wg_55 : Cond.selects "RulerWord" yX10_phasesOver yX10_phasesOver ∈ GW := mG 55 (by decide +kernel) rfl
theorem cV_X10_phasesOver : CV yX10_phasesOver cX10_phasesOver 1 (some .int) 0 := ⟨mG 959 (by decide +kernel) rfl, wg_157, wg_958, wg_55, by decide +kernel, by decide +kernel, by decide +kernel⟩
theorem wg_489 : Cond.fieldLink "RulerWord" 87 "RulerWord" "refused" "[I" ∈ GW := mG 489 (by decide +kernel) rfl
theorem wg_228 : Cond.fieldLink "RulerWord$Council" 15 "RulerWord$Council" "size" "I" ∈ GW := mG 228 (by decide +kernel) rfl
theorem inX2 : ∀ w ∈ u_ws RX2 TX2 8, w ∈ GW := by
  have h : (u_ws RX2 TX2 8).all (fun w => decide (w ∈ lw_tbl) && goodWord w) = true := by decide +kernel
  intro w hw
  have h1 := List.all_eq_true.mp h w hw
  simp only [Bool.and_eq_true, decide_eq_true_eq] at h1
  exact List.mem_filter.mpr h1
theorem wg_224 : Cond.fieldLink "RulerWord$Council" 9 "RulerWord$Council" "form" "I" ∈ GW := mG 224 (by decide +kernel) rfl
theorem wg_738 : Cond.methodLink "RulerWord$Council" 112 yX2_rounds ∈ GW := mG 738 (by decide +kernel) rfl
theorem wg_159 : Cond.initialized "RulerWord$Council" ∈ GW := mG 159 (by decide +kernel) rfl
theorem wg_740 : Cond.instanceMethod yX2_rounds ∈ GW := mG 740 (by decide +kernel) rfl
theorem wg_21 : Cond.selects "RulerWord$Council" yX2_rounds yX2_rounds ∈ GW := mG 21 (by decide +kernel) rfl
theorem cV_X2_rounds : CV yX2_rounds cX2_rounds 1 (some .int) 0 := ⟨mG 741 (by decide +kernel) rfl, wg_159, wg_740, wg_21, by decide +kernel, by decide +kernel, by decide +kernel⟩
theorem wg_340 : Cond.fieldLink "RulerWord$Course" 47 "RulerWord$Course" "gone" "I" ∈ GW := mG 340 (by decide +kernel) rfl
theorem inX3 : ∀ w ∈ u_ws RX3 TX3 18, w ∈ GW := by
  have h : (u_ws RX3 TX3 18).all (fun w => decide (w ∈ lw_tbl) && goodWord w) = true := by decide +kernel
  intro w hw
  have h1 := List.all_eq_true.mp h w hw
  simp only [Bool.and_eq_true, decide_eq_true_eq] at h1
  exact List.mem_filter.mpr h1
theorem wn_775 : Cond.methodLinkNest "RulerWord$Course" 89 yX2_phaseAt "RulerWord" ∈ NW := mN 775 (by decide +kernel) rfl
theorem wg_736 : Cond.instanceMethod yX2_phaseAt ∈ GW := mG 736 (by decide +kernel) rfl
theorem wg_20 : Cond.selects "RulerWord$Council" yX2_phaseAt yX2_phaseAt ∈ GW := mG 20 (by decide +kernel) rfl
theorem cV_X2_phaseAt : CV yX2_phaseAt cX2_phaseAt 2 (some .int) 1 := ⟨mG 737 (by decide +kernel) rfl, wg_159, wg_736, wg_20, by decide +kernel, by decide +kernel, by decide +kernel⟩
theorem wg_415 : Cond.fieldLink "RulerWord$Acts" 24 "RulerWord$Acts" "depth" "I" ∈ GW := mG 415 (by decide +kernel) rfl
theorem inX0 : ∀ w ∈ u_ws RX0 TX0 3, w ∈ GW := by
  have h : (u_ws RX0 TX0 3).all (fun w => decide (w ∈ lw_tbl) && goodWord w) = true := by decide +kernel
  intro w hw
  have h1 := List.all_eq_true.mp h w hw
  simp only [Bool.and_eq_true, decide_eq_true_eq] at h1
  exact List.mem_filter.mpr h1
theorem wg_751 : Cond.methodLink "RulerWord" 183 yX10_roundsLeft ∈ GW := mG 751 (by decide +kernel) rfl
theorem wg_753 : Cond.instanceMethod yX10_roundsLeft ∈ GW := mG 753 (by decide +kernel) rfl
theorem wg_23 : Cond.selects "RulerWord" yX10_roundsLeft yX10_roundsLeft ∈ GW := mG 23 (by decide +kernel) rfl
theorem cV_X10_roundsLeft : CV yX10_roundsLeft cX10_roundsLeft 1 (some .int) 0 := ⟨mG 754 (by decide +kernel) rfl, wg_157, wg_753, wg_23, by decide +kernel, by decide +kernel, by decide +kernel⟩
theorem wg_897 : Cond.methodLink "RulerWord" 217 yX10_isPeer ∈ GW := mG 897 (by decide +kernel) rfl
theorem wg_899 : Cond.instanceMethod yX10_isPeer ∈ GW := mG 899 (by decide +kernel) rfl
theorem wg_46 : Cond.selects "RulerWord" yX10_isPeer yX10_isPeer ∈ GW := mG 46 (by decide +kernel) rfl
theorem cV_X10_isPeer : CV yX10_isPeer cX10_isPeer 2 (some .boolean) 1 := ⟨mG 900 (by decide +kernel) rfl, wg_157, wg_899, wg_46, by decide +kernel, by decide +kernel, by decide +kernel⟩
theorem wg_475 : Cond.fieldLink "RulerWord" 10 "RulerWord" "tape" "LRulerWord$Tape;" ∈ GW := mG 475 (by decide +kernel) rfl
theorem wn_197 : Cond.fieldLinkNest "RulerWord" 91 "RulerWord$Tape" "length" "I" "RulerWord" ∈ NW := mN 197 (by decide +kernel) rfl
theorem inX8 : ∀ w ∈ u_ws RX8 TX8 5, w ∈ GW := by
  have h : (u_ws RX8 TX8 5).all (fun w => decide (w ∈ lw_tbl) && goodWord w) = true := by decide +kernel
  intro w hw
  have h1 := List.all_eq_true.mp h w hw
  simp only [Bool.and_eq_true, decide_eq_true_eq] at h1
  exact List.mem_filter.mpr h1
theorem wg_733 : Cond.constant "RulerWord" 144 (-1000000) ∈ GW := mG 733 (by decide +kernel) rfl
theorem wg_480 : Cond.fieldLink "RulerWord" 39 "RulerWord" "planned" "LRulerWord$Planned;" ∈ GW := mG 480 (by decide +kernel) rfl
theorem wn_289 : Cond.fieldLinkNest "RulerWord" 135 "RulerWord$Planned" "plan" "LRulerWord$Plan;" "RulerWord" ∈ NW := mN 289 (by decide +kernel) rfl
theorem inX6 : ∀ w ∈ u_ws RX6 TX6 3, w ∈ GW := by
  have h : (u_ws RX6 TX6 3).all (fun w => decide (w ∈ lw_tbl) && goodWord w) = true := by decide +kernel
  intro w hw
  have h1 := List.all_eq_true.mp h w hw
  simp only [Bool.and_eq_true, decide_eq_true_eq] at h1
  exact List.mem_filter.mpr h1
theorem wn_271 : Cond.fieldLinkNest "RulerWord" 141 "RulerWord$Plan" "lines" "I" "RulerWord" ∈ NW := mN 271 (by decide +kernel) rfl
theorem inX5 : ∀ w ∈ u_ws RX5 TX5 2, w ∈ GW := by
  have h : (u_ws RX5 TX5 2).all (fun w => decide (w ∈ lw_tbl) && goodWord w) = true := by decide +kernel
  intro w hw
  have h1 := List.all_eq_true.mp h w hw
  simp only [Bool.and_eq_true, decide_eq_true_eq] at h1
  exact List.mem_filter.mpr h1
theorem wg_889 : Cond.methodLink "RulerWord" 194 yX10_whyNotSaid ∈ GW := mG 889 (by decide +kernel) rfl
theorem wg_891 : Cond.instanceMethod yX10_whyNotSaid ∈ GW := mG 891 (by decide +kernel) rfl
theorem wg_44 : Cond.selects "RulerWord" yX10_whyNotSaid yX10_whyNotSaid ∈ GW := mG 44 (by decide +kernel) rfl
theorem cV_X10_whyNotSaid : CV yX10_whyNotSaid cX10_whyNotSaid 6 (some .int) 5 := ⟨mG 892 (by decide +kernel) rfl, wg_157, wg_891, wg_44, by decide +kernel, by decide +kernel, by decide +kernel⟩
theorem wg_906 : Cond.methodLink "RulerWord" 198 yX10_refuse ∈ GW := mG 906 (by decide +kernel) rfl
theorem wg_908 : Cond.instanceMethod yX10_refuse ∈ GW := mG 908 (by decide +kernel) rfl
theorem wg_48 : Cond.selects "RulerWord" yX10_refuse yX10_refuse ∈ GW := mG 48 (by decide +kernel) rfl
theorem cV_X10_refuse : CV yX10_refuse cX10_refuse 2 (some .int) 1 := ⟨mG 909 (by decide +kernel) rfl, wg_157, wg_908, wg_48, by decide +kernel, by decide +kernel, by decide +kernel⟩
theorem wg_477 : Cond.fieldLink "RulerWord" 23 "RulerWord" "council" "LRulerWord$Council;" ∈ GW := mG 477 (by decide +kernel) rfl
theorem wn_918 : Cond.methodLinkNest "RulerWord" 205 yX2_everybody "RulerWord" ∈ NW := mN 918 (by decide +kernel) rfl
theorem wg_920 : Cond.instanceMethod yX2_everybody ∈ GW := mG 920 (by decide +kernel) rfl
theorem wg_50 : Cond.selects "RulerWord$Council" yX2_everybody yX2_everybody ∈ GW := mG 50 (by decide +kernel) rfl
theorem cV_X2_everybody : CV yX2_everybody cX2_everybody 1 (some .int) 0 := ⟨mG 921 (by decide +kernel) rfl, wg_159, wg_920, wg_50, by decide +kernel, by decide +kernel, by decide +kernel⟩
theorem wg_922 : Cond.methodLink "RulerWord" 208 yX10_whyNotTold ∈ GW := mG 922 (by decide +kernel) rfl
theorem wg_924 : Cond.instanceMethod yX10_whyNotTold ∈ GW := mG 924 (by decide +kernel) rfl
theorem wg_51 : Cond.selects "RulerWord" yX10_whyNotTold yX10_whyNotTold ∈ GW := mG 51 (by decide +kernel) rfl
theorem cV_X10_whyNotTold : CV yX10_whyNotTold cX10_whyNotTold 3 (some .int) 2 := ⟨mG 925 (by decide +kernel) rfl, wg_157, wg_924, wg_51, by decide +kernel, by decide +kernel, by decide +kernel⟩
theorem wg_483 : Cond.fieldLink "RulerWord" 60 "RulerWord" "now" "LRulerWord$Course;" ∈ GW := mG 483 (by decide +kernel) rfl
theorem wn_968 : Cond.methodLinkNest "RulerWord" 269 yX3_agreedFrom "RulerWord" ∈ NW := mN 968 (by decide +kernel) rfl
theorem wg_165 : Cond.initialized "RulerWord$Course" ∈ GW := mG 165 (by decide +kernel) rfl
theorem wg_970 : Cond.instanceMethod yX3_agreedFrom ∈ GW := mG 970 (by decide +kernel) rfl
theorem wg_56 : Cond.selects "RulerWord$Course" yX3_agreedFrom yX3_agreedFrom ∈ GW := mG 56 (by decide +kernel) rfl
theorem cV_X3_agreedFrom : CV yX3_agreedFrom cX3_agreedFrom 4 (some .int) 1 := ⟨mG 971 (by decide +kernel) rfl, wg_165, wg_970, wg_56, by decide +kernel, by decide +kernel, by decide +kernel⟩
theorem wg_1013 : Cond.methodLink "RulerWord" 303 yX10_greatestBound ∈ GW := mG 1013 (by decide +kernel) rfl
theorem wg_674 : Cond.static yX10_greatestBound ∈ GW := mG 674 (by decide +kernel) rfl
theorem cS_X10_greatestBound : CS yX10_greatestBound cX10_greatestBound 2 (some .int) 2 := ⟨mG 675 (by decide +kernel) rfl, wg_157, wg_674, by decide +kernel, by decide +kernel, by decide +kernel⟩
theorem wn_339 : Cond.fieldLinkNest "RulerWord" 155 "RulerWord$Course" "falses" "I" "RulerWord" ∈ NW := mN 339 (by decide +kernel) rfl
theorem wg_1032 : Cond.methodLink "RulerWord" 309 yX10_isAsked ∈ GW := mG 1032 (by decide +kernel) rfl
theorem wg_1034 : Cond.instanceMethod yX10_isAsked ∈ GW := mG 1034 (by decide +kernel) rfl
theorem wg_63 : Cond.selects "RulerWord" yX10_isAsked yX10_isAsked ∈ GW := mG 63 (by decide +kernel) rfl
theorem cV_X10_isAsked : CV yX10_isAsked cX10_isAsked 2 (some .boolean) 1 := ⟨mG 1035 (by decide +kernel) rfl, wg_157, wg_1034, wg_63, by decide +kernel, by decide +kernel, by decide +kernel⟩
theorem wg_1126 : Cond.methodLink "RulerWord" 325 yX10_broken ∈ GW := mG 1126 (by decide +kernel) rfl
theorem wg_1029 : Cond.instanceMethod yX10_broken ∈ GW := mG 1029 (by decide +kernel) rfl
theorem wg_1030 : Cond.selects "RulerWord" yX10_broken yX10_broken ∈ GW := mG 1030 (by decide +kernel) rfl
theorem cV_X10_broken : CV yX10_broken cX10_broken 1 (some .int) 0 := ⟨mG 1031 (by decide +kernel) rfl, wg_157, wg_1029, wg_1030, by decide +kernel, by decide +kernel, by decide +kernel⟩
theorem wg_952 : Cond.methodLink "RulerWord" 241 yX10_isOver ∈ GW := mG 952 (by decide +kernel) rfl
theorem wg_954 : Cond.instanceMethod yX10_isOver ∈ GW := mG 954 (by decide +kernel) rfl
theorem wg_54 : Cond.selects "RulerWord" yX10_isOver yX10_isOver ∈ GW := mG 54 (by decide +kernel) rfl
theorem cV_X10_isOver : CV yX10_isOver cX10_isOver 2 (some .boolean) 1 := ⟨mG 955 (by decide +kernel) rfl, wg_157, wg_954, wg_54, by decide +kernel, by decide +kernel, by decide +kernel⟩
theorem wg_486 : Cond.fieldLink "RulerWord" 73 "RulerWord" "acts" "LRulerWord$Acts;" ∈ GW := mG 486 (by decide +kernel) rfl
theorem wn_1210 : Cond.methodLinkNest "RulerWord" 380 yX0_takeBack "RulerWord" ∈ NW := mN 1210 (by decide +kernel) rfl
theorem wg_166 : Cond.initialized "RulerWord$Acts" ∈ GW := mG 166 (by decide +kernel) rfl
theorem wg_1212 : Cond.instanceMethod yX0_takeBack ∈ GW := mG 1212 (by decide +kernel) rfl
theorem wg_89 : Cond.selects "RulerWord$Acts" yX0_takeBack yX0_takeBack ∈ GW := mG 89 (by decide +kernel) rfl
theorem cV_X0_takeBack : CV yX0_takeBack cX0_takeBack 2 (some .boolean) 1 := ⟨mG 1213 (by decide +kernel) rfl, wg_166, wg_1212, wg_89, by decide +kernel, by decide +kernel, by decide +kernel⟩
theorem wg_491 : Cond.fieldLink "RulerWord" 112 "RulerWord" "imaged" "Z" ∈ GW := mG 491 (by decide +kernel) rfl
theorem wn_416 : Cond.fieldLinkNest "RulerWord" 119 "RulerWord$Acts" "depth" "I" "RulerWord" ∈ NW := mN 416 (by decide +kernel) rfl
theorem wn_341 : Cond.fieldLinkNest "RulerWord" 159 "RulerWord$Course" "gone" "I" "RulerWord" ∈ NW := mN 341 (by decide +kernel) rfl
