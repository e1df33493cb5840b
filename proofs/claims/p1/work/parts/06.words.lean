theorem wg_objInit : Cond.code objectInit ⟨#[0xb1]⟩ 1 none ∈ GW := mG 188 (by decide +kernel) rfl
theorem wg_490 : Cond.fieldLink "RulerWord" 108 "RulerWord" "convened" "Z" ∈ GW := mG 490 (by decide +kernel) rfl
theorem inX10 : ∀ w ∈ u_ws RX10 TX10 18, w ∈ GW := by
  have h : (u_ws RX10 TX10 18).all (fun w => decide (w ∈ lw_tbl) && goodWord w) = true := by decide +kernel
  intro w hw
  have h1 := List.all_eq_true.mp h w hw
  simp only [Bool.and_eq_true, decide_eq_true_eq] at h1
  exact List.mem_filter.mpr h1
theorem wg_751 : Cond.methodLink "RulerWord" 183 yX10_roundsLeft ∈ GW := mG 751 (by decide +kernel) rfl
theorem wg_157 : Cond.initialized "RulerWord" ∈ GW := mG 157 (by decide +kernel) rfl
theorem wg_753 : Cond.instanceMethod yX10_roundsLeft ∈ GW := mG 753 (by decide +kernel) rfl
theorem wg_23 : Cond.selects "RulerWord" yX10_roundsLeft yX10_roundsLeft ∈ GW := mG 23 (by decide +kernel) rfl
theorem cV_X10_roundsLeft : CV yX10_roundsLeft cX10_roundsLeft 1 (some .int) 0 := ⟨mG 754 (by decide +kernel) rfl, wg_157, wg_753, wg_23, by decide +kernel, by decide +kernel, by decide +kernel⟩
theorem wg_897 : Cond.methodLink "RulerWord" 217 yX10_isPeer ∈ GW := mG 897 (by decide +kernel) rfl
theorem wg_899 : Cond.instanceMethod yX10_isPeer ∈ GW := mG 899 (by decide +kernel) rfl
theorem wg_46 : Cond.selects "RulerWord" yX10_isPeer yX10_isPeer ∈ GW := mG 46 (by decide +kernel) rfl
theorem cV_X10_isPeer : CV yX10_isPeer cX10_isPeer 2 (some .boolean) 1 := ⟨mG 900 (by decide +kernel) rfl, wg_157, wg_899, wg_46, by decide +kernel, by decide +kernel, by decide +kernel⟩
